theorem eX12_type_0 : vD cX12_type 0 (.iconst 0) 1 1 := ⟨by decide +kernel, rfl⟩
theorem eX12_type_1 : vD cX12_type 1 (.istore 5) 2 3 := ⟨by decide +kernel, rfl⟩
theorem eX12_type_3 : vD cX12_type 3 (.iload 5) 2 5 := ⟨by decide +kernel, rfl⟩
theorem eX12_type_5 : vD cX12_type 5 (.iconst 4) 1 6 := ⟨by decide +kernel, rfl⟩
theorem eX12_type_6 : vD cX12_type 6 (.if_icmp .ge 94) 3 9 := ⟨by decide +kernel, rfl⟩
theorem eX12_type_9 : vD cX12_type 9 (.aload_n 0) 1 10 := ⟨by decide +kernel, rfl⟩
theorem eX12_type_10 : vD cX12_type 10 (.getfield 81) 3 13 := ⟨by decide +kernel, rfl⟩
theorem eX12_type_13 : vD cX12_type 13 (.bipush 16) 2 15 := ⟨by decide +kernel, rfl⟩
theorem eX12_type_15 : vD cX12_type 15 (.iload 5) 2 17 := ⟨by decide +kernel, rfl⟩
theorem eX12_type_17 : vD cX12_type 17 .iadd 1 18 := ⟨by decide +kernel, rfl⟩
theorem eX12_type_18 : vD cX12_type 18 (.iload_n 1) 1 19 := ⟨by decide +kernel, rfl⟩
theorem eX12_type_19 : vD cX12_type 19 (.bipush 24) 2 21 := ⟨by decide +kernel, rfl⟩
theorem eX12_type_21 : vD cX12_type 21 (.bipush 8) 2 23 := ⟨by decide +kernel, rfl⟩
theorem eX12_type_23 : vD cX12_type 23 (.iload 5) 2 25 := ⟨by decide +kernel, rfl⟩
theorem eX12_type_25 : vD cX12_type 25 .imul 1 26 := ⟨by decide +kernel, rfl⟩
theorem eX12_type_26 : vD cX12_type 26 .isub 1 27 := ⟨by decide +kernel, rfl⟩
theorem eX12_type_27 : vD cX12_type 27 .ishr 1 28 := ⟨by decide +kernel, rfl⟩
theorem eX12_type_28 : vD cX12_type 28 .i2b 1 29 := ⟨by decide +kernel, rfl⟩
theorem eX12_type_29 : vD cX12_type 29 .bastore 1 30 := ⟨by decide +kernel, rfl⟩
theorem eX12_type_30 : vD cX12_type 30 (.aload_n 0) 1 31 := ⟨by decide +kernel, rfl⟩
theorem eX12_type_31 : vD cX12_type 31 (.getfield 81) 3 34 := ⟨by decide +kernel, rfl⟩
theorem eX12_type_34 : vD cX12_type 34 (.bipush 20) 2 36 := ⟨by decide +kernel, rfl⟩
theorem eX12_type_36 : vD cX12_type 36 (.iload 5) 2 38 := ⟨by decide +kernel, rfl⟩
theorem eX12_type_38 : vD cX12_type 38 .iadd 1 39 := ⟨by decide +kernel, rfl⟩
theorem eX12_type_39 : vD cX12_type 39 (.iload_n 2) 1 40 := ⟨by decide +kernel, rfl⟩
theorem eX12_type_40 : vD cX12_type 40 (.bipush 24) 2 42 := ⟨by decide +kernel, rfl⟩
theorem eX12_type_42 : vD cX12_type 42 (.bipush 8) 2 44 := ⟨by decide +kernel, rfl⟩
theorem eX12_type_44 : vD cX12_type 44 (.iload 5) 2 46 := ⟨by decide +kernel, rfl⟩
theorem eX12_type_46 : vD cX12_type 46 .imul 1 47 := ⟨by decide +kernel, rfl⟩
theorem eX12_type_47 : vD cX12_type 47 .isub 1 48 := ⟨by decide +kernel, rfl⟩
theorem eX12_type_48 : vD cX12_type 48 .ishr 1 49 := ⟨by decide +kernel, rfl⟩
theorem eX12_type_49 : vD cX12_type 49 .i2b 1 50 := ⟨by decide +kernel, rfl⟩
theorem eX12_type_50 : vD cX12_type 50 .bastore 1 51 := ⟨by decide +kernel, rfl⟩
theorem eX12_type_51 : vD cX12_type 51 (.aload_n 0) 1 52 := ⟨by decide +kernel, rfl⟩
theorem eX12_type_52 : vD cX12_type 52 (.getfield 81) 3 55 := ⟨by decide +kernel, rfl⟩
theorem eX12_type_55 : vD cX12_type 55 (.bipush 24) 2 57 := ⟨by decide +kernel, rfl⟩
theorem eX12_type_57 : vD cX12_type 57 (.iload 5) 2 59 := ⟨by decide +kernel, rfl⟩
theorem eX12_type_59 : vD cX12_type 59 .iadd 1 60 := ⟨by decide +kernel, rfl⟩
theorem eX12_type_60 : vD cX12_type 60 (.iload_n 3) 1 61 := ⟨by decide +kernel, rfl⟩
theorem eX12_type_61 : vD cX12_type 61 (.bipush 24) 2 63 := ⟨by decide +kernel, rfl⟩
theorem eX12_type_63 : vD cX12_type 63 (.bipush 8) 2 65 := ⟨by decide +kernel, rfl⟩
theorem eX12_type_65 : vD cX12_type 65 (.iload 5) 2 67 := ⟨by decide +kernel, rfl⟩
theorem eX12_type_67 : vD cX12_type 67 .imul 1 68 := ⟨by decide +kernel, rfl⟩
theorem eX12_type_68 : vD cX12_type 68 .isub 1 69 := ⟨by decide +kernel, rfl⟩
theorem eX12_type_69 : vD cX12_type 69 .ishr 1 70 := ⟨by decide +kernel, rfl⟩
theorem eX12_type_70 : vD cX12_type 70 .i2b 1 71 := ⟨by decide +kernel, rfl⟩
theorem eX12_type_71 : vD cX12_type 71 .bastore 1 72 := ⟨by decide +kernel, rfl⟩
theorem eX12_type_72 : vD cX12_type 72 (.aload_n 0) 1 73 := ⟨by decide +kernel, rfl⟩
theorem eX12_type_73 : vD cX12_type 73 (.getfield 81) 3 76 := ⟨by decide +kernel, rfl⟩
theorem eX12_type_76 : vD cX12_type 76 (.bipush 28) 2 78 := ⟨by decide +kernel, rfl⟩
theorem eX12_type_78 : vD cX12_type 78 (.iload 5) 2 80 := ⟨by decide +kernel, rfl⟩
theorem eX12_type_80 : vD cX12_type 80 .iadd 1 81 := ⟨by decide +kernel, rfl⟩
theorem eX12_type_81 : vD cX12_type 81 (.iload 4) 2 83 := ⟨by decide +kernel, rfl⟩
theorem eX12_type_83 : vD cX12_type 83 (.bipush 24) 2 85 := ⟨by decide +kernel, rfl⟩
theorem eX12_type_85 : vD cX12_type 85 (.bipush 8) 2 87 := ⟨by decide +kernel, rfl⟩
theorem eX12_type_87 : vD cX12_type 87 (.iload 5) 2 89 := ⟨by decide +kernel, rfl⟩
theorem eX12_type_89 : vD cX12_type 89 .imul 1 90 := ⟨by decide +kernel, rfl⟩
theorem eX12_type_90 : vD cX12_type 90 .isub 1 91 := ⟨by decide +kernel, rfl⟩
theorem eX12_type_91 : vD cX12_type 91 .ishr 1 92 := ⟨by decide +kernel, rfl⟩
theorem eX12_type_92 : vD cX12_type 92 .i2b 1 93 := ⟨by decide +kernel, rfl⟩
theorem eX12_type_93 : vD cX12_type 93 .bastore 1 94 := ⟨by decide +kernel, rfl⟩
theorem eX12_type_94 : vD cX12_type 94 (.iinc 5 1) 3 97 := ⟨by decide +kernel, rfl⟩
theorem eX12_type_97 : vD cX12_type 97 (.goto (-94)) 3 100 := ⟨by decide +kernel, rfl⟩
theorem eX12_type_100 : vD cX12_type 100 .return_ 1 101 := ⟨by decide +kernel, rfl⟩
theorem eX12_place_0 : vD cX12_place 0 (.iconst 0) 1 1 := ⟨by decide +kernel, rfl⟩
theorem eX12_place_1 : vD cX12_place 1 (.istore 4) 2 3 := ⟨by decide +kernel, rfl⟩
theorem eX12_place_3 : vD cX12_place 3 (.iload 4) 2 5 := ⟨by decide +kernel, rfl⟩
theorem eX12_place_5 : vD cX12_place 5 (.iconst 4) 1 6 := ⟨by decide +kernel, rfl⟩
theorem eX12_place_6 : vD cX12_place 6 (.if_icmp .ge 27) 3 9 := ⟨by decide +kernel, rfl⟩
theorem eX12_place_9 : vD cX12_place 9 (.aload_n 0) 1 10 := ⟨by decide +kernel, rfl⟩
theorem eX12_place_10 : vD cX12_place 10 (.getfield 81) 3 13 := ⟨by decide +kernel, rfl⟩
theorem eX12_place_13 : vD cX12_place 13 (.iload 4) 2 15 := ⟨by decide +kernel, rfl⟩
theorem eX12_place_15 : vD cX12_place 15 (.iload_n 1) 1 16 := ⟨by decide +kernel, rfl⟩
theorem eX12_place_16 : vD cX12_place 16 (.bipush 24) 2 18 := ⟨by decide +kernel, rfl⟩
theorem eX12_place_18 : vD cX12_place 18 (.bipush 8) 2 20 := ⟨by decide +kernel, rfl⟩
theorem eX12_place_20 : vD cX12_place 20 (.iload 4) 2 22 := ⟨by decide +kernel, rfl⟩
theorem eX12_place_22 : vD cX12_place 22 .imul 1 23 := ⟨by decide +kernel, rfl⟩
theorem eX12_place_23 : vD cX12_place 23 .isub 1 24 := ⟨by decide +kernel, rfl⟩
theorem eX12_place_24 : vD cX12_place 24 .ishr 1 25 := ⟨by decide +kernel, rfl⟩
theorem eX12_place_25 : vD cX12_place 25 .i2b 1 26 := ⟨by decide +kernel, rfl⟩
theorem eX12_place_26 : vD cX12_place 26 .bastore 1 27 := ⟨by decide +kernel, rfl⟩
theorem eX12_place_27 : vD cX12_place 27 (.iinc 4 1) 3 30 := ⟨by decide +kernel, rfl⟩
theorem eX12_place_30 : vD cX12_place 30 (.goto (-27)) 3 33 := ⟨by decide +kernel, rfl⟩
theorem eX12_place_33 : vD cX12_place 33 (.iconst 0) 1 34 := ⟨by decide +kernel, rfl⟩
theorem eX12_place_34 : vD cX12_place 34 (.istore 4) 2 36 := ⟨by decide +kernel, rfl⟩
theorem eX12_place_36 : vD cX12_place 36 (.iload 4) 2 38 := ⟨by decide +kernel, rfl⟩
theorem eX12_place_38 : vD cX12_place 38 (.iconst 4) 1 39 := ⟨by decide +kernel, rfl⟩
theorem eX12_place_39 : vD cX12_place 39 (.if_icmp .ge 19) 3 42 := ⟨by decide +kernel, rfl⟩
theorem eX12_place_42 : vD cX12_place 42 (.aload_n 0) 1 43 := ⟨by decide +kernel, rfl⟩
theorem eX12_place_43 : vD cX12_place 43 (.getfield 81) 3 46 := ⟨by decide +kernel, rfl⟩
theorem eX12_place_46 : vD cX12_place 46 (.iconst 4) 1 47 := ⟨by decide +kernel, rfl⟩
theorem eX12_place_47 : vD cX12_place 47 (.iload 4) 2 49 := ⟨by decide +kernel, rfl⟩
theorem eX12_place_49 : vD cX12_place 49 .iadd 1 50 := ⟨by decide +kernel, rfl⟩
theorem eX12_place_50 : vD cX12_place 50 (.iconst 0) 1 51 := ⟨by decide +kernel, rfl⟩
theorem eX12_place_51 : vD cX12_place 51 .bastore 1 52 := ⟨by decide +kernel, rfl⟩
theorem eX12_place_52 : vD cX12_place 52 (.iinc 4 1) 3 55 := ⟨by decide +kernel, rfl⟩
theorem eX12_place_55 : vD cX12_place 55 (.goto (-19)) 3 58 := ⟨by decide +kernel, rfl⟩
theorem eX12_place_58 : vD cX12_place 58 (.iconst 0) 1 59 := ⟨by decide +kernel, rfl⟩
theorem eX12_place_59 : vD cX12_place 59 (.istore 4) 2 61 := ⟨by decide +kernel, rfl⟩
theorem eX12_place_61 : vD cX12_place 61 (.iload 4) 2 63 := ⟨by decide +kernel, rfl⟩
theorem eX12_place_63 : vD cX12_place 63 (.bipush 8) 2 65 := ⟨by decide +kernel, rfl⟩
theorem eX12_place_65 : vD cX12_place 65 (.if_icmp .ge 31) 3 68 := ⟨by decide +kernel, rfl⟩
theorem eX12_place_68 : vD cX12_place 68 (.aload_n 0) 1 69 := ⟨by decide +kernel, rfl⟩
theorem eX12_place_69 : vD cX12_place 69 (.getfield 81) 3 72 := ⟨by decide +kernel, rfl⟩
theorem eX12_place_72 : vD cX12_place 72 (.bipush 8) 2 74 := ⟨by decide +kernel, rfl⟩
theorem eX12_place_74 : vD cX12_place 74 (.iload 4) 2 76 := ⟨by decide +kernel, rfl⟩
theorem eX12_place_76 : vD cX12_place 76 .iadd 1 77 := ⟨by decide +kernel, rfl⟩
theorem eX12_place_77 : vD cX12_place 77 (.lload_n 2) 1 78 := ⟨by decide +kernel, rfl⟩
theorem eX12_place_78 : vD cX12_place 78 (.bipush 56) 2 80 := ⟨by decide +kernel, rfl⟩
theorem eX12_place_80 : vD cX12_place 80 (.bipush 8) 2 82 := ⟨by decide +kernel, rfl⟩
theorem eX12_place_82 : vD cX12_place 82 (.iload 4) 2 84 := ⟨by decide +kernel, rfl⟩
theorem eX12_place_84 : vD cX12_place 84 .imul 1 85 := ⟨by decide +kernel, rfl⟩
theorem eX12_place_85 : vD cX12_place 85 .isub 1 86 := ⟨by decide +kernel, rfl⟩
theorem eX12_place_86 : vD cX12_place 86 .lshr 1 87 := ⟨by decide +kernel, rfl⟩
theorem eX12_place_87 : vD cX12_place 87 .l2i 1 88 := ⟨by decide +kernel, rfl⟩
theorem eX12_place_88 : vD cX12_place 88 .i2b 1 89 := ⟨by decide +kernel, rfl⟩
theorem eX12_place_89 : vD cX12_place 89 .bastore 1 90 := ⟨by decide +kernel, rfl⟩
theorem eX12_place_90 : vD cX12_place 90 (.iinc 4 1) 3 93 := ⟨by decide +kernel, rfl⟩
theorem eX12_place_93 : vD cX12_place 93 (.goto (-32)) 3 96 := ⟨by decide +kernel, rfl⟩
theorem eX12_place_96 : vD cX12_place 96 .return_ 1 97 := ⟨by decide +kernel, rfl⟩

def mvF (f : Nat → Int32) (a b n : Nat) (g : Nat → Int32) : Nat → Int32 := itN (fun i g => upd g (b + i) (vp_nar .byte (f (a + i)))) n g
/-- byte i of four, the highest first; of eight -/
def b4 (v : Int32) (i : Nat) : Int32 := vp_nar .byte (v >>> (nI (24 - 8 * i) &&& 31)).toInt8.toInt32
def b8 (v : Int64) (i : Nat) : Int32 := vp_nar .byte (v >>> ((nI (56 - 8 * i)).toInt64 &&& 63)).toInt32.toInt8.toInt32
def tyF (t x y z : Int32) (n : Nat) (A : Nat → Int32) : Nat → Int32 := itN (fun i A => upd (upd (upd (upd A (16 + i) (b4 t i)) (20 + i) (b4 x i)) (24 + i) (b4 y i)) (28 + i) (b4 z i)) n A
def plA (v : Int32) (n : Nat) (A : Nat → Int32) : Nat → Int32 := itN (fun i A => upd A i (b4 v i)) n A
def plB (n : Nat) (A : Nat → Int32) : Nat → Int32 := itN (fun i A => upd A (4 + i) (vp_nar .byte 0)) n A
def plC (v : Int64) (n : Nat) (A : Nat → Int32) : Nat → Int32 := itN (fun i A => upd A (8 + i) (b8 v i)) n A
section M8
variable {G : vG} {B : Nat} {l : Launch} {ad : Nat → Nat} {N : Nat}
set_option maxRecDepth 100000 in
set_option maxHeartbeats 4000000 in
theorem c_move (I : nI1 ad N) {σ : nS} {kf kt nf nt : Nat} {f g : Nat → Int32} (hfN : kf < N) (htN : kt < N) (hne : kf ≠ kt) (hf : σ kf = eB G nf f) (ht : σ kt = eB G nt g) (a b n : Nat) (h1 : a + n ≤ nf) (h2 : b + n ≤ nt) (hnf : nf < 2 ^ 31) (hnt : nt < 2 ^ 31) : nOk G B l ad N yX12_move cX12_move 6 none 0 0 0 [.ref (ad kf), .int (nI a), .ref (ad kt), .int (nI b), .int (nI n)] σ (fun r σ' => r = none ∧ σ' = va_up σ kt (eB G nt (mvF f a b n g))) := by
  refine vOk.of (by decide +kernel) (Nat.le_of_ble_eq_true rfl) ?_
  intro p e s m args below meth c C
  refine v_eq (lv' := [(0, .ref (ad kf)), (1, .int (nI a)), (2, .ref (ad kt)), (3, .int (nI b)), (4, .int (nI n))]) rfl rfl rfl ?_
  refine v_eq (w' := nW ad N (va_up σ kt (eB G nt (mvF f a b 0 g)))) (by rw [show mvF f a b 0 g = g from rfl, n_id ht]) rfl rfl ?_
  refine v_iconst (v := (0 : Int32)) C eX12_move_0 (by decide) ?_
  refine v_istore (lv' := [(0, .ref (ad kf)), (1, .int (nI a)), (2, .ref (ad kt)), (3, .int (nI b)), (4, .int (nI n)), (5, .int ((0 : Int32)))]) C eX12_move_1 (by decide) [1, 2, 3, 4, 5, 0] rfl ?_
  refine v_forV (fun i => va_up σ kt (eB G nt (mvF f a b i g))) (fun i => [(0, .ref (ad kf)), (1, .int (nI a)), (2, .ref (ad kt)), (3, .int (nI b)), (4, .int (nI n)), (5, .int (nI i))]) n ?_ ?_
  · refine v_iload C eX12_move_3 5 rfl ?_
    refine v_iload C eX12_move_5 4 rfl ?_
    refine v_icmp_ge (tgt := 28) C eX12_move_7 (by decide) (fun _ => ?_) (fun h => absurd (ix_le (a := n) (b := n) (rfl : nI n = nI n) (rfl : nI n = nI n) (by omega) (by omega) (by omega)) h)
    exact n_vret C rfl eX12_move_28 ⟨rfl, rfl⟩
  · intro i hi ih
    refine v_iload C eX12_move_3 5 rfl ?_
    refine v_iload C eX12_move_5 4 rfl ?_
    refine v_icmp_ge (tgt := 28) C eX12_move_7 (by decide) (fun h => absurd h (ix_nle (a := n) (b := i) (rfl : nI n = nI n) (rfl : nI i = nI i) (by omega) (by omega) (by omega))) (fun _ => ?_)
    refine v_aload_n C eX12_move_10 rfl 2 rfl ?_
    refine v_iload_n C eX12_move_11 rfl 3 rfl ?_
    refine v_iload C eX12_move_12 5 rfl ?_
    refine v_iadd C eX12_move_14 ?_
    refine v_aload_n C eX12_move_15 rfl 0 rfl ?_
    refine v_iload_n C eX12_move_16 rfl 1 rfl ?_
    refine v_iload C eX12_move_17 5 rfl ?_
    refine v_iadd C eX12_move_19 ?_
    refine n_bald C I eX12_move_20 hfN ((n_ne hne).trans hf) (a + i) (ix_add (a := a) (b := i) (rfl : nI a = nI a) (rfl : nI i = nI i)) (by omega) (by omega) ?_
    refine n_bast C I eX12_move_21 htN n_self (b + i) (ix_add (a := b) (b := i) (rfl : nI b = nI b) (rfl : nI i = nI i)) (by omega) (by omega) ?_
    refine v_eq (w' := nW ad N (va_up σ kt (eB G nt (mvF f a b (i + 1) g)))) (congrArg (nW ad N) (by rw [bx_uu]; rfl)) rfl rfl ?_
    refine v_iinc (lv' := [(0, .ref (ad kf)), (1, .int (nI a)), (2, .ref (ad kt)), (3, .int (nI b)), (4, .int (nI n)), (5, .int (nI (i + 1)))]) C eX12_move_22 5 rfl (ix_inc _) (by decide) [1, 2, 3, 4, 5, 0] rfl ?_
    refine v_goto (tgt := 3) C eX12_move_25 (by decide) ?_
    exact ih

set_option maxRecDepth 100000 in
set_option maxHeartbeats 4000000 in
theorem c_type (I : nI1 ad N) (hN : ∀ k, k < 74 → k < N) {σ : nS} {x : Nat → Int32} {t : Int64} {A : Nat → Int32} (h49 : σ 49 = eO 9 (mO ad x t)) (h28 : σ 28 = eB G 32 A) (ty px py pz : Int32) : nOk G B l ad N yX12_type cX12_type 6 none 0 0 0 [.ref (ad 49), .int ty, .int px, .int py, .int pz] σ (fun r σ' => r = none ∧ σ' = va_up σ 28 (eB G 32 (tyF ty px py pz 4 A))) := by
  refine vOk.of (by decide +kernel) (Nat.le_of_ble_eq_true rfl) ?_
  intro p e s m args below meth c C
  refine v_eq (lv' := [(0, .ref (ad 49)), (1, .int ty), (2, .int px), (3, .int py), (4, .int pz)]) rfl rfl rfl ?_
  refine v_iconst (v := (0 : Int32)) C eX12_type_0 (by decide) ?_
  refine v_istore (lv' := [(0, .ref (ad 49)), (1, .int ty), (2, .int px), (3, .int py), (4, .int pz), (5, .int ((0 : Int32)))]) C eX12_type_1 (by decide) [1, 2, 3, 4, 5, 0] rfl ?_
  refine v_eq (w' := nW ad N (va_up σ 28 (eB G 32 A))) (congrArg (nW ad N) (n_extL [28] ⟨h28, trivial⟩ (fun q h => by simp only [List.mem_cons, List.not_mem_nil, or_false, not_or] at h; simp [va_up, h]))) rfl rfl ?_
  refine v_forV (fun i => va_up σ 28 (eB G 32 (tyF ty px py pz i A))) (fun i => [(0, .ref (ad 49)), (1, .int ty), (2, .int px), (3, .int py), (4, .int pz), (5, .int (nI i))]) 4 ?_ ?_
  · refine v_iload C eX12_type_3 5 rfl ?_
    refine v_iconst (v := (4 : Int32)) C eX12_type_5 (by decide) ?_
    refine v_icmp_ge (tgt := 100) C eX12_type_6 (by decide) (fun _ => ?_) (fun h => absurd (ix_le (a := 4) (b := 4) (rfl : (4 : Int32) = nI 4) (rfl : nI 4 = nI 4) (by omega) (by omega) (by omega)) h)
    exact n_vret C rfl eX12_type_100 ⟨rfl, rfl⟩
  · intro i hi ih
    refine v_iload C eX12_type_3 5 rfl ?_
    refine v_iconst (v := (4 : Int32)) C eX12_type_5 (by decide) ?_
    refine v_icmp_ge (tgt := 100) C eX12_type_6 (by decide) (fun h => absurd h (ix_nle (a := 4) (b := i) (rfl : (4 : Int32) = nI 4) (rfl : nI i = nI i) (by omega) (by omega) (by omega))) (fun _ => ?_)
    refine v_aload_n C eX12_type_9 rfl 0 rfl ?_
    refine n_get C I fX12_81_X12 eX12_type_10 (hN 49 (by decide)) h49 rfl ?_
    refine v_bipush (v := (16 : Int32)) C eX12_type_13 (by decide) ?_
    refine v_iload C eX12_type_15 5 rfl ?_
    refine v_iadd C eX12_type_17 ?_
    refine v_iload_n C eX12_type_18 rfl 1 rfl ?_
    refine v_bipush (v := (24 : Int32)) C eX12_type_19 (by decide) ?_
    refine v_bipush (v := (8 : Int32)) C eX12_type_21 (by decide) ?_
    refine v_iload C eX12_type_23 5 rfl ?_
    refine v_imul C eX12_type_25 ?_
    refine v_isub C eX12_type_26 ?_
    refine v_natT (show ((24 : Int32)) - (((8 : Int32)) * (nI i)) = nI (24 - (8 * i)) from (ix_sub (a := 24) (b := 8 * i) (rfl : (24 : Int32) = nI 24) (ix_mul (a := 8) (b := i) (rfl : (8 : Int32) = nI 8) (rfl : nI i = nI i)) (by omega))) ?_
    refine v_ishr C eX12_type_27 ?_
    refine v_i2b C eX12_type_28 ?_
    refine n_bast C I eX12_type_29 (hN 28 (by decide)) rfl (16 + i) (ix_add (a := 16) (b := i) (rfl : (16 : Int32) = nI 16) (rfl : nI i = nI i)) (by omega) (by decide) ?_
    refine v_eq (w' := nW ad N (va_up σ 28 (eB G 32 (upd (tyF ty px py pz i A) (16 + i) (vp_nar .byte ((ty >>> ((nI (24 - (8 * i))) &&& 31)).toInt8.toInt32)))))) (congrArg (nW ad N) (n_extL [28] ⟨rfl, trivial⟩ (fun q h => by simp only [List.mem_cons, List.not_mem_nil, or_false, not_or] at h; simp [va_up, h]))) rfl rfl ?_
    refine v_aload_n C eX12_type_30 rfl 0 rfl ?_
    refine n_get C I fX12_81_X12 eX12_type_31 (hN 49 (by decide)) h49 rfl ?_
    refine v_bipush (v := (20 : Int32)) C eX12_type_34 (by decide) ?_
    refine v_iload C eX12_type_36 5 rfl ?_
    refine v_iadd C eX12_type_38 ?_
    refine v_iload_n C eX12_type_39 rfl 2 rfl ?_
    refine v_bipush (v := (24 : Int32)) C eX12_type_40 (by decide) ?_
    refine v_bipush (v := (8 : Int32)) C eX12_type_42 (by decide) ?_
    refine v_iload C eX12_type_44 5 rfl ?_
    refine v_imul C eX12_type_46 ?_
    refine v_isub C eX12_type_47 ?_
    refine v_natT (show ((24 : Int32)) - (((8 : Int32)) * (nI i)) = nI (24 - (8 * i)) from (ix_sub (a := 24) (b := 8 * i) (rfl : (24 : Int32) = nI 24) (ix_mul (a := 8) (b := i) (rfl : (8 : Int32) = nI 8) (rfl : nI i = nI i)) (by omega))) ?_
    refine v_ishr C eX12_type_48 ?_
    refine v_i2b C eX12_type_49 ?_
    refine n_bast C I eX12_type_50 (hN 28 (by decide)) rfl (20 + i) (ix_add (a := 20) (b := i) (rfl : (20 : Int32) = nI 20) (rfl : nI i = nI i)) (by omega) (by decide) ?_
    refine v_eq (w' := nW ad N (va_up σ 28 (eB G 32 (upd (upd (tyF ty px py pz i A) (16 + i) (vp_nar .byte ((ty >>> ((nI (24 - (8 * i))) &&& 31)).toInt8.toInt32))) (20 + i) (vp_nar .byte ((px >>> ((nI (24 - (8 * i))) &&& 31)).toInt8.toInt32)))))) (congrArg (nW ad N) (n_extL [28] ⟨rfl, trivial⟩ (fun q h => by simp only [List.mem_cons, List.not_mem_nil, or_false, not_or] at h; simp [va_up, h]))) rfl rfl ?_
    refine v_aload_n C eX12_type_51 rfl 0 rfl ?_
    refine n_get C I fX12_81_X12 eX12_type_52 (hN 49 (by decide)) h49 rfl ?_
    refine v_bipush (v := (24 : Int32)) C eX12_type_55 (by decide) ?_
    refine v_iload C eX12_type_57 5 rfl ?_
    refine v_iadd C eX12_type_59 ?_
    refine v_iload_n C eX12_type_60 rfl 3 rfl ?_
    refine v_bipush (v := (24 : Int32)) C eX12_type_61 (by decide) ?_
    refine v_bipush (v := (8 : Int32)) C eX12_type_63 (by decide) ?_
    refine v_iload C eX12_type_65 5 rfl ?_
    refine v_imul C eX12_type_67 ?_
    refine v_isub C eX12_type_68 ?_
    refine v_natT (show ((24 : Int32)) - (((8 : Int32)) * (nI i)) = nI (24 - (8 * i)) from (ix_sub (a := 24) (b := 8 * i) (rfl : (24 : Int32) = nI 24) (ix_mul (a := 8) (b := i) (rfl : (8 : Int32) = nI 8) (rfl : nI i = nI i)) (by omega))) ?_
    refine v_ishr C eX12_type_69 ?_
    refine v_i2b C eX12_type_70 ?_
    refine n_bast C I eX12_type_71 (hN 28 (by decide)) rfl (24 + i) (ix_add (a := 24) (b := i) (rfl : (24 : Int32) = nI 24) (rfl : nI i = nI i)) (by omega) (by decide) ?_
    refine v_eq (w' := nW ad N (va_up σ 28 (eB G 32 (upd (upd (upd (tyF ty px py pz i A) (16 + i) (vp_nar .byte ((ty >>> ((nI (24 - (8 * i))) &&& 31)).toInt8.toInt32))) (20 + i) (vp_nar .byte ((px >>> ((nI (24 - (8 * i))) &&& 31)).toInt8.toInt32))) (24 + i) (vp_nar .byte ((py >>> ((nI (24 - (8 * i))) &&& 31)).toInt8.toInt32)))))) (congrArg (nW ad N) (n_extL [28] ⟨rfl, trivial⟩ (fun q h => by simp only [List.mem_cons, List.not_mem_nil, or_false, not_or] at h; simp [va_up, h]))) rfl rfl ?_
    refine v_aload_n C eX12_type_72 rfl 0 rfl ?_
    refine n_get C I fX12_81_X12 eX12_type_73 (hN 49 (by decide)) h49 rfl ?_
    refine v_bipush (v := (28 : Int32)) C eX12_type_76 (by decide) ?_
    refine v_iload C eX12_type_78 5 rfl ?_
    refine v_iadd C eX12_type_80 ?_
    refine v_iload C eX12_type_81 4 rfl ?_
    refine v_bipush (v := (24 : Int32)) C eX12_type_83 (by decide) ?_
    refine v_bipush (v := (8 : Int32)) C eX12_type_85 (by decide) ?_
    refine v_iload C eX12_type_87 5 rfl ?_
    refine v_imul C eX12_type_89 ?_
    refine v_isub C eX12_type_90 ?_
    refine v_natT (show ((24 : Int32)) - (((8 : Int32)) * (nI i)) = nI (24 - (8 * i)) from (ix_sub (a := 24) (b := 8 * i) (rfl : (24 : Int32) = nI 24) (ix_mul (a := 8) (b := i) (rfl : (8 : Int32) = nI 8) (rfl : nI i = nI i)) (by omega))) ?_
    refine v_ishr C eX12_type_91 ?_
    refine v_i2b C eX12_type_92 ?_
    refine n_bast C I eX12_type_93 (hN 28 (by decide)) rfl (28 + i) (ix_add (a := 28) (b := i) (rfl : (28 : Int32) = nI 28) (rfl : nI i = nI i)) (by omega) (by decide) ?_
    refine v_eq (w' := nW ad N (va_up σ 28 (eB G 32 (upd (upd (upd (upd (tyF ty px py pz i A) (16 + i) (vp_nar .byte ((ty >>> ((nI (24 - (8 * i))) &&& 31)).toInt8.toInt32))) (20 + i) (vp_nar .byte ((px >>> ((nI (24 - (8 * i))) &&& 31)).toInt8.toInt32))) (24 + i) (vp_nar .byte ((py >>> ((nI (24 - (8 * i))) &&& 31)).toInt8.toInt32))) (28 + i) (vp_nar .byte ((pz >>> ((nI (24 - (8 * i))) &&& 31)).toInt8.toInt32)))))) (congrArg (nW ad N) (n_extL [28] ⟨rfl, trivial⟩ (fun q h => by simp only [List.mem_cons, List.not_mem_nil, or_false, not_or] at h; simp [va_up, h]))) rfl rfl ?_
    refine v_iinc (lv' := [(0, .ref (ad 49)), (1, .int ty), (2, .int px), (3, .int py), (4, .int pz), (5, .int (nI (i + 1)))]) C eX12_type_94 5 rfl (ix_inc _) (by decide) [1, 2, 3, 4, 5, 0] rfl ?_
    refine v_goto (tgt := 3) C eX12_type_97 (by decide) ?_
    exact ih

set_option maxRecDepth 100000 in
set_option maxHeartbeats 4000000 in
theorem c_place (I : nI1 ad N) (hN : ∀ k, k < 74 → k < N) {σ : nS} {x : Nat → Int32} {t : Int64} {A : Nat → Int32} (h49 : σ 49 = eO 9 (mO ad x t)) (h28 : σ 28 = eB G 32 A) (ly : Int32) (tr : Int64) : nOk G B l ad N yX12_place cX12_place 5 none 0 0 0 [.ref (ad 49), .int ly, .long tr] σ (fun r σ' => r = none ∧ σ' = va_up σ 28 (eB G 32 (plC tr 8 (plB 4 (plA ly 4 A))))) := by
  refine vOk.of (by decide +kernel) (Nat.le_of_ble_eq_true rfl) ?_
  intro p e s m args below meth c C
  refine v_eq (lv' := [(0, .ref (ad 49)), (1, .int ly), (2, .long tr)]) rfl rfl rfl ?_
  refine v_iconst (v := (0 : Int32)) C eX12_place_0 (by decide) ?_
  refine v_istore (lv' := [(0, .ref (ad 49)), (1, .int ly), (2, .long tr), (4, .int ((0 : Int32)))]) C eX12_place_1 (by decide) [1, 2, 3, 0] rfl ?_
  refine v_eq (w' := nW ad N (va_up σ 28 (eB G 32 A))) (congrArg (nW ad N) (n_extL [28] ⟨h28, trivial⟩ (fun q h => by simp only [List.mem_cons, List.not_mem_nil, or_false, not_or] at h; simp [va_up, h]))) rfl rfl ?_
  refine v_forV (fun i => va_up σ 28 (eB G 32 (plA ly i A))) (fun i => [(0, .ref (ad 49)), (1, .int ly), (2, .long tr), (4, .int (nI i))]) 4 ?_ ?_
  · refine v_iload C eX12_place_3 3 rfl ?_
    refine v_iconst (v := (4 : Int32)) C eX12_place_5 (by decide) ?_
    refine v_icmp_ge (tgt := 33) C eX12_place_6 (by decide) (fun _ => ?_) (fun h => absurd (ix_le (a := 4) (b := 4) (rfl : (4 : Int32) = nI 4) (rfl : nI 4 = nI 4) (by omega) (by omega) (by omega)) h)
    refine v_iconst (v := (0 : Int32)) C eX12_place_33 (by decide) ?_
    refine v_istore (lv' := [(0, .ref (ad 49)), (1, .int ly), (2, .long tr), (4, .int ((0 : Int32)))]) C eX12_place_34 (by decide) [1, 2, 3, 0] rfl ?_
    refine v_forV (fun i => va_up σ 28 (eB G 32 (plB i (plA ly 4 A)))) (fun i => [(0, .ref (ad 49)), (1, .int ly), (2, .long tr), (4, .int (nI i))]) 4 ?_ ?_
    · refine v_iload C eX12_place_36 3 rfl ?_
      refine v_iconst (v := (4 : Int32)) C eX12_place_38 (by decide) ?_
      refine v_icmp_ge (tgt := 58) C eX12_place_39 (by decide) (fun _ => ?_) (fun h => absurd (ix_le (a := 4) (b := 4) (rfl : (4 : Int32) = nI 4) (rfl : nI 4 = nI 4) (by omega) (by omega) (by omega)) h)
      refine v_iconst (v := (0 : Int32)) C eX12_place_58 (by decide) ?_
      refine v_istore (lv' := [(0, .ref (ad 49)), (1, .int ly), (2, .long tr), (4, .int ((0 : Int32)))]) C eX12_place_59 (by decide) [1, 2, 3, 0] rfl ?_
      refine v_forV (fun i => va_up σ 28 (eB G 32 (plC tr i (plB 4 (plA ly 4 A))))) (fun i => [(0, .ref (ad 49)), (1, .int ly), (2, .long tr), (4, .int (nI i))]) 8 ?_ ?_
      · refine v_iload C eX12_place_61 3 rfl ?_
        refine v_bipush (v := (8 : Int32)) C eX12_place_63 (by decide) ?_
        refine v_icmp_ge (tgt := 96) C eX12_place_65 (by decide) (fun _ => ?_) (fun h => absurd (ix_le (a := 8) (b := 8) (rfl : (8 : Int32) = nI 8) (rfl : nI 8 = nI 8) (by omega) (by omega) (by omega)) h)
        exact n_vret C rfl eX12_place_96 ⟨rfl, rfl⟩
      · intro i hi ih
        refine v_iload C eX12_place_61 3 rfl ?_
        refine v_bipush (v := (8 : Int32)) C eX12_place_63 (by decide) ?_
        refine v_icmp_ge (tgt := 96) C eX12_place_65 (by decide) (fun h => absurd h (ix_nle (a := 8) (b := i) (rfl : (8 : Int32) = nI 8) (rfl : nI i = nI i) (by omega) (by omega) (by omega))) (fun _ => ?_)
        refine v_aload_n C eX12_place_68 rfl 0 rfl ?_
        refine n_get C I fX12_81_X12 eX12_place_69 (hN 49 (by decide)) h49 rfl ?_
        refine v_bipush (v := (8 : Int32)) C eX12_place_72 (by decide) ?_
        refine v_iload C eX12_place_74 3 rfl ?_
        refine v_iadd C eX12_place_76 ?_
        refine v_lload_n C eX12_place_77 rfl 2 rfl ?_
        refine v_bipush (v := (56 : Int32)) C eX12_place_78 (by decide) ?_
        refine v_bipush (v := (8 : Int32)) C eX12_place_80 (by decide) ?_
        refine v_iload C eX12_place_82 3 rfl ?_
        refine v_imul C eX12_place_84 ?_
        refine v_isub C eX12_place_85 ?_
        refine v_natT (show ((56 : Int32)) - (((8 : Int32)) * (nI i)) = nI (56 - (8 * i)) from (ix_sub (a := 56) (b := 8 * i) (rfl : (56 : Int32) = nI 56) (ix_mul (a := 8) (b := i) (rfl : (8 : Int32) = nI 8) (rfl : nI i = nI i)) (by omega))) ?_
        refine v_lshr C eX12_place_86 ?_
        refine v_l2i C eX12_place_87 ?_
        refine v_i2b C eX12_place_88 ?_
        refine n_bast C I eX12_place_89 (hN 28 (by decide)) rfl (8 + i) (ix_add (a := 8) (b := i) (rfl : (8 : Int32) = nI 8) (rfl : nI i = nI i)) (by omega) (by decide) ?_
        refine v_iinc (lv' := [(0, .ref (ad 49)), (1, .int ly), (2, .long tr), (4, .int (nI (i + 1)))]) C eX12_place_90 3 rfl (ix_inc _) (by decide) [1, 2, 3, 0] rfl ?_
        refine v_goto (tgt := 61) C eX12_place_93 (by decide) ?_
        refine v_eq (w' := nW ad N (va_up σ 28 (eB G 32 (upd (plC tr i (plB 4 (plA ly 4 A))) (8 + i) (vp_nar .byte (((tr >>> ((nI (56 - (8 * i))).toInt64 &&& 63)).toInt32).toInt8.toInt32)))))) (congrArg (nW ad N) (n_extL [28] ⟨rfl, trivial⟩ (fun q h => by simp only [List.mem_cons, List.not_mem_nil, or_false, not_or] at h; simp [va_up, h]))) rfl rfl ?_
        exact ih
    · intro i hi ih
      refine v_iload C eX12_place_36 3 rfl ?_
      refine v_iconst (v := (4 : Int32)) C eX12_place_38 (by decide) ?_
      refine v_icmp_ge (tgt := 58) C eX12_place_39 (by decide) (fun h => absurd h (ix_nle (a := 4) (b := i) (rfl : (4 : Int32) = nI 4) (rfl : nI i = nI i) (by omega) (by omega) (by omega))) (fun _ => ?_)
      refine v_aload_n C eX12_place_42 rfl 0 rfl ?_
      refine n_get C I fX12_81_X12 eX12_place_43 (hN 49 (by decide)) h49 rfl ?_
      refine v_iconst (v := (4 : Int32)) C eX12_place_46 (by decide) ?_
      refine v_iload C eX12_place_47 3 rfl ?_
      refine v_iadd C eX12_place_49 ?_
      refine v_iconst (v := (0 : Int32)) C eX12_place_50 (by decide) ?_
      refine n_bast C I eX12_place_51 (hN 28 (by decide)) rfl (4 + i) (ix_add (a := 4) (b := i) (rfl : (4 : Int32) = nI 4) (rfl : nI i = nI i)) (by omega) (by decide) ?_
      refine v_iinc (lv' := [(0, .ref (ad 49)), (1, .int ly), (2, .long tr), (4, .int (nI (i + 1)))]) C eX12_place_52 3 rfl (ix_inc _) (by decide) [1, 2, 3, 0] rfl ?_
      refine v_goto (tgt := 36) C eX12_place_55 (by decide) ?_
      refine v_eq (w' := nW ad N (va_up σ 28 (eB G 32 (upd (plB i (plA ly 4 A)) (4 + i) (vp_nar .byte ((0 : Int32))))))) (congrArg (nW ad N) (n_extL [28] ⟨rfl, trivial⟩ (fun q h => by simp only [List.mem_cons, List.not_mem_nil, or_false, not_or] at h; simp [va_up, h]))) rfl rfl ?_
      exact ih
  · intro i hi ih
    refine v_iload C eX12_place_3 3 rfl ?_
    refine v_iconst (v := (4 : Int32)) C eX12_place_5 (by decide) ?_
    refine v_icmp_ge (tgt := 33) C eX12_place_6 (by decide) (fun h => absurd h (ix_nle (a := 4) (b := i) (rfl : (4 : Int32) = nI 4) (rfl : nI i = nI i) (by omega) (by omega) (by omega))) (fun _ => ?_)
    refine v_aload_n C eX12_place_9 rfl 0 rfl ?_
    refine n_get C I fX12_81_X12 eX12_place_10 (hN 49 (by decide)) h49 rfl ?_
    refine v_iload C eX12_place_13 3 rfl ?_
    refine v_iload_n C eX12_place_15 rfl 1 rfl ?_
    refine v_bipush (v := (24 : Int32)) C eX12_place_16 (by decide) ?_
    refine v_bipush (v := (8 : Int32)) C eX12_place_18 (by decide) ?_
    refine v_iload C eX12_place_20 3 rfl ?_
    refine v_imul C eX12_place_22 ?_
    refine v_isub C eX12_place_23 ?_
    refine v_natT (show ((24 : Int32)) - (((8 : Int32)) * (nI i)) = nI (24 - (8 * i)) from (ix_sub (a := 24) (b := 8 * i) (rfl : (24 : Int32) = nI 24) (ix_mul (a := 8) (b := i) (rfl : (8 : Int32) = nI 8) (rfl : nI i = nI i)) (by omega))) ?_
    refine v_ishr C eX12_place_24 ?_
    refine v_i2b C eX12_place_25 ?_
    refine n_bast C I eX12_place_26 (hN 28 (by decide)) rfl i (rfl : nI i = nI i) (by omega) (by decide) ?_
    refine v_iinc (lv' := [(0, .ref (ad 49)), (1, .int ly), (2, .long tr), (4, .int (nI (i + 1)))]) C eX12_place_27 3 rfl (ix_inc _) (by decide) [1, 2, 3, 0] rfl ?_
    refine v_goto (tgt := 3) C eX12_place_30 (by decide) ?_
    refine v_eq (w' := nW ad N (va_up σ 28 (eB G 32 (upd (plA ly i A) i (vp_nar .byte ((ly >>> ((nI (24 - (8 * i))) &&& 31)).toInt8.toInt32)))))) (congrArg (nW ad N) (n_extL [28] ⟨rfl, trivial⟩ (fun q h => by simp only [List.mem_cons, List.not_mem_nil, or_false, not_or] at h; simp [va_up, h]))) rfl rfl ?_
    exact ih

end M8
