def abT : Nat → Nat × Nat
  | 0 => (1, 0)
  | j + 1 => ((abT j).2, (2 * (abT j).1 + 3 * (abT j).2) % 5)
theorem abT_lt : ∀ j, (abT j).1 < 5 ∧ (abT j).2 < 5
  | 0 => by decide
  | j + 1 => ⟨(abT_lt j).2, Nat.mod_lt _ (by decide)⟩
def tnA (f : Nat → Int32) : Nat → Nat → Int32
  | 0 => f
  | j + 1 => upd (tnA f j) ((abT j).1 + 5 * (abT j).2) (nI ((j + 1) * (j + 2) / 2 % 64))
def riA (f : Nat → Int64) (i : Nat) : Nat → Nat → Int64
  | 0 => f
  | j + 1 => if rgN ((j + 7 * i) % 255) % 2 = 1 then vp_updL (riA f i j) i (riA f i j i ||| (1 <<< ((nI (2 ^ j - 1)).toInt64 &&& 63))) else riA f i j
def roA (f : Nat → Int64) : Nat → Nat → Int64
  | 0 => f
  | i + 1 => riA (roA f i) i 7
section M47
variable {G : vG} {B : Nat} {l : Launch} {ad : Nat → Nat} {N : Nat} {σ : nS} {x : Nat → Int32} {t : Int64}
set_option maxRecDepth 100000 in
set_option maxHeartbeats 4000000 in
theorem cs_2 (I : nI1 ad N) (hN : ∀ k, k < 74 → k < N) {p : Program} {e : Env} {R : Room} {s : State} {m : MethodId} {args : Array Value} {below : List Frame} {meth : Method} {c : Code} {Q : State → Prop} (C : vC G B p m meth c cX12_constants 6 none s args yX12_constants.cls) (ho : σ 49 = eO 9 (mO ad x t)) {f11 : Nat → Int32} (ht : σ 11 = eI G 25 f11) {d1 : Nat} (hR : R = vRm d1 0 0) (hd1 : 0 ≤ d1) (kk : ∀ σ', ((∀ k, ¬ (k = 11) → σ' k = σ k) ∧ σ' 11 = eI G 25 (tnA f11 24)) → V G B p l e R s m args below meth c 6 0 0 Q (nW ad N σ') 119 [(0, .ref (ad 49))] []) : V G B p l e R s m args below meth c 6 0 0 Q (nW ad N σ) 59 [(0, .ref (ad 49))] [] := by
  subst hR
  refine v_iconst (v := (1 : Int32)) C eX12_constants_59 (by decide) ?_
  refine v_natT (show (1 : Int32) = nI (abT 0).1 from rfl) ?_
  refine v_istore_n (lv' := [(0, .ref (ad 49)), (2, .int (nI (abT 0).1))]) C eX12_constants_60 rfl (by decide) [1, 0] rfl ?_
  refine v_iconst (v := (0 : Int32)) C eX12_constants_61 (by decide) ?_
  refine v_natT (show (0 : Int32) = nI (abT 0).2 from rfl) ?_
  refine v_istore_n (lv' := [(0, .ref (ad 49)), (2, .int (nI (abT 0).1)), (3, .int (nI (abT 0).2))]) C eX12_constants_62 rfl (by decide) [1, 2, 0] rfl ?_
  refine v_iconst (v := nI 0) C eX12_constants_63 (by decide) ?_
  refine v_istore (lv' := [(0, .ref (ad 49)), (2, .int (nI (abT 0).1)), (3, .int (nI (abT 0).2)), (4, .int (nI 0))]) C eX12_constants_64 (by decide) [1, 2, 3, 0] rfl ?_
  refine v_forP (fun j τ => (∀ k, ¬ (k = 11) → τ k = σ k) ∧ τ 11 = eI G 25 (tnA f11 j)) (fun j => [(0, .ref (ad 49)), (2, .int (nI (abT j).1)), (3, .int (nI (abT j).2)), (4, .int (nI j))]) 24 ?_ ?_ _ ⟨fun k _ => rfl, ht⟩
  · intro τ hI
    obtain ⟨hk1, ht1⟩ := hI
    have ho1 : τ 49 = eO 9 (mO ad x t) := (hk1 49 (by decide)).trans ho
    refine v_iload C eX12_constants_66 3 rfl ?_
    refine v_bipush (v := (24 : Int32)) C eX12_constants_68 (by decide) ?_
    refine v_icmp_ge (tgt := 119) C eX12_constants_70 (by decide) (fun _ => ?_) (fun h => absurd (ix_le (a := 24) (b := 24) (rfl : (24 : Int32) = nI 24) (rfl : nI 24 = nI 24) (by omega) (by omega) (by omega)) h)
    refine v_pick (lv' := [(0, .ref (ad 49))]) [0] rfl ?_
    exact kk τ ⟨hk1, ht1⟩
  · intro j hj ih τ hI
    obtain ⟨hk1, ht1⟩ := hI
    have ho1 : τ 49 = eO 9 (mO ad x t) := (hk1 49 (by decide)).trans ho
    obtain ⟨hA, hB⟩ := abT_lt j
    have hjj : (j + 1) * (j + 2) ≤ 24 * 25 := Nat.mul_le_mul (by omega) (by omega)
    refine v_iload C eX12_constants_66 3 rfl ?_
    refine v_bipush (v := (24 : Int32)) C eX12_constants_68 (by decide) ?_
    refine v_icmp_ge (tgt := 119) C eX12_constants_70 (by decide) (fun h => absurd h (ix_nle (a := 24) (b := j) (rfl : (24 : Int32) = nI 24) (rfl : nI j = nI j) (by omega) (by omega) (by omega))) (fun _ => ?_)
    refine v_aload_n C eX12_constants_73 rfl 0 rfl ?_
    refine n_get C I fX12_42_X12 eX12_constants_74 (hN 49 (by decide)) ho1 rfl ?_
    refine v_iload_n C eX12_constants_77 rfl 1 rfl ?_
    refine v_iconst (v := (5 : Int32)) C eX12_constants_78 (by decide) ?_
    refine v_iload_n C eX12_constants_79 rfl 2 rfl ?_
    refine v_imul C eX12_constants_80 ?_
    refine v_iadd C eX12_constants_81 ?_
    refine v_iload C eX12_constants_82 3 rfl ?_
    refine v_iconst (v := (1 : Int32)) C eX12_constants_84 (by decide) ?_
    refine v_iadd C eX12_constants_85 ?_
    refine v_iload C eX12_constants_86 3 rfl ?_
    refine v_iconst (v := (2 : Int32)) C eX12_constants_88 (by decide) ?_
    refine v_iadd C eX12_constants_89 ?_
    refine v_imul C eX12_constants_90 ?_
    refine v_iconst (v := (2 : Int32)) C eX12_constants_91 (by decide) ?_
    refine v_idiv C eX12_constants_92 (by decide) ?_
    refine v_bipush (v := (64 : Int32)) C eX12_constants_93 (by decide) ?_
    refine v_irem C eX12_constants_95 (by decide) ?_
    refine v_natT (show ((((nI j) + ((1 : Int32))) * ((nI j) + ((2 : Int32)))) / ((2 : Int32))) - ((((nI j) + ((1 : Int32))) * ((nI j) + ((2 : Int32)))) / ((2 : Int32))) / ((64 : Int32)) * ((64 : Int32)) = nI ((((j + 1) * (j + 2)) / 2) % 64) from (ix_rem (a := ((j + 1) * (j + 2)) / 2) (d := 64) (ix_div (a := (j + 1) * (j + 2)) (d := 2) (ix_mul (a := j + 1) (b := j + 2) (ix_add (a := j) (b := 1) (rfl : nI j = nI j) (rfl : (1 : Int32) = nI 1)) (ix_add (a := j) (b := 2) (rfl : nI j = nI j) (rfl : (2 : Int32) = nI 2))) (rfl : (2 : Int32) = nI 2) (by omega) (by omega) (by omega)) (rfl : (64 : Int32) = nI 64) (by omega) (by omega) (by omega))) ?_
    refine n_iast C I eX12_constants_96 (hN 11 (by decide)) ht1 (((abT j).1) + (5 * ((abT j).2))) (ix_add (a := (abT j).1) (b := 5 * ((abT j).2)) (rfl : nI (abT j).1 = nI (abT j).1) (ix_mul (a := 5) (b := (abT j).2) (rfl : (5 : Int32) = nI 5) (rfl : nI (abT j).2 = nI (abT j).2))) (by omega) (by decide) ?_
    refine v_iconst (v := (2 : Int32)) C eX12_constants_97 (by decide) ?_
    refine v_iload_n C eX12_constants_98 rfl 1 rfl ?_
    refine v_imul C eX12_constants_99 ?_
    refine v_iconst (v := (3 : Int32)) C eX12_constants_100 (by decide) ?_
    refine v_iload_n C eX12_constants_101 rfl 2 rfl ?_
    refine v_imul C eX12_constants_102 ?_
    refine v_iadd C eX12_constants_103 ?_
    refine v_iconst (v := (5 : Int32)) C eX12_constants_104 (by decide) ?_
    refine v_irem C eX12_constants_105 (by decide) ?_
    refine v_natT (show ((((2 : Int32)) * (nI (abT j).1)) + (((3 : Int32)) * (nI (abT j).2))) - ((((2 : Int32)) * (nI (abT j).1)) + (((3 : Int32)) * (nI (abT j).2))) / ((5 : Int32)) * ((5 : Int32)) = nI (abT (j + 1)).2 from (ix_rem (a := (2 * ((abT j).1)) + (3 * ((abT j).2))) (d := 5) (ix_add (a := 2 * ((abT j).1)) (b := 3 * ((abT j).2)) (ix_mul (a := 2) (b := (abT j).1) (rfl : (2 : Int32) = nI 2) (rfl : nI (abT j).1 = nI (abT j).1)) (ix_mul (a := 3) (b := (abT j).2) (rfl : (3 : Int32) = nI 3) (rfl : nI (abT j).2 = nI (abT j).2))) (rfl : (5 : Int32) = nI 5) (by omega) (by omega) (by omega))) ?_
    refine v_istore (lv' := [(0, .ref (ad 49)), (2, .int (nI (abT j).1)), (3, .int (nI (abT j).2)), (4, .int (nI j)), (5, .int (nI (abT (j + 1)).2))]) C eX12_constants_106 (by decide) [1, 2, 3, 4, 0] rfl ?_
    refine v_iload_n C eX12_constants_108 rfl 2 rfl ?_
    refine v_istore_n (lv' := [(0, .ref (ad 49)), (2, .int (nI (abT (j + 1)).1)), (3, .int (nI (abT j).2)), (4, .int (nI j)), (5, .int (nI (abT (j + 1)).2))]) C eX12_constants_109 rfl (by decide) [1, 0, 2, 3, 4] rfl ?_
    refine v_iload C eX12_constants_110 4 rfl ?_
    refine v_istore_n (lv' := [(0, .ref (ad 49)), (2, .int (nI (abT (j + 1)).1)), (3, .int (nI (abT (j + 1)).2)), (4, .int (nI j)), (5, .int (nI (abT (j + 1)).2))]) C eX12_constants_112 rfl (by decide) [1, 2, 0, 3, 4] rfl ?_
    refine v_iinc (lv' := [(0, .ref (ad 49)), (2, .int (nI (abT (j + 1)).1)), (3, .int (nI (abT (j + 1)).2)), (4, .int (nI (j + 1))), (5, .int (nI (abT (j + 1)).2))]) C eX12_constants_113 3 rfl (ix_inc _) (by decide) [1, 2, 3, 0, 4] rfl ?_
    refine v_goto (tgt := 66) C eX12_constants_116 (by decide) ?_
    refine v_pick (lv' := [(0, .ref (ad 49)), (2, .int (nI (abT (j + 1)).1)), (3, .int (nI (abT (j + 1)).2)), (4, .int (nI (j + 1)))]) [0, 1, 2, 3] rfl ?_
    exact ih _ ⟨fun k hk => (n_ne hk).trans (hk1 k hk), n_self⟩

set_option maxRecDepth 100000 in
set_option maxHeartbeats 4000000 in
theorem cs_3 (I : nI1 ad N) (hN : ∀ k, k < 74 → k < N) {p : Program} {e : Env} {R : Room} {s : State} {m : MethodId} {args : Array Value} {below : List Frame} {meth : Method} {c : Code} {Q : State → Prop} (C : vC G B p m meth c cX12_constants 6 none s args yX12_constants.cls) (ho : σ 49 = eO 9 (mO ad x t)) {f12 : Nat → Int64} (hq : σ 12 = eJ G 24 f12) {d1 : Nat} (hR : R = vRm d1 0 0) (hd1 : 1 ≤ d1) (kk : ∀ σ', ((∀ k, ¬ (k = 12) → σ' k = σ k) ∧ σ' 12 = eJ G 24 (roA f12 24)) → V G B p l e R s m args below meth c 6 0 0 Q (nW ad N σ') 184 [(0, .ref (ad 49))] []) : V G B p l e R s m args below meth c 6 0 0 Q (nW ad N σ) 119 [(0, .ref (ad 49))] [] := by
  subst hR
  refine v_iconst (v := nI 0) C eX12_constants_119 (by decide) ?_
  refine v_istore (lv' := [(0, .ref (ad 49)), (4, .int (nI 0))]) C eX12_constants_120 (by decide) [1, 0] rfl ?_
  refine v_forP (fun i τ => (∀ k, ¬ (k = 12) → τ k = σ k) ∧ τ 12 = eJ G 24 (roA f12 i)) (fun i => [(0, .ref (ad 49)), (4, .int (nI i))]) 24 ?_ ?_ _ ⟨fun k _ => rfl, hq⟩
  · intro τ hI
    obtain ⟨hk1, hq1⟩ := hI
    have ho1 : τ 49 = eO 9 (mO ad x t) := (hk1 49 (by decide)).trans ho
    refine v_iload C eX12_constants_122 1 rfl ?_
    refine v_bipush (v := (24 : Int32)) C eX12_constants_124 (by decide) ?_
    refine v_icmp_ge (tgt := 184) C eX12_constants_126 (by decide) (fun _ => ?_) (fun h => absurd (ix_le (a := 24) (b := 24) (rfl : (24 : Int32) = nI 24) (rfl : nI 24 = nI 24) (by omega) (by omega) (by omega)) h)
    refine v_pick (lv' := [(0, .ref (ad 49))]) [0] rfl ?_
    exact kk τ ⟨hk1, hq1⟩
  · intro i hi ih τ hI
    obtain ⟨hk1, hq1⟩ := hI
    have ho1 : τ 49 = eO 9 (mO ad x t) := (hk1 49 (by decide)).trans ho
    refine v_iload C eX12_constants_122 1 rfl ?_
    refine v_bipush (v := (24 : Int32)) C eX12_constants_124 (by decide) ?_
    refine v_icmp_ge (tgt := 184) C eX12_constants_126 (by decide) (fun h => absurd h (ix_nle (a := 24) (b := i) (rfl : (24 : Int32) = nI 24) (rfl : nI i = nI i) (by omega) (by omega) (by omega))) (fun _ => ?_)
    refine v_iconst (v := nI 0) C eX12_constants_129 (by decide) ?_
    refine v_istore (lv' := [(0, .ref (ad 49)), (4, .int (nI i)), (5, .int (nI 0))]) C eX12_constants_130 (by decide) [1, 2, 0] rfl ?_
    refine v_forP (fun j ρ => (∀ k, ¬ (k = 12) → ρ k = σ k) ∧ ρ 12 = eJ G 24 (riA (roA f12 i) i j)) (fun j => [(0, .ref (ad 49)), (4, .int (nI i)), (5, .int (nI j))]) 7 ?_ ?_ _ ⟨hk1, hq1⟩
    · intro ρ hI
      obtain ⟨hk2, hq2⟩ := hI
      have ho2 : ρ 49 = eO 9 (mO ad x t) := (hk2 49 (by decide)).trans ho
      refine v_iload C eX12_constants_132 2 rfl ?_
      refine v_bipush (v := (6 : Int32)) C eX12_constants_134 (by decide) ?_
      refine v_icmp_gt (tgt := 178) C eX12_constants_136 (by decide) (fun _ => ?_) (fun h => absurd (ix_lt (a := 6) (b := 7) (rfl : (6 : Int32) = nI 6) (rfl : nI 7 = nI 7) (by omega) (by omega) (by omega)) h)
      refine v_iinc (lv' := [(0, .ref (ad 49)), (4, .int (nI (i + 1))), (5, .int (nI 7))]) C eX12_constants_178 1 rfl (ix_inc _) (by decide) [1, 0, 2] rfl ?_
      refine v_goto (tgt := 122) C eX12_constants_181 (by decide) ?_
      refine v_pick (lv' := [(0, .ref (ad 49)), (4, .int (nI (i + 1)))]) [0, 1] rfl ?_
      exact ih ρ ⟨hk2, hq2⟩
    · intro j hj ih2 ρ hI
      obtain ⟨hk2, hq2⟩ := hI
      have ho2 : ρ 49 = eO 9 (mO ad x t) := (hk2 49 (by decide)).trans ho
      refine v_iload C eX12_constants_132 2 rfl ?_
      refine v_bipush (v := (6 : Int32)) C eX12_constants_134 (by decide) ?_
      refine v_icmp_gt (tgt := 178) C eX12_constants_136 (by decide) (fun h => absurd h (ix_nlt (a := 6) (b := j) (rfl : (6 : Int32) = nI 6) (rfl : nI j = nI j) (by omega) (by omega) (by omega))) (fun _ => ?_)
      refine v_iload C eX12_constants_139 2 rfl ?_
      refine v_bipush (v := (7 : Int32)) C eX12_constants_141 (by decide) ?_
      refine v_iload C eX12_constants_143 1 rfl ?_
      refine v_imul C eX12_constants_145 ?_
      refine v_iadd C eX12_constants_146 ?_
      refine n_callS (av := [.int (nI (j + (7 * i)))]) (rest := []) C mX12_158 (c_bit (j + 7 * i) (by omega)) rfl (by omega) (by decide) ⟨by decide, by decide⟩ rfl (vi_c (ix_add (a := j) (b := 7 * i) (rfl : nI j = nI j) (ix_mul (a := 7) (b := i) (rfl : (7 : Int32) = nI 7) (rfl : nI i = nI i))) rfl) (Nat.le_of_ble_eq_true rfl) eX12_constants_147 (fun r ν hp => ?_)
      obtain ⟨rfl, hν⟩ := hp
      rw [hν]
      clear hν ν
      refine v_iconst (v := (1 : Int32)) C eX12_constants_150 (by decide) ?_
      by_cases c : rgN ((j + 7 * i) % 255) % 2 = 1
      · refine v_icmp_ne (tgt := 172) C eX12_constants_151 (by decide) (fun h => absurd (ix_eq (a := rgN ((j + 7 * i) % 255) % 2) (b := 1) (rfl : nI (rgN ((j + 7 * i) % 255) % 2) = nI (rgN ((j + 7 * i) % 255) % 2)) (rfl : (1 : Int32) = nI 1) (by omega) (by omega) (by omega)) h) (fun _ => ?_)
        rw [show riA (roA f12 i) i (j + 1) = vp_updL (riA (roA f12 i) i j) i (riA (roA f12 i) i j i ||| (1 <<< ((nI (2 ^ j - 1)).toInt64 &&& 63))) from if_pos c] at ih2
        have hp7 : 2 ^ j ≤ 2 ^ 6 := Nat.pow_le_pow_right (by decide) (by omega)
        have hp1 : 1 ≤ 2 ^ j := Nat.one_le_two_pow
        refine v_aload_n C eX12_constants_154 rfl 0 rfl ?_
        refine n_get C I fX12_45_X12 eX12_constants_155 (hN 49 (by decide)) ho2 rfl ?_
        refine v_iload C eX12_constants_158 1 rfl ?_
        refine v_dup2_11 C eX12_constants_160 rfl rfl ?_
        refine n_lald C I eX12_constants_161 (hN 12 (by decide)) hq2 i (rfl : nI i = nI i) (by omega) (by decide) ?_
        refine v_lconst (v := (1 : Int64)) C eX12_constants_162 (by decide) ?_
        refine v_iconst (v := (1 : Int32)) C eX12_constants_163 (by decide) ?_
        refine v_iload C eX12_constants_164 2 rfl ?_
        refine v_ishl C eX12_constants_166 ?_
        refine v_iconst (v := (1 : Int32)) C eX12_constants_167 (by decide) ?_
        refine v_isub C eX12_constants_168 ?_
        refine v_natT (show (((1 : Int32)) <<< ((nI j) &&& 31)) - ((1 : Int32)) = nI (2 ^ j - 1) from ((ix_sub (a := 1 * 2 ^ j) (b := 1) (ix_shlV (a := 1) (j := j) (rfl : (1 : Int32) = nI 1) (rfl : nI j = nI j) (by omega) (by omega)) (rfl : (1 : Int32) = nI 1) (by omega))).trans (congrArg nI (by rw [Nat.one_mul]))) ?_
        refine v_lshl C eX12_constants_169 ?_
        refine v_lor C eX12_constants_170 ?_
        refine n_last C I eX12_constants_171 (hN 12 (by decide)) hq2 i (rfl : nI i = nI i) (by omega) (by decide) ?_
        refine v_iinc (lv' := [(0, .ref (ad 49)), (4, .int (nI i)), (5, .int (nI (j + 1)))]) C eX12_constants_172 2 rfl (ix_inc _) (by decide) [1, 2, 0] rfl ?_
        refine v_goto (tgt := 132) C eX12_constants_175 (by decide) ?_
        exact ih2 _ ⟨fun k hk => (n_ne hk).trans (hk2 k hk), n_self⟩
      · refine v_icmp_ne (tgt := 172) C eX12_constants_151 (by decide) (fun _ => ?_) (fun h => absurd h (ix_ne (a := rgN ((j + 7 * i) % 255) % 2) (b := 1) (rfl : nI (rgN ((j + 7 * i) % 255) % 2) = nI (rgN ((j + 7 * i) % 255) % 2)) (rfl : (1 : Int32) = nI 1) (by omega) (by omega) (by omega)))
        rw [show riA (roA f12 i) i (j + 1) = riA (roA f12 i) i j from if_neg c] at ih2
        refine v_iinc (lv' := [(0, .ref (ad 49)), (4, .int (nI i)), (5, .int (nI (j + 1)))]) C eX12_constants_172 2 rfl (ix_inc _) (by decide) [1, 2, 0] rfl ?_
        refine v_goto (tgt := 132) C eX12_constants_175 (by decide) ?_
        exact ih2 ρ ⟨hk2, hq2⟩

end M47
