/-! rows of references; loops over pictures; the context of a tree -/
section R2a
variable {G : vG} {B : Nat} {p : Program} {l : Launch} {e : Env} {R : Room} {s : State} {m : MethodId} {args : Array Value} {below : List Frame} {meth : Method} {c : Code} {nL cells slots : Nat} {Q : State → Prop} {cc : ByteArray} {ret : Option FieldType} {own : String} {pc pc' : Nat} {lv : List (Nat × Value)} {st : List Value} {w : vW} {ad : Nat → Nat} {N : Nat} {σ : nS} {hd : Nat}
theorem v_aald (C : vC G B p m meth c cc nL ret s args own) {a n b : Nat} {f : Nat → Option Nat} {i : Int32} (hd : vD cc pc .aaload 1 pc') (hw : w a = some (eR G n f)) (j : Nat) (hi : i = nI j) (hj : j < n) (hn : n < 2 ^ 31) (hf : f j = some b) (k : V G B p l e R s m args below meth c nL cells slots Q w pc' lv (.ref b :: st)) : V G B p l e R s m args below meth c nL cells slots Q w pc lv (.int i :: .ref a :: st) := by
  subst hi
  intro H locs ls h1 h2 h3
  have k := k H locs ls h1 h2 h3
  rw [hd.2] at k
  obtain ⟨ws, hP, hD, hH⟩ := h1
  obtain ⟨q0, hq⟩ := hH _ _ hw
  have hin : vp_in (nI j) n := vp_in_nI hj hn
  have hlt : (nI j).toNatClampNeg < n := Nat.not_le.mp fun q => hin (Or.inr q)
  have hv : va_rf (f (nI j).toNatClampNeg) = .ref b := by rw [nI_clamp (Nat.lt_trans hj hn), hf]; rfl
  exact W.aald (v := .ref b) (ty := .array .byte) C.1.1 C.1.2.1 (hP q0 _ hq) ((C.2.1.1.2 3 _ rfl).1 n (fun j => va_rf (f j))) rfl (fun q => by cases q) (by show ¬ (_ ∨ (arrV _ _ _).slots.size ≤ _); rw [arrV_size]; exact hin) (by show (arrV _ _ _).slots[_]? = _; rw [arrV_read _ _ hlt, hv]) rfl rfl hd.1 k
theorem n_aald (C : vC G B p m meth c cc nL ret s args own) (I : nI1 ad N) {k n b : Nat} {f : Nat → Option Nat} {i : Int32} (hd : vD cc pc .aaload 1 pc') (hk : k < N) (hs : σ k = eR G n f) (j : Nat) (hi : i = nI j) (hj : j < n) (hn : n < 2 ^ 31) (hf : f j = some b) (kk : V G B p l e R s m args below meth c nL cells slots Q (nW ad N σ) pc' lv (.ref b :: st)) : V G B p l e R s m args below meth c nL cells slots Q (nW ad N σ) pc lv (.int i :: .ref (ad k) :: st) :=
  v_aald C hd ((nW_at I hk).trans (congrArg some hs)) j hi hj hn hf kk
theorem v_forP (P : Nat → nS → Prop) (L : Nat → List (Nat × Value)) (n : Nat) (hend : ∀ τ, P n τ → V G B p l e R s m args below meth c nL cells slots Q (nW ad N τ) hd (L n) st) (hstep : ∀ i, i < n → (∀ τ, P (i + 1) τ → V G B p l e R s m args below meth c nL cells slots Q (nW ad N τ) hd (L (i + 1)) st) → ∀ τ, P i τ → V G B p l e R s m args below meth c nL cells slots Q (nW ad N τ) hd (L i) st) : ∀ τ, P 0 τ → V G B p l e R s m args below meth c nL cells slots Q (nW ad N τ) hd (L 0) st :=
  v_for (P := fun i => ∀ τ, P i τ → V G B p l e R s m args below meth c nL cells slots Q (nW ad N τ) hd (L i) st) n hend hstep
/-- a picture by a new name -/
theorem v_pic {τ : nS} (k : ∀ ρ, ρ = τ → V G B p l e R s m args below meth c nL cells slots Q (nW ad N ρ) pc lv st) : V G B p l e R s m args below meth c nL cells slots Q (nW ad N τ) pc lv st := k τ rfl
end R2a
theorem vi_c {a b : Int32} {s t : List Value} (h : a = b) (hs : s = t) : (Value.int a :: s) = (Value.int b :: t) := by rw [h, hs]
theorem vi_k {v : Value} {s t : List Value} (hs : s = t) : (v :: s) = (v :: t) := by rw [hs]
theorem wr_wr {f : Nat → Int32} {b : Nat} {L L' : List Int32} (h : L.length = L'.length) : wr (wr f b L) b L' = wr f b L' := by
  funext j
  unfold wr
  by_cases g : b ≤ j ∧ j < b + L'.length
  · rw [if_pos g, if_pos g]
  · rw [if_neg g, if_neg g, if_neg (by rw [h]; exact g)]
theorem wr_sl {f : Nat → Int32} {b n : Nat} : wr f b (sl f b n) = f := by
  funext j
  unfold wr
  rw [sl_len]
  by_cases g : b ≤ j ∧ j < b + n
  · rw [if_pos g, sl_at (by omega)]
    congr 1
    omega
  · rw [if_neg g]
theorem wr_app {f : Nat → Int32} {b c : Nat} {L L' : List Int32} (h : c = b + L.length) : wr (wr f b L) c L' = wr f b (L ++ L') := by
  subst h
  funext j
  unfold wr
  rw [List.length_append]
  by_cases g : b + L.length ≤ j ∧ j < b + L.length + L'.length
  · rw [if_pos g, if_pos (by omega)]
    have : L.length ≤ j - b := by omega
    simp only [List.getD, List.getElem?_append_right this]
    congr 2
    omega
  · rw [if_neg g]
    by_cases q : b ≤ j ∧ j < b + L.length
    · rw [if_pos q, if_pos (by omega)]
      have : j - b < L.length := by omega
      simp only [List.getD, List.getElem?_append_left this]
    · rw [if_neg q, if_neg (by omega)]
/-- n lists one behind the other -/
def cat (f : Nat → List Int32) : Nat → List Int32
  | 0 => []
  | n + 1 => cat f n ++ f n
theorem cat_len {f : Nat → List Int32} {k : Nat} (h : ∀ i, (f i).length = k) : ∀ n, (cat f n).length = n * k
  | 0 => by simp [cat]
  | n + 1 => by simp [cat, cat_len h n, h n, Nat.succ_mul]
/-- the address's tail -/
def tyL (t x y z : Int32) : List Int32 := [b4 t 0, b4 t 1, b4 t 2, b4 t 3, b4 x 0, b4 x 1, b4 x 2, b4 x 3, b4 y 0, b4 y 1, b4 y 2, b4 y 3, b4 z 0, b4 z 1, b4 z 2, b4 z 3]
theorem tyF_lo {t x y z : Int32} {A : Nat → Int32} : sl (tyF t x y z 4 A) 0 16 = sl A 0 16 := rfl
theorem tyF_hi {t x y z : Int32} {A : Nat → Int32} : sl (tyF t x y z 4 A) 16 16 = tyL t x y z := rfl
/-- F at a tree: type, three words, bytes -/
abbrev fT : Type := Nat → Nat → Nat → Nat → List Int32 → List Int32
def fF (θ : tT) (sh : Bool) (nn : Nat) (P H : List Int32) : fT := fun t x y z d => fL θ sh nn P H (tyL (nI t) (nI x) (nI y) (nI z)) d
theorem fF_len {θ : tT} {sh : Bool} {nn : Nat} {P H : List Int32} (t x y z : Nat) (d : List Int32) : (fF θ sh nn P H t x y z d).length = nn := fL_len
def RC (G : vG) (ad : Nat → Nat) (θ : tT) (x : Nat → Int32) (sh : Bool) (nn : Nat) (P H K : List Int32) (σ : nS) : Prop :=
  RS G ad θ x σ ∧ (x 41 = nI nn ∧ (nn = 16 ∨ nn = 24 ∨ nn = 32) ∧ x 48 = if sh then 1 else 0) ∧ sl (bt σ 28) 0 16 = H ∧ sl (bt σ 37) 0 nn = P ∧ sl (bt σ 38) 0 nn = K
section R2b
variable {G : vG} {B : Nat} {l : Launch} {ad : Nat → Nat} {N : Nat} {θ : tT} {x : Nat → Int32} {σ : nS} {sh : Bool} {nn : Nat} {P H K : List Int32}
theorem RC.s (h : RC G ad θ x sh nn P H K σ) : RS G ad θ x σ := h.1
theorem RC.qnn (h : RC G ad θ x sh nn P H K σ) : nn = 16 ∨ nn = 24 ∨ nn = 32 := h.2.1.2.1
theorem RC.n (h : RC G ad θ x sh nn P H K σ) : ox σ 41 = nI nn := h.1.i41.trans h.2.1.1
theorem RC.qsh (h : RC G ad θ x sh nn P H K σ) : x 48 = if sh then 1 else 0 := h.2.1.2.2
theorem RC.qH (h : RC G ad θ x sh nn P H K σ) : sl (bt σ 28) 0 16 = H := h.2.2.1
theorem RC.qP (h : RC G ad θ x sh nn P H K σ) : sl (bt σ 37) 0 nn = P := h.2.2.2.1
theorem RC.qK (h : RC G ad θ x sh nn P H K σ) : sl (bt σ 38) 0 nn = K := h.2.2.2.2
/-- the context stays where its rows stay -/
theorem RC.keep (h : RC G ad θ x sh nn P H K σ) {σ' : nS} (hS : RS G ad θ x σ') (h28 : σ' 28 = σ 28) (h37 : σ' 37 = σ 37) (h38 : σ' 38 = σ 38) : RC G ad θ x sh nn P H K σ' :=
  ⟨hS, h.2.1, by rw [bt_same h28]; exact h.qH, by rw [bt_same h37]; exact h.qP, by rw [bt_same h38]; exact h.qK⟩
theorem rc_type (I : nI1 ad N) (hN : ∀ k, k < 74 → k < N) (hC : RC G ad θ x sh nn P H K σ) (ty px py pz : Nat) : nOk G B l ad N yX12_type cX12_type 6 none 0 0 0 [.ref (ad 49), .int (nI ty), .int (nI px), .int (nI py), .int (nI pz)] σ (fun r σ' => r = none ∧ RC G ad θ x sh nn P H K σ' ∧ (∀ k, ¬ (k = 28) → σ' k = σ k) ∧ sl (bt σ' 28) 16 16 = tyL (nI ty) (nI px) (nI py) (nI pz)) := by
  refine nOk.weak (c_type I hN hC.s.obj (hC.s.b 28 32 rfl (by decide)) (nI ty) (nI px) (nI py) (nI pz)) ?_
  rintro r σ' ⟨h1, rfl⟩
  refine ⟨h1, ⟨hC.s.up rfl (by decide) _, hC.2.1, ?_, hC.qP, hC.qK⟩, fun k hk => by simp [va_up, hk], ?_⟩
  · show sl (tyF (nI ty) (nI px) (nI py) (nI pz) 4 (bt σ 28)) 0 16 = H
    rw [tyF_lo]
    exact hC.qH
  · show sl (tyF (nI ty) (nI px) (nI py) (nI pz) 4 (bt σ 28)) 16 16 = _
    exact tyF_hi
theorem rc_hashed (I : nI1 ad N) (hN : ∀ k, k < 74 → k < N) (hC : RC G ad θ x sh nn P H K σ) {ty px py pz : Nat} (hY : sl (bt σ 28) 16 16 = tyL (nI ty) (nI px) (nI py) (nI pz)) {kx nx ko no : Nat} (hkx : rLn kx = nx) (hx0 : 0 < nx) (hko : rLn ko = no) (ho0 : 0 < no) (hfr : ko ≠ 28 ∧ ko ≠ 37 ∧ ko ≠ 38) (a mm b : Nat) (ha : a + mm ≤ nx) (hb : b + nn ≤ no) : nOk G B l ad N yX12_hashed cX12_hashed 8 none 5 0 0 [.ref (ad 49), .ref (ad kx), .int (nI a), .int (nI mm), .ref (ad ko), .int (nI b)] σ (fun r σ' => r = none ∧ RC G ad θ x sh nn P H K σ' ∧ (∀ k, ¬ (13 ≤ k ∧ k ≤ 17 ∨ k = 49 ∨ k = ko) → σ' k = σ k) ∧ bt σ' ko = wr (bt σ ko) b (fF θ sh nn P H ty px py pz (sl (bt σ kx) a mm))) := by
  have hn := hC.qnn
  refine nOk.weak (r_hashed I hN hC.s hC.2.1.1 (by omega) hC.qsh hkx hx0 hko ho0 a mm b ha hb) ?_
  rintro r σ' ⟨h1, h2, h3, h4⟩
  refine ⟨h1, hC.keep h2 (h3 28 (by omega)) (h3 37 (by omega)) (h3 38 (by omega)), h3, ?_⟩
  rw [h4, hY, hC.qH, hC.qP]
  rfl
theorem rc_move (I : nI1 ad N) (hN : ∀ k, k < 74 → k < N) (hC : RC G ad θ x sh nn P H K σ) {kx nx ko no : Nat} (hkx : rLn kx = nx) (hx0 : 0 < nx) (hko : rLn ko = no) (ho0 : 0 < no) (hne : kx ≠ ko) (hfr : ko ≠ 28 ∧ ko ≠ 37 ∧ ko ≠ 38) (a b mm : Nat) (ha : a + mm ≤ nx) (hb : b + mm ≤ no) (hnar : (sl (bt σ kx) a mm).map (vp_nar .byte) = sl (bt σ kx) a mm) : nOk G B l ad N yX12_move cX12_move 6 none 0 0 0 [.ref (ad kx), .int (nI a), .ref (ad ko), .int (nI b), .int (nI mm)] σ (fun r σ' => r = none ∧ RC G ad θ x sh nn P H K σ' ∧ (∀ k, ¬ (k = ko) → σ' k = σ k) ∧ bt σ' ko = wr (bt σ ko) b (sl (bt σ kx) a mm)) := by
  refine nOk.weak (c_move I (hN kx (rLn_74 (by omega))) (hN ko (rLn_74 (by omega))) hne (hC.s.b kx nx hkx hx0) (hC.s.b ko no hko ho0) a b mm ha hb (by have := rLn_31 (k := kx) (by omega); omega) (by have := rLn_31 (k := ko) (by omega); omega)) ?_
  rintro r σ' ⟨h1, rfl⟩
  have hk : ∀ k, ¬ (k = ko) → va_up σ ko (eB G no (mvF (bt σ kx) a b mm (bt σ ko))) k = σ k := fun k hk => by simp [va_up, hk]
  refine ⟨h1, hC.keep (hC.s.up hko ho0 _) (hk 28 (by omega)) (hk 37 (by omega)) (hk 38 (by omega)), hk, ?_⟩
  have : va_up σ ko (eB G no (mvF (bt σ kx) a b mm (bt σ ko))) ko = eB G no (mvF (bt σ kx) a b mm (bt σ ko)) := by simp [va_up]
  rw [bt_B this, mvF_wr, hnar]
end R2b
