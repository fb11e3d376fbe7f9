/-! naturals behind ints; loops; functions by turns -/
theorem ix_add {x y : Int32} {a b : Nat} (hx : x = nI a) (hy : y = nI b) : x + y = nI (a + b) := by subst hx; subst hy; exact nI_add a b
theorem ix_inc (a : Nat) : nI a + Int32.ofInt 1 = nI (a + 1) := nI_1 a
theorem ix_mul {x y : Int32} {a b : Nat} (hx : x = nI a) (hy : y = nI b) : x * y = nI (a * b) := by subst hx; subst hy; exact pk_mul a b
theorem ix_sub {x y : Int32} {a b : Nat} (hx : x = nI a) (hy : y = nI b) (h : b ≤ a) : x - y = nI (a - b) := by subst hx; subst hy; exact pk_sub h
theorem ix_div {x y : Int32} {a d : Nat} (hx : x = nI a) (hy : y = nI d) (ha : a < 2 ^ 31) (h0 : 0 < d) (hd : d < 2 ^ 31) : x / y = nI (a / d) := by subst hx; subst hy; exact pk_div ha h0 hd
theorem ix_rem {x y : Int32} {a d : Nat} (hx : x = nI a) (hy : y = nI d) (ha : a < 2 ^ 31) (h0 : 0 < d) (hd : d < 2 ^ 31) : x - x / y * y = nI (a % d) := by subst hx; subst hy; exact pk_rem ha h0 hd
theorem ix_shr {x y : Int32} {a : Nat} (hx : x = nI a) (k : Nat) (hk : ((y &&& 31).toBitVec.smod 32).toNat = k) (ha : a < 2 ^ 31) : x >>> (y &&& 31) = nI (a / 2 ^ k) := by subst hx; exact pk_shrN ha _ k hk
theorem ix_shl {x y : Int32} {a : Nat} (hx : x = nI a) (k : Nat) (hk : ((y &&& 31).toBitVec.smod 32).toNat = k) (ha : a * 2 ^ k < 2 ^ 32) : x <<< (y &&& 31) = nI (a * 2 ^ k) := by subst hx; exact pk_shlN _ k hk ha
theorem ix_lt {x y : Int32} {a b : Nat} (hx : x = nI a) (hy : y = nI b) (h : a < b) (_ha : a < 2 ^ 31) (hb : b < 2 ^ 31) : x < y := by subst hx; subst hy; exact nI_lt h hb
theorem ix_nlt {x y : Int32} {a b : Nat} (hx : x = nI a) (hy : y = nI b) (h : b ≤ a) (ha : a < 2 ^ 31) (_hb : b < 2 ^ 31) : ¬ x < y := by subst hx; subst hy; exact nI_nlt h ha
theorem ix_le {x y : Int32} {a b : Nat} (hx : x = nI a) (hy : y = nI b) (h : a ≤ b) (_ha : a < 2 ^ 31) (hb : b < 2 ^ 31) : x ≤ y := by subst hx; subst hy; exact nI_le h hb
theorem ix_nle {x y : Int32} {a b : Nat} (hx : x = nI a) (hy : y = nI b) (h : b < a) (ha : a < 2 ^ 31) (_hb : b < 2 ^ 31) : ¬ x ≤ y := by subst hx; subst hy; exact nI_ge h ha
theorem ix_eq {x y : Int32} {a b : Nat} (hx : x = nI a) (hy : y = nI b) (h : a = b) (_ha : a < 2 ^ 31) (_hb : b < 2 ^ 31) : x = y := by subst hx; subst hy; rw [h]
theorem ix_ne {x y : Int32} {a b : Nat} (hx : x = nI a) (hy : y = nI b) (h : a ≠ b) (ha : a < 2 ^ 31) (hb : b < 2 ^ 31) : ¬ x = y := by subst hx; subst hy; exact fun q => h ((nI_eq ha hb).mp q)
theorem n_id {σ : nS} {k : Nat} {e : va_E} (h : σ k = e) : va_up σ k e = σ := by
  funext q
  by_cases g : q = k
  · subst g; simp [va_up, h]
  · simp [va_up, g]
/-- two pictures: alike at ks, alike elsewhere -/
def n_all (τ τ' : nS) : List Nat → Prop
  | [] => True
  | k :: r => τ k = τ' k ∧ n_all τ τ' r
theorem n_all_mem {τ τ' : nS} : ∀ (ks : List Nat), n_all τ τ' ks → ∀ k ∈ ks, τ k = τ' k
  | [], _, _, h => by cases h
  | a :: r, h, k, hk => by
    rcases List.mem_cons.mp hk with q | q
    · subst q; exact h.1
    · exact n_all_mem r h.2 k q
theorem n_extL {τ τ' : nS} (ks : List Nat) (h : n_all τ τ' ks) (h' : ∀ q, q ∉ ks → τ q = τ' q) : τ = τ' := by
  funext q
  by_cases g : q ∈ ks
  · exact n_all_mem ks h q g
  · exact h' q g
/-- a loop that counts up -/
theorem v_for {P : Nat → Prop} (n : Nat) (hend : P n) (hstep : ∀ i, i < n → P (i + 1) → P i) : P 0 := by
  have key : ∀ k, k ≤ n → P (n - k) := by
    intro k
    induction k with
    | zero => intro _; exact hend
    | succ k ih =>
      intro h
      have h1 := ih (by omega)
      refine hstep (n - (k + 1)) (by omega) ?_
      rw [show n - (k + 1) + 1 = n - k by omega]
      exact h1
  have := key n (Nat.le_refl n)
  rwa [Nat.sub_self] at this
theorem v_forF {P : Nat → Prop} (m n : Nat) (hmn : m ≤ n) (hend : P n) (hstep : ∀ i, m ≤ i → i < n → P (i + 1) → P i) : P m := by
  have := v_for (P := fun i => P (m + i)) (n - m) (by rw [show m + (n - m) = n by omega]; exact hend) (fun i hi h => hstep (m + i) (by omega) (by omega) h)
  simpa using this
section VFor
variable {G : vG} {B : Nat} {p : Program} {l : Launch} {e : Env} {R : Room} {s : State} {m : MethodId} {args : Array Value} {below : List Frame} {meth : Method} {c : Code} {nL cells slots : Nat} {Q : State → Prop} {ad : Nat → Nat} {N : Nat} {hd : Nat} {st : List Value}
theorem v_forV (τ : Nat → nS) (L : Nat → List (Nat × Value)) (n : Nat) (hend : V G B p l e R s m args below meth c nL cells slots Q (nW ad N (τ n)) hd (L n) st) (hstep : ∀ i, i < n → V G B p l e R s m args below meth c nL cells slots Q (nW ad N (τ (i + 1))) hd (L (i + 1)) st → V G B p l e R s m args below meth c nL cells slots Q (nW ad N (τ i)) hd (L i) st) : V G B p l e R s m args below meth c nL cells slots Q (nW ad N (τ 0)) hd (L 0) st :=
  v_for (P := fun i => V G B p l e R s m args below meth c nL cells slots Q (nW ad N (τ i)) hd (L i) st) n hend hstep
theorem v_forM (τ : Nat → nS) (L : Nat → List (Nat × Value)) (m0 n : Nat) (hmn : m0 ≤ n) (hend : V G B p l e R s m args below meth c nL cells slots Q (nW ad N (τ n)) hd (L n) st) (hstep : ∀ i, m0 ≤ i → i < n → V G B p l e R s m args below meth c nL cells slots Q (nW ad N (τ (i + 1))) hd (L (i + 1)) st → V G B p l e R s m args below meth c nL cells slots Q (nW ad N (τ i)) hd (L i) st) : V G B p l e R s m args below meth c nL cells slots Q (nW ad N (τ m0)) hd (L m0) st :=
  v_forF (P := fun i => V G B p l e R s m args below meth c nL cells slots Q (nW ad N (τ i)) hd (L i) st) m0 n hmn hend hstep
end VFor
/-- n turns of f, the first with 0 -/
def itN {α : Type} (f : Nat → α → α) : Nat → α → α
  | 0, s => s
  | n + 1, s => f n (itN f n s)
