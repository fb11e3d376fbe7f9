/-! PURE: the reference's permutation asks the first 25 lanes alone -/
theorem piI_lt {j : Nat} (h : j < 25) : piI j < 25 := by unfold piI; omega
theorem pmR_eq {T : Nat → Int32} {K S S' O O' D D' : Nat → Int64} {i : Nat} (h : eq25 S S') : eq25 (pmR T K i (S, O, D)).1 (pmR T K i (S', O', D')).1 := by
  have hc : ∀ a, a < 5 → pmC S D a = pmC S' D' a := by
    intro a ha
    rw [pmC_at S D a ha, pmC_at S' D' a ha, h (a + 5 * 0) (by omega), h (a + 5 * 1) (by omega), h (a + 5 * 2) (by omega), h (a + 5 * 3) (by omega), h (a + 5 * 4) (by omega)]
  have h1 : eq25 (pmTh (pmC S D) S) (pmTh (pmC S' D') S') := by
    intro j hj
    rw [pmTh_at _ _ j hj, pmTh_at _ _ j hj, h j hj, hc _ (Nat.mod_lt _ (by decide)), hc _ (Nat.mod_lt _ (by decide))]
  have h2 : eq25 (pmRo T (pmTh (pmC S D) S) O) (pmRo T (pmTh (pmC S' D') S') O') := by
    intro j hj
    rw [pmRo_at _ _ _ j hj, pmRo_at _ _ _ j hj, h1 _ (piI_lt hj)]
  have h3 : eq25 (pmCh (pmRo T (pmTh (pmC S D) S) O) (pmTh (pmC S D) S)) (pmCh (pmRo T (pmTh (pmC S' D') S') O') (pmTh (pmC S' D') S')) := by
    intro j hj
    rw [pmCh_at _ _ j hj, pmCh_at _ _ j hj, h2 j hj, h2 _ (by omega), h2 _ (by omega)]
  intro j hj
  show vp_updL _ 0 _ j = vp_updL _ 0 _ j
  unfold vp_updL
  by_cases q : j = 0
  · rw [if_pos q, if_pos q, h3 0 (by decide)]
  · rw [if_neg q, if_neg q]
    exact h3 j hj
theorem pmN_eq {T : Nat → Int32} {K S S' O O' D D' : Nat → Int64} (h : eq25 S S') : ∀ n, eq25 (itN (pmR T K) n (S, O, D)).1 (itN (pmR T K) n (S', O', D')).1
  | 0 => h
  | n + 1 => by
    have ih := pmN_eq (T := T) (K := K) (O := O) (O' := O') (D := D) (D' := D') h n
    show eq25 (pmR T K n (itN (pmR T K) n (S, O, D))).1 (pmR T K n (itN (pmR T K) n (S', O', D'))).1
    generalize itN (pmR T K) n (S, O, D) = q at ih ⊢
    generalize itN (pmR T K) n (S', O', D') = q' at ih ⊢
    obtain ⟨a, b, c⟩ := q
    obtain ⟨a', b', c'⟩ := q'
    exact pmR_eq ih
/-- two streams of which nobody can see a difference -/
def hEq (h h' : hT) : Prop := eq25 h.1 h'.1 ∧ h.2.2.2.2.2.1 = h'.2.2.2.2.2.1 ∧ h.2.2.2.2.2.2 = h'.2.2.2.2.2.2 ∧ ∀ j, j < h.2.2.2.2.2.1 → h.2.2.2.2.1 j = h'.2.2.2.2.1 j
theorem sp1_eq {S S' : Nat → Int64} {a : Nat} {v : Int32} (h : eq25 S S') (ha : a < 200) : eq25 (sp1 S a v) (sp1 S' a v) := by
  intro j hj
  unfold sp1 vp_updL
  by_cases q : j = a / 8
  · rw [if_pos q, if_pos q, h (a / 8) (by omega)]
  · rw [if_neg q, if_neg q]
    exact h j hj
