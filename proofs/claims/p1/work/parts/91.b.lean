/-! the reference's room asks its own names alone -/
theorem RS_keep {G : vG} {ad : Nat → Nat} {θ : tT} {x : Nat → Int32} {σ σ' : nS} (h : RS G ad θ x σ) (g : ∀ j, j < 74 → σ' j = σ j) : RS G ad θ x σ' := by
  obtain ⟨h1, ⟨h2, h3⟩, ⟨h4, h5, h6, h7⟩, ⟨h8, h9, h10, h11, h12⟩, ⟨h13, h14⟩, h15, h16⟩ := h
  have eb : ∀ k, k < 74 → bt σ' k = bt σ k := fun k hk => by unfold bt; rw [g k hk]
  have ej : ∀ k, k < 74 → jt σ' k = jt σ k := fun k hk => by unfold jt; rw [g k hk]
  have eo : ox σ' = ox σ := by unfold ox; rw [g 49 (by decide)]
  have et : ot σ' = ot σ := by unfold ot; rw [g 49 (by decide)]
  refine ⟨fun k hk => ?_, ⟨?_, ?_⟩, ⟨?_, ?_, ?_, ?_⟩, ⟨?_, ?_, ?_, ?_, ?_⟩, ⟨?_, ?_⟩, ?_, ?_⟩
  · rw [g k (rLn_74 hk), eb k (rLn_74 hk)]; exact h1 k hk
  · rw [g 2 (by decide), eb 2 (by decide)]; exact h2
  · rw [g 36 (by decide), eb 36 (by decide)]; exact h3
  · rw [g 5 (by decide)]; exact h4
  · rw [g 6 (by decide)]; exact h5
  · rw [g 11 (by decide)]; exact h6
  · rw [g 12 (by decide)]; exact h7
  · rw [g 13 (by decide), ej 13 (by decide)]; exact h8
  · rw [g 14 (by decide), ej 14 (by decide)]; exact h9
  · rw [g 15 (by decide), ej 15 (by decide)]; exact h10
  · rw [g 16 (by decide), ej 16 (by decide)]; exact h11
  · rw [g 17 (by decide), eb 17 (by decide)]; exact h12
  · rw [g 1 (by decide)]; exact h13
  · rw [g 29 (by decide)]; exact h14
  · rw [g 49 (by decide), eo, et]; exact h15
  · rw [eo]; exact h16
theorem RA_keep {G : vG} {ad : Nat → Nat} {θ : tT} {S : sT} {T : List Int32} {cd : Int32} {σ σ' : nS} (h : RA G ad θ S T cd σ) (g : ∀ j, j < 74 → σ' j = σ j) : RA G ad θ S T cd σ' := by
  obtain ⟨x, h1, h2, h3⟩ := h
  exact ⟨x, RS_keep h1 g, h2, h3.keep (fun k hk => g k (by omega))⟩
theorem RA_obj {G : vG} {ad : Nat → Nat} {θ : tT} {S : sT} {T : List Int32} {cd : Int32} {σ : nS} (h : RA G ad θ S T cd σ) : σ 49 = eO 9 (mO ad (ox σ) (ot σ)) := by
  obtain ⟨x, h1, -⟩ := h
  exact h1.obj
theorem RA_ad {G : vG} {ad ad' : Nat → Nat} {θ : tT} {S : sT} {T : List Int32} {cd : Int32} {σ : nS} (h : RA G ad θ S T cd σ) (g : ∀ j, j < 74 → ad' j = ad j) : RA G ad' θ S T cd σ := by
  obtain ⟨x, ⟨h1, h2, h4, h8, ⟨h13, h14⟩, h15, h16⟩, k2, k3⟩ := h
  have em : ∀ y t, mO ad' y t = mO ad y t := fun y t => by
    unfold mO
    rw [g 0 (by decide), g 1 (by decide), g 2 (by decide), g 5 (by decide), g 6 (by decide), g 7 (by decide), g 8 (by decide), g 9 (by decide), g 10 (by decide), g 11 (by decide), g 12 (by decide), g 13 (by decide), g 14 (by decide), g 15 (by decide), g 16 (by decide), g 17 (by decide), g 22 (by decide), g 23 (by decide), g 24 (by decide), g 25 (by decide), g 26 (by decide), g 27 (by decide), g 28 (by decide), g 29 (by decide), g 30 (by decide), g 31 (by decide), g 32 (by decide), g 33 (by decide), g 34 (by decide), g 35 (by decide), g 36 (by decide), g 37 (by decide), g 38 (by decide), g 39 (by decide), g 40 (by decide)]
  have er : ∀ b n, b + n ≤ 74 → eRf ad' b n = eRf ad b n := fun b n hb => by
    funext i
    unfold eRf
    by_cases q : i < n
    · rw [if_pos q, if_pos q, g (b + i) (by omega)]
    · rw [if_neg q, if_neg q]
  exact ⟨x, ⟨h1, h2, h4, h8, ⟨by rw [er 50 8 (by decide)]; exact h13, by rw [er 58 16 (by decide)]; exact h14⟩, by rw [em]; exact h15, h16⟩, k2, k3⟩
theorem lg_cmp_self (x : Int64) : lg_cmp x x = 0 := by simp [lg_cmp]
