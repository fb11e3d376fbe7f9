/-! a hash in the making, over lists -/
theorem gσ_ext {G : vG} {ad : Nat → Nat} {σ τ : nS} {x : Nat → Int32} {h : hT} (e : ∀ k, ¬ (13 ≤ k ∧ k ≤ 17 ∨ k = 49) → σ k = τ k) : gσ G ad σ x h = gσ G ad τ x h := by
  funext k
  by_cases q : 13 ≤ k ∧ k ≤ 17 ∨ k = 49
  · have : k = 13 ∨ k = 14 ∨ k = 15 ∨ k = 16 ∨ k = 17 ∨ k = 49 := by omega
    rcases this with rfl | rfl | rfl | rfl | rfl | rfl <;> rfl
  · rw [gσ_off q, gσ_off q]
    exact e k q
def RT (G : vG) (ad : Nat → Nat) (θ : tT) (x : Nat → Int32) (k : Nat) (bs : List Int32) (σ : nS) : Prop :=
  RS G ad θ x σ ∧ ∃ (σ0 : nS) (x0 : Nat → Int32) (h0 : hT), σ = hσ G ad σ0 x0 k (hFold θ k bs (hBeg k θ.2.2.2 h0))
section R4
variable {G : vG} {B : Nat} {l : Launch} {ad : Nat → Nat} {N : Nat} {θ : tT} {x : Nat → Int32} {σ : nS} {k : Nat} {bs : List Int32}
theorem hσ_off {σ0 : nS} {x0 : Nat → Int32} {h0 : hT} {j : Nat} (q : ¬ (13 ≤ j ∧ j ≤ 17 ∨ j = 49)) : hσ G ad σ0 x0 k h0 j = σ0 j := by rw [hσ_g]; exact gσ_off q
theorem agI_u {a : Nat → Int32} {u v w u' v' w' : Int32} : agI (upd (upd (upd a 18 u) 19 v) 20 w) (upd (upd (upd a 18 u') 19 v') 20 w') := ⟨rfl, rfl, rfl, rfl, rfl, rfl, rfl, rfl, rfl, rfl⟩
theorem agI.sy {a b : Nat → Int32} (h : agI a b) : agI b a := ⟨h.1.symm, h.2.1.symm, h.2.2.1.symm, h.2.2.2.1.symm, h.2.2.2.2.1.symm, h.2.2.2.2.2.1.symm, h.2.2.2.2.2.2.1.symm, h.2.2.2.2.2.2.2.1.symm, h.2.2.2.2.2.2.2.2.1.symm, h.2.2.2.2.2.2.2.2.2.symm⟩
/-- the stream goes on: RS stays -/
theorem RS.hs {σ0 : nS} {x0 : Nat → Int32} {h0 : hT} (h : RS G ad θ x (hσ G ad σ0 x0 k h0)) {ko no : Nat} (hko : rLn ko = no) (ho0 : 0 < no) (g : Nat → Int32) {k' : Nat} (h' : hT) : RS G ad θ x (hσ G ad (va_up σ0 ko (eB G no g)) x0 k' h') := by
  have h1 := h.up hko ho0 g
  have hx : agI (upd (upd (upd x0 18 (nI k)) 19 (nI (rateK k))) 20 (nI h0.2.2.2.2.2.1)) x := (ox_ag (ad := ad) (σ := hσ G ad σ0 x0 k h0) rfl).sy.tr h.ag
  have h2 := h1.g (agI_u.tr hx) (x' := upd (upd (upd x0 18 (nI k')) 19 (nI (rateK k'))) 20 (nI h'.2.2.2.2.2.1)) h'
  rw [hσ_g]
  rw [gσ_ext (τ := va_up σ0 ko (eB G no g))] at h2
  · exact h2
  · intro j hj
    by_cases e : j = ko
    · simp [va_up, e]
    · simp only [va_up, e, if_false]
      exact hσ_off hj
theorem RS.hs0 {σ0 : nS} {x0 : Nat → Int32} {h0 : hT} (h : RS G ad θ x (hσ G ad σ0 x0 k h0)) {k' : Nat} (h' : hT) : RS G ad θ x (hσ G ad σ0 x0 k' h') := by
  have h1 := h.hs (ko := 22) (no := 128) rfl (by decide) (bt (hσ G ad σ0 x0 k h0) 22) (k' := k') h'
  have e : σ0 22 = eB G 128 (bt (hσ G ad σ0 x0 k h0) 22) := h.b 22 128 rfl (by decide)
  rwa [n_id e] at h1
theorem hFold_f {h0 : hT} (hk : k = 1 ∨ k = 3 ∨ k = 12) : (hFold θ k bs (hBeg k θ.2.2.2 h0)).2.2.2.2.2.1 < rateK k := hFold_lt hk bs (by rw [hBeg_f]; have := (rateK_b hk).1; omega)
theorem rt_begin (I : nI1 ad N) (hN : ∀ k, k < 74 → k < N) (hS : RS G ad θ x σ) (hk : k = 1 ∨ k = 3 ∨ k = 12) : nOk G B l ad N yX12_begin cX12_begin 3 none 1 0 0 [.ref (ad 49), .int (nI k)] σ (fun r σ' => r = none ∧ RT G ad θ x k [] σ' ∧ (∀ j, ¬ (13 ≤ j ∧ j ≤ 17 ∨ j = 49) → σ' j = σ j)) := by
  have t := hS.tab
  have key : nOk G B l ad N yX12_begin cX12_begin 3 none 1 0 0 [.ref (ad 49), .int (nI k)] (gσ G ad σ (ox σ) (hOf σ 0)) (fun r σ' => r = none ∧ σ' = hσ G ad σ (ox σ) k (hBeg k θ.2.2.2 (hOf σ 0))) := by
    rcases hk with rfl | rfl | rfl
    · exact c_begin1 I hN t.2.2.1 t.2.2.2 t.2.1 t.1 _ _ _ _ _ _ _
    · exact c_begin3 I hN t.2.2.1 t.2.2.2 t.2.1 t.1 _ _ _ _ _ _ _
    · exact c_begin12 I hN t.2.2.1 t.2.2.2 t.2.1 t.1 _ _ _ _ _ _ _
  rw [hS.fix] at key
  refine nOk.weak key ?_
  rintro r σ' ⟨h1, rfl⟩
  refine ⟨h1, ⟨?_, σ, ox σ, hOf σ 0, rfl⟩, fun j hj => hσ_off hj⟩
  rw [hσ_g]
  exact hS.g ((agI.of n_ag).tr hS.ag) _
theorem rt_put (I : nI1 ad N) (hN : ∀ k, k < 74 → k < N) (hT : RT G ad θ x k bs σ) (hk : k = 1 ∨ k = 3 ∨ k = 12) (v : Int32) : nOk G B l ad N yX12_put cX12_put 2 none 2 0 0 [.ref (ad 49), .int v] σ (fun r σ' => r = none ∧ RT G ad θ x k (bs ++ [v]) σ' ∧ (∀ j, ¬ (13 ≤ j ∧ j ≤ 17 ∨ j = 49) → σ' j = σ j)) := by
  obtain ⟨hS, σ0, x0, h0, rfl⟩ := hT
  have t := hS.tab
  refine nOk.weak (c_put I hN (σ := σ0) t.2.2.1 t.2.2.2 t.2.1 hk _ (hFold_f hk) v) ?_
  rintro r σ' ⟨h1, rfl⟩
  refine ⟨h1, ⟨hS.hs0 _, σ0, x0, h0, ?_⟩, fun j hj => by rw [hσ_off hj, hσ_off hj]⟩
  rw [hFold_app]
  rfl
theorem rt_putA (I : nI1 ad N) (hN : ∀ k, k < 74 → k < N) (hT : RT G ad θ x k bs σ) (hk : k = 1 ∨ k = 3 ∨ k = 12) {kb nb : Nat} (hkb : rLn kb = nb) (hb0 : 0 < nb) (a n : Nat) (han : a + n ≤ nb) : nOk G B l ad N yX12_put_ cX12_put_ 5 none 3 0 0 [.ref (ad 49), .ref (ad kb), .int (nI a), .int (nI n)] σ (fun r σ' => r = none ∧ RT G ad θ x k (bs ++ sl (bt σ kb) a n) σ' ∧ (∀ j, ¬ (13 ≤ j ∧ j ≤ 17 ∨ j = 49) → σ' j = σ j)) := by
  obtain ⟨hS, σ0, x0, h0, rfl⟩ := hT
  have t := hS.tab
  subst hkb
  have hb1 := hS.b kb _ rfl hb0
  rw [hσ_off (rLn_h hb0)] at hb1
  refine nOk.weak (c_putA I hN (σ := σ0) t.2.2.1 t.2.2.2 t.2.1 hk _ (hFold_f hk) (hN kb (rLn_74 hb0)) (rOff_hash (rLn_off hb0)) hb1 a n han (rLn_31 hb0)) ?_
  rintro r σ' ⟨h1, rfl⟩
  refine ⟨h1, ⟨hS.hs0 _, σ0, x0, h0, ?_⟩, fun j hj => by rw [hσ_off hj, hσ_off hj]⟩
  rw [hPutN_fold, hFold_app]
theorem give_post {σ0 : nS} {x0 : Nat → Int32} {h0 h' : hT} (hS : RS G ad θ x (hσ G ad σ0 x0 k h0)) {ko no : Nat} (hko : rLn ko = no) (ho0 : 0 < no) {g : Nat → Int32} {a : Nat} {L : List Int32} (hg : g = wr (bt (hσ G ad σ0 x0 k h0) ko) a L) {k' : Nat} {σ' : nS} (e : σ' = hσ G ad (va_up σ0 ko (eB G no g)) x0 k' h') : RS G ad θ x σ' ∧ (∀ j, ¬ (13 ≤ j ∧ j ≤ 17 ∨ j = 49 ∨ j = ko) → σ' j = hσ G ad σ0 x0 k h0 j) ∧ bt σ' ko = wr (bt (hσ G ad σ0 x0 k h0) ko) a L := by
  subst e
  refine ⟨hS.hs hko ho0 g h', fun j hj => ?_, ?_⟩
  · rw [hσ_off (by omega), hσ_off (by omega)]
    have : j ≠ ko := by omega
    simp [va_up, this]
  · have : hσ G ad (va_up σ0 ko (eB G no g)) x0 k' h' ko = eB G no g := by
      rw [hσ_off (rLn_h (by omega))]
      simp [va_up]
    rw [bt_B this, hg]
theorem rt_give (I : nI1 ad N) (hN : ∀ k, k < 74 → k < N) (hT : RT G ad θ x k bs σ) (hk : k = 1 ∨ k = 3 ∨ k = 12) {ko no : Nat} (hko : rLn ko = no) (ho0 : 0 < no) (a n : Nat) (hn : n ≤ if k = 1 then 32 else 64) (han : a + n ≤ no) : nOk G B l ad N yX12_give cX12_give 5 none 4 0 0 [.ref (ad 49), .ref (ad ko), .int (nI a), .int (nI n)] σ (fun r σ' => r = none ∧ RS G ad θ x σ' ∧ (∀ j, ¬ (13 ≤ j ∧ j ≤ 17 ∨ j = 49 ∨ j = ko) → σ' j = σ j) ∧ bt σ' ko = wr (bt σ ko) a (dgL θ k n bs)) := by
  obtain ⟨hS, σ0, x0, h0, rfl⟩ := hT
  have t := hS.tab
  have hb1 := hS.b ko no hko ho0
  rw [hσ_off (rLn_h (by omega))] at hb1
  have hn64 : n ≤ 64 := by
    by_cases q : k = 1
    · rw [if_pos q] at hn; omega
    · rw [if_neg q] at hn; exact hn
  have ho31 : no < 2 ^ 31 := hko ▸ rLn_31 (k := ko) (by omega)
  have hg : gvF k (hFin θ.1 θ.2.1 θ.2.2.1 k (hFold θ k bs (hBeg k θ.2.2.2 h0))).1 a n (bt (hσ G ad σ0 x0 k (hFold θ k bs (hBeg k θ.2.2.2 h0))) ko) = wr (bt (hσ G ad σ0 x0 k (hFold θ k bs (hBeg k θ.2.2.2 h0))) ko) a (dgL θ k n bs) := by
    rw [gvF_wr]
    exact congrArg (wr _ a) (dgB_eq (hSt_eq hk bs h0) hn64)
  have hf := hFold_f (θ := θ) (bs := bs) (h0 := h0) hk
  rcases hk with rfl | rfl | rfl
  · refine nOk.weak (c_give1 I hN (σ := σ0) t.2.2.1 t.2.2.2 t.2.1 _ hf (hN ko (rLn_74 (by omega))) (rOff_hash (rLn_off (by omega))) (rOff_tab (rLn_off (by omega))) hb1 a n hn han ho31) ?_
    rintro r σ' ⟨h1, h2⟩
    exact ⟨h1, give_post hS hko ho0 hg h2⟩
  · refine nOk.weak (c_give3 I hN (σ := σ0) t.2.2.1 t.2.2.2 t.2.1 _ hf (hN ko (rLn_74 (by omega))) (rOff_hash (rLn_off (by omega))) (rOff_tab (rLn_off (by omega))) hb1 a n hn64 han ho31) ?_
    rintro r σ' ⟨h1, h2⟩
    exact ⟨h1, give_post hS hko ho0 hg h2⟩
  · refine nOk.weak (c_give12 I hN (σ := σ0) t.2.2.1 t.2.2.2 t.2.1 _ hf (hN ko (rLn_74 (by omega))) (rOff_hash (rLn_off (by omega))) (rOff_tab (rLn_off (by omega))) hb1 a n hn64 han ho31) ?_
    rintro r σ' ⟨h1, h2⟩
    exact ⟨h1, give_post hS hko ho0 hg h2⟩
/-- a move at the level of the room -/
theorem rs_mv (I : nI1 ad N) (hN : ∀ k, k < 74 → k < N) (hS : RS G ad θ x σ) {kx nx ko no : Nat} (hkx : rLn kx = nx) (hx0 : 0 < nx) (hko : rLn ko = no) (ho0 : 0 < no) (hne : kx ≠ ko) (a b mm : Nat) (ha : a + mm ≤ nx) (hb : b + mm ≤ no) (hnw : nrw (sl (bt σ kx) a mm)) : nOk G B l ad N yX12_move cX12_move 6 none 0 0 0 [.ref (ad kx), .int (nI a), .ref (ad ko), .int (nI b), .int (nI mm)] σ (fun r σ' => r = none ∧ RS G ad θ x σ' ∧ (∀ k, ¬ (k = ko) → σ' k = σ k) ∧ bt σ' ko = wr (bt σ ko) b (sl (bt σ kx) a mm)) := by
  refine nOk.weak (c_move I (hN kx (rLn_74 (by omega))) (hN ko (rLn_74 (by omega))) hne (hS.b kx nx hkx hx0) (hS.b ko no hko ho0) a b mm ha hb (by have := rLn_31 (k := kx) (by omega); omega) (by have := rLn_31 (k := ko) (by omega); omega)) ?_
  rintro r σ' ⟨h1, rfl⟩
  have hk : ∀ k, ¬ (k = ko) → va_up σ ko (eB G no (mvF (bt σ kx) a b mm (bt σ ko))) k = σ k := fun k hk => by simp [va_up, hk]
  refine ⟨h1, hS.up hko ho0 _, hk, ?_⟩
  have : va_up σ ko (eB G no (mvF (bt σ kx) a b mm (bt σ ko))) ko = eB G no (mvF (bt σ kx) a b mm (bt σ ko)) := by simp [va_up]
  rw [bt_B this, mvF_wr, nrw_map hnw]
/-- the address's head -/
def hdL (ly : Int32) (tr : Int64) : List Int32 := [b4 ly 0, b4 ly 1, b4 ly 2, b4 ly 3, vp_nar .byte 0, vp_nar .byte 0, vp_nar .byte 0, vp_nar .byte 0, b8 tr 0, b8 tr 1, b8 tr 2, b8 tr 3, b8 tr 4, b8 tr 5, b8 tr 6, b8 tr 7]
theorem hd_pl {ly : Int32} {tr : Int64} {A : Nat → Int32} : sl (plC tr 8 (plB 4 (plA ly 4 A))) 0 16 = hdL ly tr := rfl
theorem rs_place (I : nI1 ad N) (hN : ∀ k, k < 74 → k < N) (hS : RS G ad θ x σ) (ly : Int32) (tr : Int64) : nOk G B l ad N yX12_place cX12_place 5 none 0 0 0 [.ref (ad 49), .int ly, .long tr] σ (fun r σ' => r = none ∧ RS G ad θ x σ' ∧ (∀ k, ¬ (k = 28) → σ' k = σ k) ∧ sl (bt σ' 28) 0 16 = hdL ly tr) := by
  refine nOk.weak (c_place I hN hS.obj (hS.b 28 32 rfl (by decide)) ly tr) ?_
  rintro r σ' ⟨h1, rfl⟩
  exact ⟨h1, hS.up rfl (by decide) _, fun k hk => by simp [va_up, hk], hd_pl⟩
end R4
