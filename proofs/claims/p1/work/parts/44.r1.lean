/-! THE REFERENCE'S ROOM: shapes of all its cells; contents by name -/
def bt (σ : nS) (k : Nat) : Nat → Int32 := match σ k with
  | .inl (_, _, .inl f) => f
  | _ => fun _ => 0
def jt (σ : nS) (k : Nat) : Nat → Int64 := match σ k with
  | .inl (_, _, .inr (.inl f)) => f
  | _ => fun _ => 0
def ox (σ : nS) : Nat → Int32 := match σ 49 with
  | .inr (_, fs) => fun j => (match fs[j]? with
    | some (Value.int v) => v
    | _ => 0)
  | _ => fun _ => 0
def ot (σ : nS) : Int64 := match σ 49 with
  | .inr (_, fs) => (match fs[21]? with
    | some (Value.long v) => v
    | _ => 0)
  | _ => 0
theorem bt_B {G : vG} {σ : nS} {k n : Nat} {f : Nat → Int32} (h : σ k = eB G n f) : bt σ k = f := by unfold bt; rw [h]
theorem bt_I {G : vG} {σ : nS} {k n : Nat} {f : Nat → Int32} (h : σ k = eI G n f) : bt σ k = f := by unfold bt; rw [h]
theorem jt_J {G : vG} {σ : nS} {k n : Nat} {f : Nat → Int64} (h : σ k = eJ G n f) : jt σ k = f := by unfold jt; rw [h]
theorem ox_O {ad : Nat → Nat} {σ : nS} {x : Nat → Int32} {t : Int64} (h : σ 49 = eO 9 (mO ad x t)) : σ 49 = eO 9 (mO ad (ox σ) (ot σ)) := by
  unfold ox ot
  rw [h]
  rfl
/-- the ints that a hash leaves alone -/
def agI (a b : Nat → Int32) : Prop := a 3 = b 3 ∧ a 4 = b 4 ∧ a 41 = b 41 ∧ a 42 = b 42 ∧ a 43 = b 43 ∧ a 44 = b 44 ∧ a 45 = b 45 ∧ a 46 = b 46 ∧ a 47 = b 47 ∧ a 48 = b 48
theorem agI.tr {a b c : Nat → Int32} (h : agI a b) (g : agI b c) : agI a c :=
  ⟨h.1.trans g.1, h.2.1.trans g.2.1, h.2.2.1.trans g.2.2.1, h.2.2.2.1.trans g.2.2.2.1, h.2.2.2.2.1.trans g.2.2.2.2.1, h.2.2.2.2.2.1.trans g.2.2.2.2.2.1, h.2.2.2.2.2.2.1.trans g.2.2.2.2.2.2.1, h.2.2.2.2.2.2.2.1.trans g.2.2.2.2.2.2.2.1, h.2.2.2.2.2.2.2.2.1.trans g.2.2.2.2.2.2.2.2.1, h.2.2.2.2.2.2.2.2.2.trans g.2.2.2.2.2.2.2.2.2⟩
theorem agI.of {a b : Nat → Int32} (h : ∀ j, j ≠ 18 → j ≠ 19 → j ≠ 20 → a j = b j) : agI a b :=
  ⟨h 3 (by decide) (by decide) (by decide), h 4 (by decide) (by decide) (by decide), h 41 (by decide) (by decide) (by decide), h 42 (by decide) (by decide) (by decide), h 43 (by decide) (by decide) (by decide), h 44 (by decide) (by decide) (by decide), h 45 (by decide) (by decide) (by decide), h 46 (by decide) (by decide) (by decide), h 47 (by decide) (by decide) (by decide), h 48 (by decide) (by decide) (by decide)⟩
theorem ox_ag {ad : Nat → Nat} {σ : nS} {x : Nat → Int32} {t : Int64} (h : σ 49 = eO 9 (mO ad x t)) : agI (ox σ) x := by
  unfold ox
  rw [h]
  exact ⟨rfl, rfl, rfl, rfl, rfl, rfl, rfl, rfl, rfl, rfl⟩
/-- the rows of bytes and their lengths -/
def rLs : List Nat := [65536, 0, 0, 0, 0, 0, 0, 0, 0, 0, 0, 0, 0, 0, 0, 0, 0, 0, 0, 0, 0, 0, 128, 64, 64, 64, 256, 65536, 32, 0, 2144, 2048, 32, 64, 64, 64, 0, 32, 32, 32, 32, 0, 0, 0, 0, 0, 0, 0, 0, 0, 65536, 65536, 65536, 65536, 65536, 65536, 65536, 65536, 64, 64, 64, 64, 64, 64, 64, 64, 64, 64, 64, 64, 64, 64, 64, 64]
def rLn (k : Nat) : Nat := rLs.getD k 0
theorem rLn_74 {k : Nat} (h : 0 < rLn k) : k < 74 := by
  by_cases g : k < 74
  · exact g
  · have : rLn k = 0 := by
      unfold rLn List.getD
      rw [List.getElem?_eq_none (show rLs.length ≤ k from Nat.le_of_not_lt g)]
      rfl
    omega
def rOff : List Nat := [1, 2, 5, 6, 11, 12, 13, 14, 15, 16, 17, 29, 36, 49]
theorem rLn_all : ∀ k, k < 74 → 0 < rLn k → k ∉ rOff ∧ rLn k < 2 ^ 31 := by decide
theorem rLn_off {k : Nat} (h : 0 < rLn k) : k ∉ rOff := (rLn_all k (rLn_74 h) h).1
theorem rLn_31 {k : Nat} (h : 0 < rLn k) : rLn k < 2 ^ 31 := (rLn_all k (rLn_74 h) h).2
theorem rLn_pair : ∀ z, z < 16 → rLn (58 + z) = 64 := by decide
theorem rLn_slot : ∀ z, z < 8 → rLn (50 + z) = 65536 := by decide
theorem rOff_hash {k : Nat} (h : k ∉ rOff) : k ∉ [13, 14, 15, 16, 17, 49] := fun q => h (by
  have : ∀ j ∈ [13, 14, 15, 16, 17, 49], j ∈ rOff := by decide
  exact this k q)
theorem rOff_tab {k : Nat} (h : k ∉ rOff) : k ∉ [6, 11, 12] := fun q => h (by
  have : ∀ j ∈ [6, 11, 12], j ∈ rOff := by decide
  exact this k q)
/-- rows of a row -/
def eRf (ad : Nat → Nat) (b n : Nat) : Nat → Option Nat := fun i => if i < n then some (ad (b + i)) else none
theorem eRf_at {ad : Nat → Nat} {b n i : Nat} (h : i < n) : eRf ad b n i = some (ad (b + i)) := if_pos h
def RS (G : vG) (ad : Nat → Nat) (θ : tT) (x : Nat → Int32) (σ : nS) : Prop :=
  (∀ k, 0 < rLn k → σ k = eB G (rLn k) (bt σ k)) ∧ (σ 2 = eI G 8 (bt σ 2) ∧ σ 36 = eI G 67 (bt σ 36)) ∧ (σ 5 = eJ G 16 θ.2.2.2 ∧ σ 6 = eJ G 80 θ.2.2.1 ∧ σ 11 = eI G 25 θ.1 ∧ σ 12 = eJ G 24 θ.2.1) ∧ (σ 13 = eJ G 25 (jt σ 13) ∧ σ 14 = eJ G 25 (jt σ 14) ∧ σ 15 = eJ G 5 (jt σ 15) ∧ σ 16 = eJ G 80 (jt σ 16) ∧ σ 17 = eB G 128 (bt σ 17)) ∧ (σ 1 = eR G 8 (eRf ad 50 8) ∧ σ 29 = eR G 16 (eRf ad 58 16)) ∧ σ 49 = eO 9 (mO ad (ox σ) (ot σ)) ∧ agI (ox σ) x
section R1
variable {G : vG} {B : Nat} {l : Launch} {ad : Nat → Nat} {N : Nat} {θ : tT} {x : Nat → Int32} {σ : nS}
theorem RS.b (h : RS G ad θ x σ) (k n : Nat) (hk : rLn k = n) (h0 : 0 < n) : σ k = eB G n (bt σ k) := by
  subst hk
  exact h.1 k h0
theorem RS.len (h : RS G ad θ x σ) : σ 2 = eI G 8 (bt σ 2) := h.2.1.1
theorem RS.dig (h : RS G ad θ x σ) : σ 36 = eI G 67 (bt σ 36) := h.2.1.2
theorem RS.tab (h : RS G ad θ x σ) : σ 5 = eJ G 16 θ.2.2.2 ∧ σ 6 = eJ G 80 θ.2.2.1 ∧ σ 11 = eI G 25 θ.1 ∧ σ 12 = eJ G 24 θ.2.1 := h.2.2.1
theorem RS.slot (h : RS G ad θ x σ) : σ 1 = eR G 8 (eRf ad 50 8) := h.2.2.2.2.1.1
theorem RS.pair (h : RS G ad θ x σ) : σ 29 = eR G 16 (eRf ad 58 16) := h.2.2.2.2.1.2
theorem RS.obj (h : RS G ad θ x σ) : σ 49 = eO 9 (mO ad (ox σ) (ot σ)) := h.2.2.2.2.2.1
theorem RS.ag (h : RS G ad θ x σ) : agI (ox σ) x := h.2.2.2.2.2.2
theorem RS.i3 (h : RS G ad θ x σ) : ox σ 3 = x 3 := h.ag.1
theorem RS.i4 (h : RS G ad θ x σ) : ox σ 4 = x 4 := h.ag.2.1
theorem RS.i41 (h : RS G ad θ x σ) : ox σ 41 = x 41 := h.ag.2.2.1
theorem RS.i42 (h : RS G ad θ x σ) : ox σ 42 = x 42 := h.ag.2.2.2.1
theorem RS.i43 (h : RS G ad θ x σ) : ox σ 43 = x 43 := h.ag.2.2.2.2.1
theorem RS.i44 (h : RS G ad θ x σ) : ox σ 44 = x 44 := h.ag.2.2.2.2.2.1
theorem RS.i45 (h : RS G ad θ x σ) : ox σ 45 = x 45 := h.ag.2.2.2.2.2.2.1
theorem RS.i46 (h : RS G ad θ x σ) : ox σ 46 = x 46 := h.ag.2.2.2.2.2.2.2.1
theorem RS.i47 (h : RS G ad θ x σ) : ox σ 47 = x 47 := h.ag.2.2.2.2.2.2.2.2.1
theorem RS.i48 (h : RS G ad θ x σ) : ox σ 48 = x 48 := h.ag.2.2.2.2.2.2.2.2.2
theorem bt_same {σ' : nS} {k : Nat} (h : σ' k = σ k) : bt σ' k = bt σ k := by unfold bt; rw [h]
theorem jt_same {σ' : nS} {k : Nat} (h : σ' k = σ k) : jt σ' k = jt σ k := by unfold jt; rw [h]
theorem ox_same {σ' : nS} (h : σ' 49 = σ 49) : ox σ' = ox σ := by unfold ox; rw [h]
theorem ot_same {σ' : nS} (h : σ' 49 = σ 49) : ot σ' = ot σ := by unfold ot; rw [h]
/-- a row of bytes anew -/
theorem RS.up (h : RS G ad θ x σ) {k n : Nat} (hk : rLn k = n) (h0 : 0 < n) (f : Nat → Int32) : RS G ad θ x (va_up σ k (eB G n f)) := by
  subst hk
  have ho := rLn_off h0
  have q : ∀ j, j ≠ k → va_up σ k (eB G (rLn k) f) j = σ j := fun j hj => by simp [va_up, hj]
  have r : ∀ j, j ∈ rOff → va_up σ k (eB G (rLn k) f) j = σ j := fun j hj => q j (fun e => ho (e ▸ hj))
  obtain ⟨h1, ⟨h2, h3⟩, ⟨h4, h5, h6, h7⟩, ⟨h8, h9, ha, hb, hc⟩, ⟨hd, he⟩, hf, hg⟩ := h
  refine ⟨fun j hj => ?_, ⟨?_, ?_⟩, ⟨?_, ?_, ?_, ?_⟩, ⟨?_, ?_, ?_, ?_, ?_⟩, ⟨?_, ?_⟩, ?_, ?_⟩
  · by_cases e : j = k
    · subst e
      have : va_up σ j (eB G (rLn j) f) j = eB G (rLn j) f := by simp [va_up]
      rw [this, bt_B this]
    · rw [bt_same (q j e), q j e]
      exact h1 j hj
  · rw [bt_same (r 2 (by decide)), r 2 (by decide)]; exact h2
  · rw [bt_same (r 36 (by decide)), r 36 (by decide)]; exact h3
  · rw [r 5 (by decide)]; exact h4
  · rw [r 6 (by decide)]; exact h5
  · rw [r 11 (by decide)]; exact h6
  · rw [r 12 (by decide)]; exact h7
  · rw [jt_same (r 13 (by decide)), r 13 (by decide)]; exact h8
  · rw [jt_same (r 14 (by decide)), r 14 (by decide)]; exact h9
  · rw [jt_same (r 15 (by decide)), r 15 (by decide)]; exact ha
  · rw [jt_same (r 16 (by decide)), r 16 (by decide)]; exact hb
  · rw [bt_same (r 17 (by decide)), r 17 (by decide)]; exact hc
  · rw [r 1 (by decide)]; exact hd
  · rw [r 29 (by decide)]; exact he
  · rw [ox_same (r 49 (by decide)), ot_same (r 49 (by decide)), r 49 (by decide)]; exact hf
  · rw [ox_same (r 49 (by decide))]; exact hg
theorem RS.upI (h : RS G ad θ x σ) {k n : Nat} (hk : (k = 2 ∧ n = 8) ∨ (k = 36 ∧ n = 67)) (f : Nat → Int32) : RS G ad θ x (va_up σ k (eI G n f)) := by
  obtain ⟨h1, ⟨h2, h3⟩, ⟨h4, h5, h6, h7⟩, ⟨h8, h9, ha, hb, hc⟩, ⟨hd, he⟩, hf, hg⟩ := h
  have hz : rLn 2 = 0 ∧ rLn 36 = 0 := by decide
  have h1' : ∀ j, 0 < rLn j → va_up σ k (eI G n f) j = eB G (rLn j) (bt (va_up σ k (eI G n f)) j) := fun j hj => by
    have e : j ≠ k := fun q => by rcases hk with ⟨rfl, _⟩ | ⟨rfl, _⟩ <;> subst q <;> omega
    have q : va_up σ k (eI G n f) j = σ j := by simp [va_up, e]
    rw [bt_same q, q]
    exact h1 j hj
  rcases hk with ⟨rfl, rfl⟩ | ⟨rfl, rfl⟩
  · exact ⟨h1', ⟨rfl, h3⟩, ⟨h4, h5, h6, h7⟩, ⟨h8, h9, ha, hb, hc⟩, ⟨hd, he⟩, hf, hg⟩
  · exact ⟨h1', ⟨h2, rfl⟩, ⟨h4, h5, h6, h7⟩, ⟨h8, h9, ha, hb, hc⟩, ⟨hd, he⟩, hf, hg⟩
/-- the object's ints anew -/
theorem RS.upO (h : RS G ad θ x σ) {x1 x2 : Nat → Int32} {t : Int64} (hx : agI x1 x2) : RS G ad θ x2 (va_up σ 49 (eO 9 (mO ad x1 t))) := by
  obtain ⟨h1, ⟨h2, h3⟩, ⟨h4, h5, h6, h7⟩, ⟨h8, h9, ha, hb, hc⟩, ⟨hd, he⟩, hf, hg⟩ := h
  have hz : rLn 49 = 0 := by decide
  have h1' : ∀ j, 0 < rLn j → va_up σ 49 (eO 9 (mO ad x1 t)) j = eB G (rLn j) (bt (va_up σ 49 (eO 9 (mO ad x1 t))) j) := fun j hj => by
    have e : j ≠ 49 := fun q => by subst q; omega
    have q : va_up σ 49 (eO 9 (mO ad x1 t)) j = σ j := by simp [va_up, e]
    rw [bt_same q, q]
    exact h1 j hj
  exact ⟨h1', ⟨h2, h3⟩, ⟨h4, h5, h6, h7⟩, ⟨h8, h9, ha, hb, hc⟩, ⟨hd, he⟩, ox_O (ad := ad) (x := x1) (t := t) rfl, (ox_ag (ad := ad) (x := x1) (t := t) rfl).tr hx⟩
/-- the hash's cells anew -/
theorem RS.g (h : RS G ad θ x σ) {x' : Nat → Int32} (hx : agI x' x) (h' : hT) : RS G ad θ x (gσ G ad σ x' h') := by
  obtain ⟨h1, ⟨h2, h3⟩, ⟨h4, h5, h6, h7⟩, ⟨h8, h9, ha, hb, hc⟩, ⟨hd, he⟩, hf, hg⟩ := h
  have h1' : ∀ j, 0 < rLn j → gσ G ad σ x' h' j = eB G (rLn j) (bt (gσ G ad σ x' h') j) := fun j hj => by
    have q : gσ G ad σ x' h' j = σ j := by
      have := rOff_hash (rLn_off hj)
      simp only [List.mem_cons, List.not_mem_nil, or_false, not_or] at this
      simp [gσ, va_up, this]
    rw [bt_same q, q]
    exact h1 j hj
  exact ⟨h1', ⟨h2, h3⟩, ⟨h4, h5, h6, h7⟩, ⟨rfl, rfl, rfl, rfl, rfl⟩, ⟨hd, he⟩, ox_O (ad := ad) (x := x') (t := h'.2.2.2.2.2.2) rfl, (ox_ag (ad := ad) (x := x') (t := h'.2.2.2.2.2.2) rfl).tr hx⟩
/-- the stream that stands there -/
def hOf (σ : nS) (k : Nat) : hT := (jt σ 13, jt σ 14, jt σ 15, jt σ 16, bt σ 17, k, ot σ)
theorem RS.fix (h : RS G ad θ x σ) : gσ G ad σ (ox σ) (hOf σ 0) = σ := by
  obtain ⟨h1, ⟨h2, h3⟩, ⟨h4, h5, h6, h7⟩, ⟨h8, h9, ha, hb, hc⟩, ⟨hd, he⟩, hf, hg⟩ := h
  unfold gσ hOf
  rw [n_id h8, n_id h9, n_id ha, n_id hb, n_id hc, n_id hf]
theorem gσ_off {x' : Nat → Int32} {h' : hT} {k : Nat} (h : ¬ (13 ≤ k ∧ k ≤ 17 ∨ k = 49)) : gσ G ad σ x' h' k = σ k := by
  have h1 : k ≠ 13 := by omega
  have h2 : k ≠ 14 := by omega
  have h3 : k ≠ 15 := by omega
  have h4 : k ≠ 16 := by omega
  have h5 : k ≠ 17 := by omega
  have h6 : k ≠ 49 := by omega
  simp [gσ, va_up, h1, h2, h3, h4, h5, h6]
theorem rLn_h {k : Nat} (h : 0 < rLn k) : ¬ (13 ≤ k ∧ k ≤ 17 ∨ k = 49) := by
  have := rOff_hash (rLn_off h)
  simp only [List.mem_cons, List.not_mem_nil, or_false, not_or] at this
  omega
theorem hashed_post {ko no b : Nat} {L fo g : _} (hS : RS G ad θ x σ) (hko : rLn ko = no) (ho0 : 0 < no) {x' : Nat → Int32} {h' : hT} (hx : ∀ j, j ≠ 18 → j ≠ 19 → j ≠ 20 → x' j = ox σ j) (hf : fo = bt σ ko) (hg : g = wr fo b L) {σ' : nS} (hσ : σ' = gσ G ad (va_up σ ko (eB G no g)) x' h') : RS G ad θ x σ' ∧ (∀ k, ¬ (13 ≤ k ∧ k ≤ 17 ∨ k = 49 ∨ k = ko) → σ' k = σ k) ∧ bt σ' ko = wr (bt σ ko) b L := by
  subst hσ
  refine ⟨(hS.up hko ho0 g).g ((agI.of hx).tr hS.ag) h', fun k hk => ?_, ?_⟩
  · rw [gσ_off (by omega)]
    have : k ≠ ko := by omega
    simp [va_up, this]
  · have : gσ G ad (va_up σ ko (eB G no g)) x' h' ko = eB G no g := by
      rw [gσ_off (rLn_h (by omega))]
      simp [va_up]
    rw [bt_B this, hg, hf]
theorem sl_one {f : Nat → Int32} {a : Nat} : sl f a 1 = [f a] := by simp [sl]
theorem sl_drop {f : Nat → Int32} {a n m : Nat} (h : m ≤ n) : (sl f a n).drop m = sl f (a + m) (n - m) := by
  have : n = m + (n - m) := by omega
  rw [this, sl_app, List.drop_left' sl_len]
  simp
theorem hr12_wr {nn : Nat} {P A f g : Nat → Int32} {a m b : Nat} {h : hT} (hn : nn ≤ 64) (d : List Int32) (hd : d = sl f a m) : hr12 θ.1 θ.2.1 θ.2.2.1 θ.2.2.2 nn P A f a m h b g = wr g b (fL θ true nn (sl P 0 nn) (sl A 0 16) (sl A 16 16) d) := by
  subst hd
  unfold hr12
  rw [gvF_wr]
  refine congrArg (wr g b) ?_
  unfold fL dgL
  show dgB 12 _ nn = dgB 12 (hSt θ 12 (fMsg 12 nn _ _ _ _)) nn
  refine dgB_eq (fun j hj => ?_) hn
  unfold hs12
  rw [hPutN_fold, hPutN_fold, hPutN_fold, ← hFold_app, ← hFold_app]
  have e : fMsg 12 nn (sl P 0 nn) (sl A 0 16) (sl A 16 16) (sl f a m) = sl P 0 nn ++ sl A 0 32 ++ sl f a m := by
    unfold fMsg
    have e2 : sl A 0 32 = sl A 0 16 ++ sl A 16 16 := sl_app (f := A) (a := 0) (m := 16) 16
    rw [if_pos rfl, e2]
  rw [e, List.append_assoc]
  exact hSt_eq (Or.inr (Or.inr rfl)) _ h j hj
theorem hr2_wr {k nn : Nat} (hk : k = 1 ∨ k = 3) {P A f g : Nat → Int32} {a m b : Nat} {h : hT} (hn : nn ≤ 64) (d : List Int32) (hd : d = sl f a m) (hK : fKind false nn m (A 19) = k) : hr2 θ.1 θ.2.1 θ.2.2.1 θ.2.2.2 k nn P A f a m h b g = wr g b (fL θ false nn (sl P 0 nn) (sl A 0 16) (sl A 16 16) d) := by
  subst hd
  have hk3 : k = 1 ∨ k = 3 ∨ k = 12 := by rcases hk with q | q <;> simp [q]
  unfold hr2
  rw [gvF_wr]
  refine congrArg (wr g b) ?_
  unfold fL dgL
  rw [sl_at (by decide), sl_len, hK]
  refine dgB_eq (fun j hj => ?_) hn
  unfold hs2
  have e : fMsg k nn (sl P 0 nn) (sl A 0 16) (sl A 16 16) (sl f a m) = sl P 0 nn ++ List.replicate (rateK k - nn) 0 ++ [A 3] ++ sl A 8 8 ++ [A 19] ++ sl A 20 12 ++ sl f a m := by
    unfold fMsg
    rw [if_neg (by rcases hk with q | q <;> simp [q]), sl_at (by decide), sl_at (by decide), sl_drop (by decide), sl_drop (by decide)]
  rw [e, hPutN_fold, hPutN_fold, hPutN_fold, hPutN_fold, hZero_fold]
  have := hSt_eq (θ := θ) hk3 (sl P 0 nn ++ List.replicate (rateK k - nn) 0 ++ [A 3] ++ sl A 8 8 ++ [A 19] ++ sl A 20 12 ++ sl f a m) h j hj
  rw [hFold_app, hFold_app, hFold_app, hFold_app, hFold_app, hFold_app] at this
  exact this
theorem r_hashed (I : nI1 ad N) (hN : ∀ k, k < 74 → k < N) (hS : RS G ad θ x σ) {kx nx ko no nn : Nat} {sh : Bool} (h41 : x 41 = nI nn) (hnn : nn ≤ 32) (h48 : x 48 = if sh then 1 else 0) (hkx : rLn kx = nx) (hx0 : 0 < nx) (hko : rLn ko = no) (ho0 : 0 < no) (a mm b : Nat) (ha : a + mm ≤ nx) (hb : b + nn ≤ no) : nOk G B l ad N yX12_hashed cX12_hashed 8 none 5 0 0 [.ref (ad 49), .ref (ad kx), .int (nI a), .int (nI mm), .ref (ad ko), .int (nI b)] σ (fun r σ' => r = none ∧ RS G ad θ x σ' ∧ (∀ k, ¬ (13 ≤ k ∧ k ≤ 17 ∨ k = 49 ∨ k = ko) → σ' k = σ k) ∧ bt σ' ko = wr (bt σ ko) b (fL θ sh nn (sl (bt σ 37) 0 nn) (sl (bt σ 28) 0 16) (sl (bt σ 28) 16 16) (sl (bt σ kx) a mm))) := by
  subst hkx; subst hko
  have t := hS.tab
  have hx1 := rLn_31 hx0
  have ho1 := rLn_31 ho0
  have e41 : ox σ 41 = nI nn := hS.i41.trans h41
  have key : nOk G B l ad N yX12_hashed cX12_hashed 8 none 5 0 0 [.ref (ad 49), .ref (ad kx), .int (nI a), .int (nI mm), .ref (ad ko), .int (nI b)] (gσ G ad σ (ox σ) (hOf σ 0)) (fun r σ' => r = none ∧ RS G ad θ x σ' ∧ (∀ k, ¬ (13 ≤ k ∧ k ≤ 17 ∨ k = 49 ∨ k = ko) → σ' k = σ k) ∧ bt σ' ko = wr (bt σ ko) b (fL θ sh nn (sl (bt σ 37) 0 nn) (sl (bt σ 28) 0 16) (sl (bt σ 28) 16 16) (sl (bt σ kx) a mm))) := by
    cases sh with
    | true =>
      refine nOk.weak (c_hashed12 I hN t.2.2.1 t.2.2.2 t.2.1 t.1 (hS.b 37 32 rfl (by decide)) (hS.b 28 32 rfl (by decide)) (hN kx (rLn_74 hx0)) (rOff_hash (rLn_off hx0)) (hS.b kx _ rfl hx0) (hN ko (rLn_74 ho0)) (rOff_hash (rLn_off ho0)) (rOff_tab (rLn_off ho0)) (hS.b ko _ rfl ho0) e41 hnn a mm b ha hx1 hb ho1 (hS.i48.trans h48) _ _ _ _ _ _ _) ?_
      rintro r σ' ⟨h1, x', h', h2, h3⟩
      exact ⟨h1, hashed_post hS rfl ho0 h2 rfl (hr12_wr (by omega) _ rfl) h3⟩
    | false =>
      by_cases g : 16 < nn ∧ nn < mm ∧ bt σ 28 19 ≠ 5 ∧ bt σ 28 19 ≠ 6
      · refine nOk.weak (c_hashed3 I hN t.2.2.1 t.2.2.2 t.2.1 t.1 (hS.b 37 32 rfl (by decide)) (hS.b 28 32 rfl (by decide)) (hN kx (rLn_74 hx0)) (rOff_hash (rLn_off hx0)) (hS.b kx _ rfl hx0) (hN ko (rLn_74 ho0)) (rOff_hash (rLn_off ho0)) (rOff_tab (rLn_off ho0)) (hS.b ko _ rfl ho0) e41 hnn a mm b ha hx1 hb ho1 (by omega) (hS.i48.trans h48) g.1 g.2.1 g.2.2.1 g.2.2.2 _ _ _ _ _ _ _) ?_
        rintro r σ' ⟨h1, x', h', h2, h3⟩
        exact ⟨h1, hashed_post hS rfl ho0 h2 rfl (hr2_wr (Or.inr rfl) (by omega) _ rfl (by unfold fKind; rw [if_neg (by decide), if_pos g])) h3⟩
      · have g' : nn ≤ 16 ∨ mm ≤ nn ∨ bt σ 28 19 = 5 ∨ bt σ 28 19 = 6 := by
          by_cases q1 : 16 < nn
          · by_cases q2 : nn < mm
            · by_cases q3 : bt σ 28 19 = 5
              · exact Or.inr (Or.inr (Or.inl q3))
              · by_cases q4 : bt σ 28 19 = 6
                · exact Or.inr (Or.inr (Or.inr q4))
                · exact absurd ⟨q1, q2, q3, q4⟩ g
            · exact Or.inr (Or.inl (by omega))
          · exact Or.inl (by omega)
        refine nOk.weak (c_hashed1 I hN t.2.2.1 t.2.2.2 t.2.1 t.1 (hS.b 37 32 rfl (by decide)) (hS.b 28 32 rfl (by decide)) (hN kx (rLn_74 hx0)) (rOff_hash (rLn_off hx0)) (hS.b kx _ rfl hx0) (hN ko (rLn_74 ho0)) (rOff_hash (rLn_off ho0)) (rOff_tab (rLn_off ho0)) (hS.b ko _ rfl ho0) e41 hnn a mm b ha hx1 hb ho1 (by omega) (hS.i48.trans h48) g' _ _ _ _ _ _ _) ?_
        rintro r σ' ⟨h1, x', h', h2, h3⟩
        exact ⟨h1, hashed_post hS rfl ho0 h2 rfl (hr2_wr (Or.inl rfl) (by omega) _ rfl (by unfold fKind; rw [if_neg (by decide), if_neg g])) h3⟩
  rwa [hS.fix] at key
end R1
