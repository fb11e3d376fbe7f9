/-! PURE: streams over lists of bytes; nobody sees what stood in the rows before -/
abbrev tT : Type := (Nat → Int32) × (Nat → Int64) × (Nat → Int64) × (Nat → Int64)
def hQ (k : Nat) (h h' : hT) : Prop := eq25 h.1 h'.1 ∧ h.2.2.2.2.2.1 = h'.2.2.2.2.2.1 ∧ h.2.2.2.2.2.2 = h'.2.2.2.2.2.2 ∧ (k ≠ 12 → ∀ j, j < h.2.2.2.2.2.1 → h.2.2.2.2.1 j = h'.2.2.2.2.1 j)
theorem rateK_b {k : Nat} (hk : k = 1 ∨ k = 3 ∨ k = 12) : 64 ≤ rateK k ∧ rateK k ≤ 136 := by
  rcases hk with rfl | rfl | rfl <;> decide
theorem hPut1_q {k : Nat} (hk : k = 1 ∨ k = 3 ∨ k = 12) {v : Int32} {h h' : hT} (q : hQ k h h') (hf : h.2.2.2.2.2.1 < rateK k) : hQ k (hPut1 k v h) (hPut1 k v h') := by
  obtain ⟨S, O, D, W, Bk, f, t⟩ := h
  obtain ⟨S', O', D', W', Bk', f', t'⟩ := h'
  obtain ⟨q1, q2, q3, q4⟩ := q
  dsimp only at q1 q2 q3 q4 hf
  subst q2; subst q3
  have hr := (rateK_b hk).2
  unfold hPut1
  by_cases e : k = 12
  · simp only [e, if_true]
    exact ⟨sp1_eq q1 (by omega), rfl, rfl, fun g => absurd rfl g⟩
  · simp only [e, if_false]
    refine ⟨q1, rfl, rfl, fun _ j hj => ?_⟩
    dsimp only at hj ⊢
    unfold upd
    by_cases g : j = f
    · rw [if_pos g, if_pos g]
    · rw [if_neg g, if_neg g]
      exact q4 e j (by omega)
theorem hBlk_1 {T : Nat → Int32} {Rc K S O D W : Nat → Int64} {Bk : Nat → Int32} {f : Nat} {t : Int64} : hBlk T Rc K 1 (S, O, D, W, Bk, f, t) = (c32 K Bk W S, O, D, c32W Bk W, Bk, 0, t) := by
  simp only [hBlk]
  rw [if_neg (by decide), if_pos trivial]
theorem hBlk_3 {T : Nat → Int32} {Rc K S O D W : Nat → Int64} {Bk : Nat → Int32} {f : Nat} {t : Int64} : hBlk T Rc K 3 (S, O, D, W, Bk, f, t) = (c64 K Bk W S, O, D, c64W Bk W, Bk, 0, t) := by
  simp only [hBlk]
  rw [if_neg (by decide), if_neg (by decide)]
theorem hBlk_12 {T : Nat → Int32} {Rc K S O D W : Nat → Int64} {Bk : Nat → Int32} {f : Nat} {t : Int64} : hBlk T Rc K 12 (S, O, D, W, Bk, f, t) = ((itN (pmR T Rc) 24 (S, O, D)).1, (itN (pmR T Rc) 24 (S, O, D)).2.1, (itN (pmR T Rc) 24 (S, O, D)).2.2, W, Bk, 0, t) := by
  simp only [hBlk]
  rw [if_pos trivial]
theorem rateK_1 : rateK 1 = 64 := by decide
theorem rateK_3 : rateK 3 = 128 := by decide
theorem rateK_12 : rateK 12 = 136 := by decide
theorem hQ_mk {k : Nat} {u v O D a O' D' b : Nat → Int64} {Bk Bk' : Nat → Int32} {t : Int64} (key : eq25 u v) : hQ k (u, O, D, a, Bk, 0, t) (v, O', D', b, Bk', 0, t) :=
  ⟨key, rfl, rfl, fun _ j hj => absurd hj (Nat.not_lt_zero j)⟩
theorem eq25_fst {α : Type} {u v : Nat → Int64} {a b : α} (key : eq25 u v) : eq25 (u, a).1 (v, b).1 := key
theorem hBlk_q1 {T : Nat → Int32} {Rc K : Nat → Int64} {S O D W S' O' D' W' : Nat → Int64} {Bk Bk' : Nat → Int32} {f : Nat} {t : Int64} (q1 : eq25 S S') (q4 : ∀ j, j < 64 → Bk j = Bk' j) : hQ 1 (hBlk T Rc K 1 (S, O, D, W, Bk, f, t)) (hBlk T Rc K 1 (S', O', D', W', Bk', f, t)) := by
  rw [hBlk_1, hBlk_1]
  exact hQ_mk (c32_eq q4 q1)
theorem hBlk_q3 {T : Nat → Int32} {Rc K : Nat → Int64} {S O D W S' O' D' W' : Nat → Int64} {Bk Bk' : Nat → Int32} {f : Nat} {t : Int64} (q1 : eq25 S S') (q4 : ∀ j, j < 128 → Bk j = Bk' j) : hQ 3 (hBlk T Rc K 3 (S, O, D, W, Bk, f, t)) (hBlk T Rc K 3 (S', O', D', W', Bk', f, t)) := by
  rw [hBlk_3, hBlk_3]
  exact hQ_mk (c64_eq q4 q1)
theorem hBlk_q12 {T : Nat → Int32} {Rc K : Nat → Int64} {S O D W S' O' D' W' : Nat → Int64} {Bk Bk' : Nat → Int32} {f : Nat} {t : Int64} (q1 : eq25 S S') : hQ 12 (hBlk T Rc K 12 (S, O, D, W, Bk, f, t)) (hBlk T Rc K 12 (S', O', D', W', Bk', f, t)) := by
  rw [hBlk_12, hBlk_12]
  exact hQ_mk (pmN_eq q1 24)
theorem hBlk_q {T : Nat → Int32} {Rc K : Nat → Int64} {k : Nat} (hk : k = 1 ∨ k = 3 ∨ k = 12) {h h' : hT} (q : hQ k h h') (hf : h.2.2.2.2.2.1 = rateK k) : hQ k (hBlk T Rc K k h) (hBlk T Rc K k h') := by
  obtain ⟨S, O, D, W, Bk, f, t⟩ := h
  obtain ⟨S', O', D', W', Bk', f', t'⟩ := h'
  obtain ⟨q1, q2, q3, q4⟩ := q
  dsimp only at q1 q2 q3 q4 hf
  subst q2; subst q3
  rcases hk with rfl | rfl | rfl
  · rw [rateK_1] at hf
    exact hBlk_q1 q1 (fun j hj => q4 (by decide) j (by omega))
  · rw [rateK_3] at hf
    exact hBlk_q3 q1 (fun j hj => q4 (by decide) j (by omega))
  · exact hBlk_q12 q1
theorem hPut1_f {k : Nat} {v : Int32} {h : hT} : (hPut1 k v h).2.2.2.2.2.1 = h.2.2.2.2.2.1 + 1 := by
  obtain ⟨S, O, D, W, Bk, f, t⟩ := h
  unfold hPut1
  by_cases e : k = 12 <;> simp [e]
theorem hPut_q {T : Nat → Int32} {Rc K : Nat → Int64} {k : Nat} (hk : k = 1 ∨ k = 3 ∨ k = 12) {v : Int32} {h h' : hT} (q : hQ k h h') (hf : h.2.2.2.2.2.1 < rateK k) : hQ k (hPut T Rc K k v h) (hPut T Rc K k v h') := by
  have h1 := hPut1_q hk (v := v) q hf
  unfold hPut
  rw [← q.2.1]
  by_cases g : h.2.2.2.2.2.1 + 1 = rateK k
  · rw [if_pos g, if_pos g]
    exact hBlk_q hk h1 (by rw [hPut1_f]; exact g)
  · rw [if_neg g, if_neg g]
    exact h1
/-- the bytes of a list, one behind the other -/
def hFold (θ : tT) (k : Nat) : List Int32 → hT → hT
  | [], h => h
  | v :: r, h => hFold θ k r (hPut θ.1 θ.2.1 θ.2.2.1 k v h)
theorem hFold_app {θ : tT} {k : Nat} : ∀ (a b : List Int32) (h : hT), hFold θ k (a ++ b) h = hFold θ k b (hFold θ k a h)
  | [], _, _ => rfl
  | v :: r, b, h => hFold_app r b (hPut θ.1 θ.2.1 θ.2.2.1 k v h)
theorem hFold_lt {θ : tT} {k : Nat} (hk : k = 1 ∨ k = 3 ∨ k = 12) : ∀ (b : List Int32) {h : hT}, h.2.2.2.2.2.1 < rateK k → (hFold θ k b h).2.2.2.2.2.1 < rateK k
  | [], _, hf => hf
  | _ :: r, _, hf => hFold_lt hk r (hPut_lt hk _ _ hf)
theorem hFold_q {θ : tT} {k : Nat} (hk : k = 1 ∨ k = 3 ∨ k = 12) : ∀ (b : List Int32) {h h' : hT}, hQ k h h' → h.2.2.2.2.2.1 < rateK k → hQ k (hFold θ k b h) (hFold θ k b h')
  | [], _, _, q, _ => q
  | _ :: r, _, _, q, hf => hFold_q hk r (hPut_q hk q hf) (hPut_lt hk _ _ hf)
/-- a stretch of a row as a list -/
def sl (f : Nat → Int32) (a n : Nat) : List Int32 := (List.range n).map (fun i => f (a + i))
theorem sl_len {f : Nat → Int32} {a n : Nat} : (sl f a n).length = n := by simp [sl]
theorem sl_0 {f : Nat → Int32} {a : Nat} : sl f a 0 = [] := rfl
theorem sl_s {f : Nat → Int32} {a n : Nat} : sl f a (n + 1) = sl f a n ++ [f (a + n)] := by simp [sl, List.range_succ]
theorem sl_at {f : Nat → Int32} {a n i : Nat} (h : i < n) : (sl f a n).getD i 0 = f (a + i) := by simp [sl, h, List.getD]
theorem sl_ext {f g : Nat → Int32} {a b n : Nat} (h : ∀ i, i < n → f (a + i) = g (b + i)) : sl f a n = sl g b n := by
  unfold sl
  exact List.map_congr_left (fun i hi => h i (List.mem_range.mp hi))
theorem sl_app {f : Nat → Int32} {a m : Nat} : ∀ n, sl f a (m + n) = sl f a m ++ sl f (a + m) n
  | 0 => by simp [sl_0]
  | n + 1 => by rw [← Nat.add_assoc, sl_s, sl_s, sl_app n, List.append_assoc, Nat.add_assoc]
theorem hPutN_fold {θ : tT} {k : Nat} {f : Nat → Int32} {a : Nat} {h : hT} : ∀ n, hPutN θ.1 θ.2.1 θ.2.2.1 k f a n h = hFold θ k (sl f a n) h
  | 0 => rfl
  | n + 1 => by
    rw [sl_s, hFold_app, ← hPutN_fold n]
    rfl
theorem hZero_fold {θ : tT} {k : Nat} {h : hT} : ∀ n, hZero θ.1 θ.2.1 θ.2.2.1 k n h = hFold θ k (List.replicate n 0) h
  | 0 => rfl
  | n + 1 => by
    rw [List.replicate_succ', hFold_app, ← hZero_fold n]
    rfl
theorem hLen_fold {θ : tT} {k r : Nat} {b : Int64} {h : hT} : ∀ n, hLen θ.1 θ.2.1 θ.2.2.1 k r b n h = hFold θ k ((List.range n).map (fun j => lenB b (r - 1 - j))) h
  | 0 => rfl
  | n + 1 => by
    rw [List.range_succ, List.map_append, hFold_app, ← hLen_fold n]
    rfl
theorem itU_at {v S : Nat → Int64} : ∀ n j, itN (fun i S => vp_updL S i (v i)) n S j = if j < n then v j else S j
  | 0, j => by rw [if_neg (Nat.not_lt_zero j), itN_0]
  | n + 1, j => by
    rw [itN_s, up_at, itU_at n j]
    by_cases h : j = n
    · subst h
      rw [if_pos rfl, if_pos (Nat.lt_succ_self j)]
    · rw [if_neg h]
      by_cases g : j < n
      · rw [if_pos g, if_pos (by omega)]
      · rw [if_neg g, if_neg (by omega)]
theorem zS_at {S : Nat → Int64} (n j : Nat) : zS n S j = if j < n then 0 else S j := itU_at (v := fun _ => 0) n j
theorem bgS_at {k : Nat} {Rt S : Nat → Int64} (n j : Nat) : bgS k Rt n S j = if j < n then (if k = 1 then us64 (Rt j) 32 else Rt j) else S j := itU_at (v := fun i => if k = 1 then us64 (Rt i) 32 else Rt i) n j
theorem hBeg_q {k : Nat} {Rt : Nat → Int64} {h h' : hT} : hQ k (hBeg k Rt h) (hBeg k Rt h') := by
  obtain ⟨S, O, D, W, Bk, f, t⟩ := h
  obtain ⟨S', O', D', W', Bk', f', t'⟩ := h'
  refine ⟨?_, rfl, rfl, fun _ j hj => absurd hj (Nat.not_lt_zero j)⟩
  intro j hj
  show (if k = 12 then zS 25 S else bgS k Rt 8 (zS 25 S)) j = (if k = 12 then zS 25 S' else bgS k Rt 8 (zS 25 S')) j
  by_cases e : k = 12
  · rw [if_pos e, if_pos e, zS_at, zS_at, if_pos hj, if_pos hj]
  · rw [if_neg e, if_neg e, bgS_at, bgS_at, zS_at, zS_at, if_pos hj, if_pos hj]
theorem hBeg_f {k : Nat} {Rt : Nat → Int64} {h : hT} : (hBeg k Rt h).2.2.2.2.2.1 = 0 := by
  obtain ⟨S, O, D, W, Bk, f, t⟩ := h
  rfl
/-- the padding of SHA-2 behind fl bytes in the block, with t bytes in all -/
def padL (k fl : Nat) (t : Int64) : List Int32 := 128 :: (List.replicate (padZ k ((fl + 1) % rateK k)) 0 ++ (List.range (rateK k / 8)).map (fun j => lenB (8 * t) (rateK k / 8 - 1 - j)))
theorem hFin_fold {θ : tT} {k : Nat} (hk : k = 1 ∨ k = 3) {h : hT} (hf : h.2.2.2.2.2.1 < rateK k) : hFin θ.1 θ.2.1 θ.2.2.1 k h = hFold θ k (padL k h.2.2.2.2.2.1 h.2.2.2.2.2.2) h := by
  have hk3 : k = 1 ∨ k = 3 ∨ k = 12 := by rcases hk with q | q <;> simp [q]
  unfold hFin
  rw [if_neg (by rcases hk with q | q <;> simp [q]), hLen_fold, hZero_fold, hPut_fill hk3 _ _ hf]
  unfold padL
  rw [show ∀ r : List Int32, hFold θ k (128 :: r) h = hFold θ k r (hPut θ.1 θ.2.1 θ.2.2.1 k 128 h) from fun _ => rfl, hFold_app]
theorem hFin_12 {T : Nat → Int32} {Rc K S O D W : Nat → Int64} {Bk : Nat → Int32} {f : Nat} {t : Int64} : hFin T Rc K 12 (S, O, D, W, Bk, f, t) = ((itN (pmR T Rc) 24 (sp1 (sp1 S f 31) 135 128, O, D)).1, (itN (pmR T Rc) 24 (sp1 (sp1 S f 31) 135 128, O, D)).2.1, (itN (pmR T Rc) 24 (sp1 (sp1 S f 31) 135 128, O, D)).2.2, W, Bk, 0, t) := by
  unfold hFin
  rw [if_pos rfl]
theorem hFin_q {θ : tT} {k : Nat} (hk : k = 1 ∨ k = 3 ∨ k = 12) {h h' : hT} (q : hQ k h h') (hf : h.2.2.2.2.2.1 < rateK k) : eq25 (hFin θ.1 θ.2.1 θ.2.2.1 k h).1 (hFin θ.1 θ.2.1 θ.2.2.1 k h').1 := by
  by_cases e : k = 12
  · subst e
    obtain ⟨S, O, D, W, Bk, f, t⟩ := h
    obtain ⟨S', O', D', W', Bk', f', t'⟩ := h'
    obtain ⟨q1, q2, q3, q4⟩ := q
    dsimp only at q1 q2 q3 q4 hf
    subst q2; subst q3
    have hr := (rateK_b hk).2
    rw [hFin_12, hFin_12]
    exact eq25_fst (pmN_eq (sp1_eq (sp1_eq q1 (by omega)) (by decide)) 24)
  · have hk2 : k = 1 ∨ k = 3 := by rcases hk with q | q | q <;> simp_all
    rw [hFin_fold hk2 hf, hFin_fold hk2 (by rw [← q.2.1]; exact hf), ← q.2.1, ← q.2.2.1]
    exact (hFold_q hk _ q hf).1
/-- THE HASH of a list of bytes: its state behind the end -/
def hNil : hT := (fun _ => 0, fun _ => 0, fun _ => 0, fun _ => 0, fun _ => 0, 0, 0)
def hSt (θ : tT) (k : Nat) (bs : List Int32) : Nat → Int64 := (hFin θ.1 θ.2.1 θ.2.2.1 k (hFold θ k bs (hBeg k θ.2.2.2 hNil))).1
theorem hSt_eq {θ : tT} {k : Nat} (hk : k = 1 ∨ k = 3 ∨ k = 12) (bs : List Int32) (h : hT) : eq25 (hFin θ.1 θ.2.1 θ.2.2.1 k (hFold θ k bs (hBeg k θ.2.2.2 h))).1 (hSt θ k bs) := by
  have h0 : (hBeg k θ.2.2.2 h).2.2.2.2.2.1 < rateK k := by rw [hBeg_f]; have := (rateK_b hk).1; omega
  exact hFin_q hk (hFold_q hk bs hBeg_q h0) (hFold_lt hk bs h0)
/-- its first n bytes -/
def dgB (k : Nat) (S : Nat → Int64) (n : Nat) : List Int32 := (List.range n).map (fun i => vp_nar .byte (gvB k S i).toInt8.toInt32)
def dgL (θ : tT) (k n : Nat) (bs : List Int32) : List Int32 := dgB k (hSt θ k bs) n
theorem dgL_len {θ : tT} {k n : Nat} {bs : List Int32} : (dgL θ k n bs).length = n := by simp [dgL, dgB]
/-- a list written into a row -/
def wr (f : Nat → Int32) (b : Nat) (L : List Int32) : Nat → Int32 := fun j => if b ≤ j ∧ j < b + L.length then L.getD (j - b) 0 else f j
theorem wr_nil {f : Nat → Int32} {b : Nat} : wr f b [] = f := by
  funext j
  unfold wr
  rw [if_neg (by simp)]
theorem wr_snoc {f : Nat → Int32} {b : Nat} {L : List Int32} {v : Int32} : wr f b (L ++ [v]) = upd (wr f b L) (b + L.length) v := by
  funext j
  unfold wr upd
  by_cases h : j = b + L.length
  · subst h
    rw [if_pos rfl, if_pos (by simp)]
    simp [List.getD]
  · rw [if_neg h]
    dsimp only
    by_cases g : b ≤ j ∧ j < b + L.length
    · rw [if_pos g, if_pos (by simp; omega)]
      have : j - b < L.length := by omega
      simp [List.getD, List.getElem?_append_left this]
    · rw [if_neg g, if_neg (by simp; omega)]
theorem wr_in {f : Nat → Int32} {b j : Nat} {L : List Int32} (h : b ≤ j) (g : j < b + L.length) : wr f b L j = L.getD (j - b) 0 := by
  unfold wr
  rw [if_pos ⟨h, g⟩]
theorem wr_out {f : Nat → Int32} {b j : Nat} {L : List Int32} (h : j < b ∨ b + L.length ≤ j) : wr f b L j = f j := by
  unfold wr
  rw [if_neg (by omega)]
theorem sl_wr {f : Nat → Int32} {b : Nat} {L : List Int32} : sl (wr f b L) b L.length = L := by
  apply List.ext_getElem
  · simp [sl]
  · intro i h1 h2
    have : i < L.length := h2
    simp [sl, wr, this, List.getD]
theorem sl_wr' {f : Nat → Int32} {b n : Nat} {L : List Int32} (h : L.length = n) : sl (wr f b L) b n = L := by subst h; exact sl_wr
theorem sl_wr_out {f : Nat → Int32} {a n b : Nat} {L : List Int32} (h : a + n ≤ b ∨ b + L.length ≤ a) : sl (wr f b L) a n = sl f a n :=
  sl_ext (fun i hi => wr_out (by omega))
theorem gvF_wr {k : Nat} {S : Nat → Int64} {a : Nat} {f : Nat → Int32} : ∀ n, gvF k S a n f = wr f a (dgB k S n)
  | 0 => wr_nil.symm
  | n + 1 => by
    show upd (gvF k S a n f) (a + n) _ = _
    rw [gvF_wr n]
    unfold dgB
    rw [List.range_succ, List.map_append]
    show _ = wr f a (_ ++ [_])
    rw [wr_snoc]
    simp
theorem dgB_eq {k n : Nat} {S S' : Nat → Int64} (h : eq25 S S') (hn : n ≤ 64) : dgB k S n = dgB k S' n := by
  refine List.map_congr_left (fun i hi => ?_)
  have hi := List.mem_range.mp hi
  have : gvB k S i = gvB k S' i := by
    unfold gvB sqB
    rw [h (i / 8) (by omega), h (i / 4) (by omega)]
  rw [this]
theorem mvF_wr {f : Nat → Int32} {a b : Nat} {g : Nat → Int32} : ∀ n, mvF f a b n g = wr g b ((sl f a n).map (vp_nar .byte))
  | 0 => wr_nil.symm
  | n + 1 => by
    show upd (mvF f a b n g) (b + n) _ = _
    rw [mvF_wr n, sl_s, List.map_append]
    show _ = wr g b (_ ++ [_])
    rw [wr_snoc]
    simp [sl_len]
/-- F: a family's function of an address (its head H, its tail Y) and of bytes -/
def fMsg (k nn : Nat) (P H Y d : List Int32) : List Int32 :=
  if k = 12 then P ++ (H ++ Y) ++ d
  else P ++ List.replicate (rateK k - nn) 0 ++ [H.getD 3 0] ++ (H.drop 8) ++ [Y.getD 3 0] ++ (Y.drop 4) ++ d
def fKind (sh : Bool) (nn m : Nat) (ty : Int32) : Nat := if sh then 12 else if 16 < nn ∧ nn < m ∧ ty ≠ 5 ∧ ty ≠ 6 then 3 else 1
def fL (θ : tT) (sh : Bool) (nn : Nat) (P H Y d : List Int32) : List Int32 := dgL θ (fKind sh nn d.length (Y.getD 3 0)) nn (fMsg (fKind sh nn d.length (Y.getD 3 0)) nn P H Y d)
theorem fL_len {θ : tT} {sh : Bool} {nn : Nat} {P H Y d : List Int32} : (fL θ sh nn P H Y d).length = nn := dgL_len
