/-! PURE: the compressions ask the block and the state alone -/
theorem itN_s {α : Type} {f : Nat → α → α} {n : Nat} {s : α} : itN f (n + 1) s = f n (itN f n s) := rfl
theorem itN_0 {α : Type} {f : Nat → α → α} {s : α} : itN f 0 s = s := rfl
theorem up_at {f : Nat → Int64} {k j : Nat} {v : Int64} : vp_updL f k v j = if j = k then v else f j := rfl
theorem c32v_eq {Bk Bk' : Nat → Int32} {i : Nat} (h : ∀ j, j < 64 → Bk j = Bk' j) (hi : i < 16) : c32v Bk i 4 = c32v Bk' i 4 := by
  simp only [c32v, itN]
  rw [h (4 * i + 0) (by omega), h (4 * i + 1) (by omega), h (4 * i + 2) (by omega), h (4 * i + 3) (by omega)]
theorem c32L_at {Bk : Nat → Int32} {w : Nat → Int64} : ∀ n j, j < n → c32L Bk n w j = (c32v Bk j 4).toInt64
  | 0, _, h => absurd h (Nat.not_lt_zero _)
  | n + 1, j, h => by
    show vp_updL (c32L Bk n w) n _ j = _
    rw [up_at]
    by_cases q : j = n
    · rw [if_pos q, q]
    · rw [if_neg q]; exact c32L_at n j (by omega)
theorem c32X_eq {w w' : Nat → Int64} (h : ∀ j, j < 16 → w j = w' j) : ∀ n j, j < 16 + n → c32X n w j = c32X n w' j
  | 0, j, hj => h j hj
  | n + 1, j, hj => by
    have ih := c32X_eq h n
    show c32X1 (16 + n) (c32X n w) j = c32X1 (16 + n) (c32X n w') j
    unfold c32X1
    rw [up_at, up_at]
    by_cases q : j = 16 + n
    · rw [if_pos q, if_pos q, ih (16 + n - 2) (by omega), ih (16 + n - 7) (by omega), ih (16 + n - 15) (by omega), ih (16 + n - 16) (by omega)]
    · rw [if_neg q, if_neg q]; exact ih j (by omega)
theorem c32W_eq {Bk Bk' : Nat → Int32} {w w' : Nat → Int64} (h : ∀ j, j < 64 → Bk j = Bk' j) : ∀ j, j < 64 → c32W Bk w j = c32W Bk' w' j := by
  intro j hj
  exact c32X_eq (fun j h1 => by rw [c32L_at 16 j h1, c32L_at 16 j h1, c32v_eq h h1]) 48 j hj
theorem c32R_w {K W : Nat → Int64} {n : Nat} {u : q32} : c32R K W n u = c32R K (fun _ => W n) n u := by
  obtain ⟨a, b, c, d, e, f, g, i⟩ := u
  rfl
theorem c32N_eq {K W W' : Nat → Int64} {q : q32} {m : Nat} (h : ∀ j, j < m → W j = W' j) : ∀ n, n ≤ m → itN (c32R K W) n q = itN (c32R K W') n q := by
  intro n
  induction n with
  | zero => intro _; rw [itN_0, itN_0]
  | succ n ih =>
    intro hn
    rw [itN_s, itN_s, ih (by omega), c32R_w, c32R_w (W := W'), h n (by omega)]
theorem adA_eq {v : Nat → Int64} {S S' : Nat → Int64} (h : eq25 S S') : ∀ n, eq25 (adA v n S) (adA v n S')
  | 0 => h
  | n + 1 => by
    intro j hj
    show vp_updL (adA v n S) n (adA v n S n + v n) j = vp_updL (adA v n S') n (adA v n S' n + v n) j
    rw [up_at, up_at]
    by_cases q : j = n
    · rw [if_pos q, if_pos q, adA_eq h n n (by omega)]
    · rw [if_neg q, if_neg q]; exact adA_eq h n j hj
theorem c32_eq {K : Nat → Int64} {Bk Bk' : Nat → Int32} {w w' S S' : Nat → Int64} (hB : ∀ j, j < 64 → Bk j = Bk' j) (h : eq25 S S') : eq25 (c32 K Bk w S) (c32 K Bk' w' S') := by
  have hI : c32I S = c32I S' := by unfold c32I; rw [h 0 (by decide), h 1 (by decide), h 2 (by decide), h 3 (by decide), h 4 (by decide), h 5 (by decide), h 6 (by decide), h 7 (by decide)]
  unfold c32 c32A
  rw [hI, c32N_eq (c32W_eq (w := w) (w' := w') hB) 64 (Nat.le_refl _)]
  exact adA_eq h 8
theorem c64L1_at {Bk : Nat → Int32} {w : Nat → Int64} {i : Nat} : ∀ n j, j ≠ i → c64L1 Bk i w n j = w j := by
  intro n
  induction n with
  | zero => intro j h; show vp_updL w i 0 j = w j; rw [up_at, if_neg h]
  | succ n ih =>
    intro j h
    unfold c64L1 at ih ⊢
    rw [itN_s, up_at, if_neg h]
    exact ih j h
theorem c64L1_i {Bk Bk' : Nat → Int32} {w w' : Nat → Int64} {i : Nat} (h : ∀ j, j < 128 → Bk j = Bk' j) (hi : i < 16) : ∀ n, n ≤ 8 → c64L1 Bk i w n i = c64L1 Bk' i w' n i := by
  intro n
  induction n with
  | zero => intro _; show vp_updL w i 0 i = vp_updL w' i 0 i; rw [up_at, up_at, if_pos rfl, if_pos rfl]
  | succ n ih =>
    intro hn
    have ih := ih (by omega)
    unfold c64L1 at ih ⊢
    rw [itN_s, itN_s, up_at, up_at, if_pos rfl, if_pos rfl, ih, h (8 * i + n) (by omega)]
theorem c64L_eq {Bk Bk' : Nat → Int32} {w w' : Nat → Int64} (h : ∀ j, j < 128 → Bk j = Bk' j) : ∀ n, n ≤ 16 → ∀ j, j < n → c64L Bk n w j = c64L Bk' n w' j := by
  intro n
  induction n with
  | zero => intro _ j hj; exact absurd hj (Nat.not_lt_zero _)
  | succ n ih =>
    intro hn j hj
    have ih := ih (by omega)
    unfold c64L at ih ⊢
    rw [itN_s, itN_s]
    by_cases q : j = n
    · rw [q]; exact c64L1_i h (by omega) 8 (Nat.le_refl _)
    · rw [c64L1_at 8 j q, c64L1_at 8 j q]; exact ih j (by omega)
theorem c64X_eq {w w' : Nat → Int64} (h : ∀ j, j < 16 → w j = w' j) : ∀ n j, j < 16 + n → c64X n w j = c64X n w' j := by
  intro n
  induction n with
  | zero => intro j hj; exact h j hj
  | succ n ih =>
    intro j hj
    unfold c64X at ih ⊢
    rw [itN_s, itN_s]
    unfold c64X1 at ih ⊢
    rw [up_at, up_at]
    by_cases q : j = 16 + n
    · rw [if_pos q, if_pos q, ih (16 + n - 2) (by omega), ih (16 + n - 7) (by omega), ih (16 + n - 15) (by omega), ih (16 + n - 16) (by omega)]
    · rw [if_neg q, if_neg q]; exact ih j (by omega)
theorem c64R_w {K W : Nat → Int64} {n : Nat} {u : q64} : c64R K W n u = c64R K (fun _ => W n) n u := by
  obtain ⟨a, b, c, d, e, f, g, i⟩ := u
  rfl
theorem c64N_eq {K W W' : Nat → Int64} {q : q64} {m : Nat} (h : ∀ j, j < m → W j = W' j) : ∀ n, n ≤ m → itN (c64R K W) n q = itN (c64R K W') n q := by
  intro n
  induction n with
  | zero => intro _; rw [itN_0, itN_0]
  | succ n ih =>
    intro hn
    rw [itN_s, itN_s, ih (by omega), c64R_w, c64R_w (W := W'), h n (by omega)]
theorem c64A_ad {q : q64} {n : Nat} {S : Nat → Int64} : c64A q n S = adA (q64g q) n S := rfl
theorem c64_eq {K : Nat → Int64} {Bk Bk' : Nat → Int32} {w w' S S' : Nat → Int64} (hB : ∀ j, j < 128 → Bk j = Bk' j) (h : eq25 S S') : eq25 (c64 K Bk w S) (c64 K Bk' w' S') := by
  unfold c64
  rw [h 0 (by decide), h 1 (by decide), h 2 (by decide), h 3 (by decide), h 4 (by decide), h 5 (by decide), h 6 (by decide), h 7 (by decide), c64N_eq (W := c64W Bk w) (W' := c64W Bk' w') (fun j hj => c64X_eq (c64L_eq hB 16 (Nat.le_refl _)) 64 j hj) 80 (Nat.le_refl _), c64A_ad, c64A_ad]
  exact adA_eq h 8
