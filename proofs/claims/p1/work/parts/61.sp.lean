/-! WHAT THE CALLS DO: slots and tape as lists; an answer: code, value, slots, tape -/
abbrev sT : Type := Nat → List Int32
abbrev oT : Type := Int32 × Int32 × sT × List Int32
def seti (S : sT) (i : Nat) (L : List Int32) : sT := fun j => if j = i then L else S j
def ixN (p : Int32) : Nat := p.toNatClampNeg
def w4 (v : Int32) : List Int32 := [b4 v 0, b4 v 1, b4 v 2, b4 v 3]
def rsz (L : List Int32) (n : Nat) : List Int32 := (L ++ List.replicate (n - L.length) 0).take n
def sp_feed (S : sT) (T : List Int32) (a b c d e : Int32) : oT := if T.length + 20 ≤ 65536 then (0, nI (T.length + 20), S, T ++ w4 a ++ w4 b ++ w4 c ++ w4 d ++ w4 e) else (1, 0, S, T)
def sp_end (S : sT) (T : List Int32) (s n : Int32) : oT := if (0 ≤ s ∧ s ≤ 7) ∧ 0 ≤ n ∧ n ≤ 65536 then (if ixN n ≤ T.length then (0, n, seti S (ixN s) (T.take (ixN n)), []) else (2, 0, S, T)) else (1, 0, S, T)
def sp_copy (S : sT) (T : List Int32) (f t : Int32) : oT := if (0 ≤ f ∧ f ≤ 7) ∧ 0 ≤ t ∧ t ≤ 7 then (0, nI (S (ixN f)).length, seti S (ixN t) (S (ixN f)), T) else (1, 0, S, T)
def sp_resize (S : sT) (T : List Int32) (s n : Int32) : oT := if (0 ≤ s ∧ s ≤ 7) ∧ 0 ≤ n ∧ n ≤ 65536 then (0, nI (S (ixN s)).length, seti S (ixN s) (rsz (S (ixN s)) (ixN n)), T) else (1, 0, S, T)
def altB (b v : Int32) : Int32 := (b ^^^ v.toInt8.toInt32).toInt8.toInt32
def sp_alter (S : sT) (T : List Int32) (s i v : Int32) : oT := if (0 ≤ s ∧ s ≤ 7) ∧ 0 ≤ v ∧ v ≤ 255 then (if 0 ≤ i ∧ i ≤ nI (S (ixN s)).length - 1 then (0, altB ((S (ixN s)).getD (ixN i) 0) v &&& 255, seti S (ixN s) ((S (ixN s)).set (ixN i) (altB ((S (ixN s)).getD (ixN i) 0) v)), T) else (2, 0, S, T)) else (1, 0, S, T)
def sp_length (S : sT) (T : List Int32) (s : Int32) : oT := if 0 ≤ s ∧ s ≤ 7 then (0, nI (S (ixN s)).length, S, T) else (1, 0, S, T)
def wdS (L : List Int32) (i : Nat) : Nat → Int64
  | 0 => 0
  | k + 1 => (wdS L i k <<< ((8 : Int32).toInt64 &&& 63)) ||| (if i + k < L.length then (L.getD (i + k) 0).toInt64 &&& 255 else 0)
def sp_word (S : sT) (s i : Int32) : Int32 × Int64 := if 0 ≤ s ∧ s ≤ 7 then (if 0 ≤ i ∧ i ≤ nI (S (ixN s)).length - 1 then (0, wdS (S (ixN s)) (ixN i) 8) else (2, 0)) else (1, 0)
def sp_same (S : sT) (T : List Int32) (s t : Int32) : oT := if (0 ≤ s ∧ s ≤ 7) ∧ 0 ≤ t ∧ t ≤ 7 then (0, if S (ixN s) = S (ixN t) then 1 else 0, S, T) else (1, 0, S, T)
def spM (s : Nat) : Nat := (pK s * pA s + 7) / 8 + (pH s - pP s + 7) / 8 + (pP s + 7) / 8
def spL (s : Nat) : Nat := pN s + pK s * ((1 + pA s) * pN s) + pD s * ((2 * pN s + 3 + pP s) * pN s)
def shB (s : Nat) : Bool := decide (s < 6)
/-- the root of the uppermost tree -/
def keyR (θ : tT) (s : Nat) (L : List Int32) : List Int32 := nodeL (fF θ (shB s) (pN s) (lsl L (2 * pN s) (pN s)) (hdL (nI (pD s - 1)) 0)) (lsl L 0 (pN s)) (2 * pN s + 3) (pP s) 0
def sp_keys (θ : tT) (S : sT) (T : List Int32) (p : Int32) : oT := if 0 ≤ p ∧ p ≤ 11 then (if (S 0).length = 3 * pN (ixN p) then (0, nI (4 * pN (ixN p)), seti (seti S 1 (lsl (S 0) (2 * pN (ixN p)) (pN (ixN p)) ++ keyR θ (ixN p) (S 0))) 2 (S 0 ++ keyR θ (ixN p) (S 0)), T) else (2, 0, S, T)) else (1, 0, S, T)
def hwB (h : Int32) : Bool := decide (h = 0)
/-- the signature and its R, digest -/
def sgRn (θ : tT) (s : Nat) (hw : Bool) (S : sT) : List Int32 := rnL θ (shB s) (pN s) (lsl (S 2) (pN s) (pN s)) (if (S 0).length = 0 then lsl (S 2) (2 * pN s) (pN s) else S 0) (sgM hw (S 4) (S 3))
def sgDt (θ : tT) (s : Nat) (hw : Bool) (S : sT) : List Int32 := dtL θ (shB s) (pN s) (spM s) (sgRn θ s hw S) (lsl (S 2) (2 * pN s) (pN s)) (lsl (S 2) (3 * pN s) (pN s)) (sgM hw (S 4) (S 3))
def sgAll (θ : tT) (s : Nat) (hw : Bool) (S : sT) : List Int32 := sgR θ (shB s) (pN s) (pP s) (pA s) (pK s) (pH s) (pD s) (lsl (S 2) (2 * pN s) (pN s)) (lsl (S 2) 0 (pN s)) (sgDt θ s hw S) (sgRn θ s hw S)
def sp_sign (θ : tT) (S : sT) (T : List Int32) (p h : Int32) : oT := if (0 ≤ p ∧ p ≤ 11) ∧ -1 ≤ h ∧ h ≤ 0 then (if (hwB h = false ∨ (S 4).length ≤ 255) ∧ ((S 0).length = pN (ixN p) ∨ (S 0).length = 0) then (if (S 2).length = 4 * pN (ixN p) then (0, nI (spL (ixN p)), seti S 5 (sgAll θ (ixN p) (hwB h) S), T) else (3, 0, S, T)) else (2, 0, S, T)) else (1, 0, S, T)
def vyDt (θ : tT) (s : Nat) (hw : Bool) (S : sT) : List Int32 := dtL θ (shB s) (pN s) (spM s) (lsl (S 5) 0 (pN s)) (lsl (S 1) 0 (pN s)) (lsl (S 1) (pN s) (pN s)) (sgM hw (S 4) (S 3))
def vyAll (θ : tT) (s : Nat) (hw : Bool) (S : sT) : List Int32 := vyR θ (shB s) (pN s) (pP s) (pA s) (pK s) (pH s) (pD s) (lsl (S 1) 0 (pN s)) (vyDt θ s hw S) (S 5)
def sp_verify (θ : tT) (S : sT) (T : List Int32) (p h : Int32) : oT := if (0 ≤ p ∧ p ≤ 11) ∧ -1 ≤ h ∧ h ≤ 0 then (if hwB h = false ∨ (S 4).length ≤ 255 then (if (S 1).length = 2 * pN (ixN p) then (if (S 5).length = spL (ixN p) then (0, if vyAll θ (ixN p) (hwB h) S = lsl (S 1) (pN (ixN p)) (pN (ixN p)) then 1 else 0, seti S 6 (vyAll θ (ixN p) (hwB h) S), T) else (0, 0, S, T)) else (3, 0, S, T)) else (2, 0, S, T)) else (1, 0, S, T)
def ndAll (θ : tT) (s : Nat) (S : sT) (ly z i : Nat) (tr : Int32) : List Int32 := nodeL (fF θ (shB s) (pN s) (lsl (S 2) (2 * pN s) (pN s)) (hdL (nI ly) tr.toInt64)) (lsl (S 2) 0 (pN s)) (2 * pN s + 3) z i
def sp_node (θ : tT) (S : sT) (T : List Int32) (p ly tr z i : Int32) : oT := if 0 ≤ p ∧ p ≤ 11 then (if (0 ≤ ly ∧ ly ≤ nI (pD (ixN p)) - 1) ∧ 0 ≤ tr ∧ (0 ≤ z ∧ z ≤ nI (pP (ixN p))) ∧ 0 ≤ i ∧ i ≤ nI (2 ^ (pP (ixN p) - ixN z)) - 1 then (if (S 2).length = 4 * pN (ixN p) then (0, if ndAll θ (ixN p) S (ixN ly) (ixN z) (ixN i) tr = lsl (S 2) (3 * pN (ixN p)) (pN (ixN p)) then 1 else 0, seti S 6 (ndAll θ (ixN p) S (ixN ly) (ixN z) (ixN i) tr), T) else (2, 0, S, T)) else (1, 0, S, T)) else (1, 0, S, T)
theorem set_ok : ∀ s, s < 12 → (pN s = 16 ∨ pN s = 24 ∨ pN s = 32) ∧ (1 ≤ pP s ∧ pP s ≤ 9) ∧ pA s ≤ 14 ∧ pK s ≤ 35 ∧ pP s ≤ pH s ∧ pH s ≤ 100 ∧ pD s ≤ 22 ∧ 1 ≤ pD s ∧ spM s ≤ 64 ∧ spL s ≤ 65536 ∧ pN s * (1 + pK s * (1 + pA s) + pH s + pD s * (2 * pN s + 3)) = spL s := by decide
/-! the reference's room with slots and tape -/
def RAd (S : sT) (T : List Int32) (σ : nS) (v : Int32) : Prop := (v = nI T.length ∧ T.length ≤ 65536 ∧ sl (bt σ 0) 0 T.length = T ∧ nrw T) ∧ ∀ i, i < 8 → bt σ 2 i = nI (S i).length ∧ (S i).length ≤ 65536 ∧ sl (bt σ (50 + i)) 0 (S i).length = S i ∧ nrw (S i)
def RA (G : vG) (ad : Nat → Nat) (θ : tT) (S : sT) (T : List Int32) (cd : Int32) (σ : nS) : Prop := ∃ x, RS G ad θ x σ ∧ x 4 = cd ∧ RAd S T σ (x 3)
theorem RAd.keep {S : sT} {T : List Int32} {σ σ' : nS} {v : Int32} (h : RAd S T σ v) (hk : ∀ k, k = 0 ∨ k = 2 ∨ (50 ≤ k ∧ k < 58) → σ' k = σ k) : RAd S T σ' v := by
  refine ⟨⟨h.1.1, h.1.2.1, by rw [bt_same (hk 0 (by omega))]; exact h.1.2.2.1, h.1.2.2.2⟩, fun i hi => ?_⟩
  rw [bt_same (hk 2 (by omega)), bt_same (hk (50 + i) (by omega))]
  exact h.2 i hi
theorem RAd.set {S : sT} {T : List Int32} {σ σ' : nS} {v : Int32} (h : RAd S T σ v) {s : Nat} {L : List Int32} (hk : ∀ k, (k = 0 ∨ (50 ≤ k ∧ k < 58)) ∧ k ≠ 50 + s → σ' k = σ k) (h2 : bt σ' 2 = upd (bt σ 2) s (nI L.length)) (hL : L.length ≤ 65536) (hl : sl (bt σ' (50 + s)) 0 L.length = L) (hn : nrw L) : RAd (seti S s L) T σ' v := by
  refine ⟨⟨h.1.1, h.1.2.1, by rw [bt_same (hk 0 (by omega))]; exact h.1.2.2.1, h.1.2.2.2⟩, fun i hi => ?_⟩
  unfold seti
  by_cases q : i = s
  · subst q
    rw [if_pos rfl, h2, pk_us]
    exact ⟨rfl, hL, hl, hn⟩
  · rw [if_neg q, h2, pk_un q, bt_same (hk (50 + i) (by omega))]
    exact h.2 i hi
theorem ixN_of {p : Int32} {n : Nat} {M : Int32} (hM : M.toInt = n) (h : 0 ≤ p ∧ p ≤ M) : ixN p ≤ n ∧ p = nI (ixN p) := by
  obtain ⟨j, hj, rfl⟩ := nI_of2 hM (Int32.not_lt.mpr h.1) h.2
  have hj2 : (n : Int) < 2 ^ 31 := by
    rw [← hM]
    exact M.toInt_lt
  have e : ixN (nI j) = j := nI_clamp (by omega)
  rw [e]
  exact ⟨hj, rfl⟩
