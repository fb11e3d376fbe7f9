/-! PURE: slices of lists; what a root asks of a signature -/
def lsl (L : List Int32) (a n : Nat) : List Int32 := (L.drop a).take n
theorem lsl_len {L : List Int32} {a n : Nat} (h : a + n ≤ L.length) : (lsl L a n).length = n := by
  unfold lsl
  rw [List.length_take, List.length_drop]
  omega
theorem sl_lsl {f : Nat → Int32} {m a n : Nat} (h : a + n ≤ m) : sl f a n = lsl (sl f 0 m) a n := by
  unfold lsl
  rw [sl_drop (by omega), Nat.zero_add]
  have : m - a = n + (m - a - n) := by omega
  rw [this, sl_app, List.take_left' sl_len]
theorem sl_wr_lsl {f : Nat → Int32} {L : List Int32} {a n : Nat} (h : a + n ≤ L.length) : sl (wr f 0 L) a n = lsl L a n := by
  rw [sl_lsl (m := L.length) h, sl_wr]
theorem cat_congr {f g : Nat → List Int32} : ∀ n, (∀ i, i < n → f i = g i) → cat f n = cat g n
  | 0, _ => rfl
  | n + 1, h => by
    show cat f n ++ f n = cat g n ++ g n
    rw [cat_congr n (fun i hi => h i (by omega)), h n (by omega)]
theorem clL_congr {F : fT} {ty px idx : Nat} {A A' : Nat → List Int32} {w : List Int32} : ∀ n, (∀ i, i < n → A i = A' i) → clL F ty px idx A n w = clL F ty px idx A' n w
  | 0, _ => rfl
  | n + 1, h => by
    show clS F ty px idx A n (clL F ty px idx A n w) = clS F ty px idx A' n (clL F ty px idx A' n w)
    rw [clL_congr n (fun i hi => h i (by omega))]
    unfold clS
    rw [h n (by omega)]
theorem rtL_congr {F : fT} {c hh : Nat} {D : Nat → Nat} {A A' : Nat → List Int32} {i : Nat} (h : ∀ q, q < c + hh → A q = A' q) : rtL F c hh D A i = rtL F c hh D A' i := by
  unfold rtL
  rw [cat_congr (g := rtC F D A' i) c (fun j hj => by unfold rtC; rw [h j (by omega)]), clL_congr hh (fun q hq => h (c + q) (by omega))]
theorem rfL_congr {F : fT} {T : List Int32} {aa tt nn : Nat} {A A' : Nat → List Int32} {i p : Nat} (h : ∀ q, p ≤ q → q + nn ≤ p + tt * ((1 + aa) * nn) → A q = A' q) : rfL F T aa tt nn A i p = rfL F T aa tt nn A' i p := by
  unfold rfL
  rw [cat_congr (g := rfB F T aa nn A' i p) tt (fun j hj => ?_)]
  have hM : (1 + aa) * nn = nn + aa * nn := by rw [Nat.add_mul, Nat.one_mul]
  have hjM : j * ((1 + aa) * nn) + (1 + aa) * nn ≤ tt * ((1 + aa) * nn) := by rw [← Nat.succ_mul]; exact Nat.mul_le_mul_right _ hj
  unfold rfB
  rw [h _ (by omega) (by omega), clL_congr aa (fun q hq => h _ (by omega) (by
    have : q * nn + nn ≤ aa * nn := by rw [← Nat.succ_mul]; exact Nat.mul_le_mul_right _ hq
    omega))]
/-- from layer to layer: the tree, its pair -/
def prI (hh : Nat) (tr : Int64) : Nat := tr.toBitVec.toNat % 2 ^ hh
def lyT (hh : Nat) (tr : Int64) : Nat → Int64
  | 0 => tr
  | k + 1 => us64 (lyT hh tr k) (nI hh)
def lyI (hh : Nat) (tr : Int64) (i : Nat) : Nat → Nat
  | 0 => i
  | k + 1 => prI hh (lyT hh tr k)
theorem lyI_lt {hh : Nat} {tr : Int64} {i : Nat} (hi : i < 2 ^ hh) : ∀ k, lyI hh tr i k < 2 ^ hh
  | 0 => hi
  | _ + 1 => Nat.mod_lt _ (Nat.two_pow_pos hh)
theorem prI_eq {hh : Nat} (h : hh ≤ 9) {tr : Int64} : (tr &&& ((1 <<< ((nI hh).toInt64 &&& 63)) - 1)).toInt32 = nI (prI hh tr) := by
  have hm : ∀ h, h ≤ 9 → (((1 : Int64) <<< ((nI h).toInt64 &&& 63)) - 1).toBitVec.toNat = 2 ^ h - 1 := by decide
  have hp : 2 ^ hh ≤ 2 ^ 9 := Nat.pow_le_pow_right (by decide) h
  refine Int32.toBitVec_inj.mp (BitVec.eq_of_toNat_eq ?_)
  have hlt : prI hh tr < 2 ^ hh := Nat.mod_lt _ (Nat.two_pow_pos hh)
  rw [pk_tn (by omega)]
  show ((tr &&& ((1 <<< ((nI hh).toInt64 &&& 63)) - 1)).toBitVec.signExtend 32).toNat = _
  rw [BitVec.signExtend_eq_setWidth_of_le _ (by decide), BitVec.toNat_setWidth, Int64.toBitVec_and, BitVec.toNat_and, hm hh h, Nat.and_two_pow_sub_one_eq_mod]
  exact Nat.mod_eq_of_lt (by unfold prI at hlt; omega)
