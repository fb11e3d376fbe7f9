/-! the start -/
theorem gd_at {α : Type} {L : List α} {k : Nat} {d : α} (hk : k < L.length) : L.getD k d = L[k] := by rw [List.getD_eq_getElem?_getD, List.getElem?_eq_getElem hk]; rfl
def fl : List Cond := flatC (Jvm.Cond.and given_1 narrow_1)
theorem tb_at {w : Cond} (i : Nat) (h : tables_1[i]? = some w) : w ∈ lw_tbl := List.mem_append_right _ (List.mem_of_getElem? h)
theorem va_En_congr {E d : String} {nm : List String} {F : List (String × String × String × List Int32)} {ad ad' : Nat → Nat} {A : Nat → Prop} {U : State} {H : Heap} (h : va_En E d nm F ad A U H) (e : ∀ i, i < nm.length → ad' i = ad i) : va_En E d nm F ad' A U H :=
  ⟨fun i hi => by rw [e i hi]; exact h.1 i hi, fun i j hi hj q => h.2 i j hi hj (by rw [← e i hi, ← e j hj]; exact q)⟩
theorem va_T_congr {ty : FieldType} {t N : Nat} {f g : Nat → Value} {A : Nat → Prop} {U : State} {H : Heap} (h : va_T ty t N f A U H) (e : ∀ j, j < N → g j = f j) : va_T ty t N g A U H := by
  obtain ⟨cell, h1, h2, h3, h4, h5, h6, h7⟩ := h
  exact ⟨cell, h1, h2, h3, h4, h5, fun j hj => by rw [e j hj]; exact h6 j hj, h7⟩
section ST
variable {s : State} {b : Nat}
theorem fl_at (hgv : (Jvm.Cond.and given_1 narrow_1).before #[Value.ref b] s = true) {w : Cond} (i : Nat) (h : fl[i]? = some w) : w.before #[Value.ref b] s = true := flat_of_before _ hgv _ (List.mem_of_getElem? h)
def ps_R : List Nat := [338, 339, 340, 341, 342, 343, 344, 345, 346, 347, 348, 349, 350, 351, 352, 353, 354, 355, 356, 357, 358, 359, 360, 361]
set_option maxRecDepth 100000 in
theorem pe_R : ∀ j, j < 24 → fl[ps_R.getD j 0]? = some (Cond.eq (.elem (.static "HashTreeSigner$Sponge" "ROUNDS" "[J") (.int (Int32.ofNat j))) (.long (cRn.getD j 0))) := by decide +kernel
theorem st_R (hts : ∀ w ∈ lw_tbl, w.before #[Value.ref b] s = true) (hgv : (Jvm.Cond.and given_1 narrow_1).before #[Value.ref b] s = true) : ∃ t : Nat, va_Z "HashTreeSigner$Sponge" "ROUNDS" "[J" (.ref t) (fun q : Nat => s.heap.size ≤ q) s s.heap ∧ va_T .long t 24 (fun j => .long (cRn.getD j 0)) (fun q : Nat => s.heap.size ≤ q) s s.heap := by
  obtain ⟨t, ht, hT⟩ := va_Tof (tm := (.static "HashTreeSigner$Sponge" "ROUNDS" "[J")) (ty := .long) (f := fun j => .long (cRn.getD j 0)) (N := 24) (A := (fun q : Nat => s.heap.size ≤ q)) (by decide) (fl_at hgv 336 (by decide +kernel)) (va_eqt (fl_at hgv 337 (by decide +kernel))) (fun j hj => va_eqtl (fl_at hgv _ (pe_R j hj))) (fun a h9 => Nat.not_le.mpr h9)
  exact ⟨t, va_Zref (hts (.laysStatic "HashTreeSigner$Sponge" "ROUNDS" "[J") (tb_at 930 (by decide +kernel))) (hts (.initialized "HashTreeSigner$Sponge") (tb_at 6 (by decide +kernel))) ht (fun a h9 => Nat.not_le.mpr h9), hT⟩
def ps_Q : List Nat := [244, 245, 246, 247, 248, 249, 250, 251]
set_option maxRecDepth 100000 in
theorem pe_Q : ∀ j, j < 8 → fl[ps_Q.getD j 0]? = some (Cond.eq (.elem (.static "HashTreeSigner$Sha2" "SQUARE_ROOTS" "[J") (.int (Int32.ofNat j))) (.long (cSq.getD j 0))) := by decide +kernel
theorem st_Q (hts : ∀ w ∈ lw_tbl, w.before #[Value.ref b] s = true) (hgv : (Jvm.Cond.and given_1 narrow_1).before #[Value.ref b] s = true) : ∃ t : Nat, va_Z "HashTreeSigner$Sha2" "SQUARE_ROOTS" "[J" (.ref t) (fun q : Nat => s.heap.size ≤ q) s s.heap ∧ va_T .long t 8 (fun j => .long (cSq.getD j 0)) (fun q : Nat => s.heap.size ≤ q) s s.heap := by
  obtain ⟨t, ht, hT⟩ := va_Tof (tm := (.static "HashTreeSigner$Sha2" "SQUARE_ROOTS" "[J")) (ty := .long) (f := fun j => .long (cSq.getD j 0)) (N := 8) (A := (fun q : Nat => s.heap.size ≤ q)) (by decide) (fl_at hgv 242 (by decide +kernel)) (va_eqt (fl_at hgv 243 (by decide +kernel))) (fun j hj => va_eqtl (fl_at hgv _ (pe_Q j hj))) (fun a h9 => Nat.not_le.mpr h9)
  exact ⟨t, va_Zref (hts (.laysStatic "HashTreeSigner$Sha2" "SQUARE_ROOTS" "[J") (tb_at 826 (by decide +kernel))) (hts (.initialized "HashTreeSigner$Sha2") (tb_at 12 (by decide +kernel))) ht (fun a h9 => Nat.not_le.mpr h9), hT⟩
def ps_C : List Nat := [255, 256, 257, 258, 259, 260, 261, 262, 263, 264, 265, 266, 267, 268, 269, 270, 271, 272, 273, 274, 275, 276, 277, 278, 279, 280, 281, 282, 283, 284, 285, 286, 287, 288, 289, 290, 291, 292, 293, 294, 295, 296, 297, 298, 299, 300, 301, 302, 303, 304, 305, 306, 307, 308, 309, 310, 311, 312, 313, 314, 315, 316, 317, 318, 319, 320, 321, 322, 323, 324, 325, 326, 327, 328, 329, 330, 331, 332, 333, 334]
set_option maxRecDepth 100000 in
theorem pe_C : ∀ j, j < 80 → fl[ps_C.getD j 0]? = some (Cond.eq (.elem (.static "HashTreeSigner$Sha2" "CUBE_ROOTS" "[J") (.int (Int32.ofNat j))) (.long (cCb.getD j 0))) := by decide +kernel
theorem st_C (hts : ∀ w ∈ lw_tbl, w.before #[Value.ref b] s = true) (hgv : (Jvm.Cond.and given_1 narrow_1).before #[Value.ref b] s = true) : ∃ t : Nat, va_Z "HashTreeSigner$Sha2" "CUBE_ROOTS" "[J" (.ref t) (fun q : Nat => s.heap.size ≤ q) s s.heap ∧ va_T .long t 80 (fun j => .long (cCb.getD j 0)) (fun q : Nat => s.heap.size ≤ q) s s.heap := by
  obtain ⟨t, ht, hT⟩ := va_Tof (tm := (.static "HashTreeSigner$Sha2" "CUBE_ROOTS" "[J")) (ty := .long) (f := fun j => .long (cCb.getD j 0)) (N := 80) (A := (fun q : Nat => s.heap.size ≤ q)) (by decide) (fl_at hgv 253 (by decide +kernel)) (va_eqt (fl_at hgv 254 (by decide +kernel))) (fun j hj => va_eqtl (fl_at hgv _ (pe_C j hj))) (fun a h9 => Nat.not_le.mpr h9)
  exact ⟨t, va_Zref (hts (.laysStatic "HashTreeSigner$Sha2" "CUBE_ROOTS" "[J") (tb_at 843 (by decide +kernel))) (hts (.initialized "HashTreeSigner$Sha2") (tb_at 12 (by decide +kernel))) ht (fun a h9 => Nat.not_le.mpr h9), hT⟩
def pE_l : List Nat := [135, 1532, 1533, 1534, 1535, 1536]
def pE_x : List Nat := [4, 362, 376, 391, 407, 424]
def pE_f : List (List Nat) := [[6, 364, 378, 393, 409, 426], [7, 365, 379, 394, 410, 427], [8, 366, 380, 395, 411, 428], [9, 367, 381, 396, 412, 429], [10, 368, 382, 397, 413, 430], [11, 369, 383, 398, 414, 431], [12, 370, 384, 399, 415, 432], [13, 371, 385, 400, 416, 433], [14, 372, 386, 401, 417, 434], [15, 373, 387, 402, 418, 435], [16, 374, 388, 403, 419, 436]]
def pE_d : List (List Nat) := [[0, 375, 389, 404, 420, 437], [0, 0, 390, 405, 421, 438], [0, 0, 0, 406, 422, 439], [0, 0, 0, 0, 423, 440], [0, 0, 0, 0, 0, 441], [0, 0, 0, 0, 0, 0]]
def pE_s : List Nat := [235, 236, 237, 238, 239, 240]
set_option maxRecDepth 100000 in
theorem pE_l_ok : ∀ i, i < 6 → tables_1[pE_l.getD i 0]? = some (Cond.laysStatic "HashTreeSigner$Sizes" (eNm.getD i "") "LHashTreeSigner$Sizes;") := by decide +kernel
set_option maxRecDepth 100000 in
theorem pE_x_ok : ∀ i, i < 6 → fl[pE_x.getD i 0]? = some (Cond.exactly (.static "HashTreeSigner$Sizes" (eNm.getD i "") "LHashTreeSigner$Sizes;") "HashTreeSigner$Sizes") := by decide +kernel
set_option maxRecDepth 100000 in
theorem pE_f_ok : ∀ k, k < 11 → ∀ i, i < 6 → fl[(pE_f.getD k []).getD i 0]? = some (Cond.eq (.field (.static "HashTreeSigner$Sizes" (eNm.getD i "") "LHashTreeSigner$Sizes;") (eFl.getD k ("", "", "", [])).1 (eFl.getD k ("", "", "", [])).2.1 (eFl.getD k ("", "", "", [])).2.2.1) (.int ((eFl.getD k ("", "", "", [])).2.2.2.getD i 0))) := by decide +kernel
set_option maxRecDepth 100000 in
theorem pE_d_ok : ∀ i, i < 6 → ∀ j, j < 6 → i < j → fl[(pE_d.getD i []).getD j 0]? = some (Cond.not (.eq (.static "HashTreeSigner$Sizes" (eNm.getD i "") "LHashTreeSigner$Sizes;") (.static "HashTreeSigner$Sizes" (eNm.getD j "") "LHashTreeSigner$Sizes;"))) := by decide +kernel
set_option maxRecDepth 100000 in
theorem pE_s_ok : ∀ j, j < 6 → fl[pE_s.getD j 0]? = some (Cond.eq (.elem (.static "HashTreeSigner" "SIZES" "[LHashTreeSigner$Sizes;") (.int (Int32.ofNat j))) (.static "HashTreeSigner$Sizes" (eNm.getD j "") "LHashTreeSigner$Sizes;")) := by decide +kernel
theorem st_E (hts : ∀ w ∈ lw_tbl, w.before #[Value.ref b] s = true) (hgv : (Jvm.Cond.and given_1 narrow_1).before #[Value.ref b] s = true) : ∃ ad : Nat → Nat, va_En "HashTreeSigner$Sizes" "LHashTreeSigner$Sizes;" eNm eFl ad (fun q : Nat => s.heap.size ≤ q) s s.heap ∧ ∀ i, i < 6 → (Term.static "HashTreeSigner$Sizes" (eNm.getD i "") "LHashTreeSigner$Sizes;").eval #[Value.ref b] s none [] s = some (.ref (ad i)) :=
  va_Enof2 (fun i hi => hts _ (tb_at _ (pE_l_ok i hi))) (hts (.initialized "HashTreeSigner$Sizes") (tb_at 8 (by decide +kernel))) (fun i hi => fl_at hgv _ (pE_x_ok i hi)) (fun q hq i hi => by
    obtain ⟨k, hk, rfl⟩ := List.mem_iff_getElem.mp hq
    have h := fl_at hgv _ (pE_f_ok k hk i hi)
    rw [gd_at hk] at h
    exact h) (fun i j hi hj h => by
    rcases Nat.lt_or_gt_of_ne h with g | g
    · exact Or.inl (fl_at hgv _ (pE_d_ok i hi j hj g))
    · exact Or.inr (fl_at hgv _ (pE_d_ok j hj i hi g))) (fun a h9 => Nat.not_le.mpr h9)
theorem st_S (hts : ∀ w ∈ lw_tbl, w.before #[Value.ref b] s = true) (hgv : (Jvm.Cond.and given_1 narrow_1).before #[Value.ref b] s = true) {ad : Nat → Nat} (he : ∀ i, i < 6 → (Term.static "HashTreeSigner$Sizes" (eNm.getD i "") "LHashTreeSigner$Sizes;").eval #[Value.ref b] s none [] s = some (.ref (ad i))) : ∃ t : Nat, va_Z "HashTreeSigner" "SIZES" "[LHashTreeSigner$Sizes;" (.ref t) (fun q : Nat => s.heap.size ≤ q) s s.heap ∧ va_T (.object "HashTreeSigner$Sizes") t 6 (fun j => .ref (ad j)) (fun q : Nat => s.heap.size ≤ q) s s.heap := by
  obtain ⟨t, ht, hT⟩ := va_Tof (tm := .static "HashTreeSigner" "SIZES" "[LHashTreeSigner$Sizes;") (ty := .object "HashTreeSigner$Sizes") (f := fun j => .ref (ad j)) (N := 6) (A := (fun q : Nat => s.heap.size ≤ q)) (by decide) (fl_at hgv 232 (by decide +kernel)) (va_eqt (fl_at hgv 233 (by decide +kernel))) (fun j hj => va_eqv (fl_at hgv _ (pE_s_ok j hj)) (he j hj)) (fun a h9 => Nat.not_le.mpr h9)
  exact ⟨t, va_Zref (hts (.laysStatic "HashTreeSigner" "SIZES" "[LHashTreeSigner$Sizes;") (tb_at 774 (by decide +kernel))) (hts (.initialized "HashTreeSigner") (tb_at 1 (by decide +kernel))) ht (fun a h9 => Nat.not_le.mpr h9), hT⟩
def pX_s : List Nat := [373, 423, 433, 434, 728, 733, 769, 784, 967, 972, 973, 987, 1079, 1089, 1090]
def pX_e : List Nat := [509, 529, 546, 577, 710, 735, 774, 800, 842, 882, 919, 973, 1021, 1070, 1104]
def pX_n : List Nat := [469, 486, 503, 453, 487, 504, 456, 473, 508, 457, 474, 491]
set_option maxRecDepth 100000 in
theorem pX_s_ok : ∀ k, k < 15 → tables_1[pX_s.getD k 0]? = some (Cond.stringRef "HashTreeSigner" (vSt.getD k (0, "")).1 (vSt.getD k (0, "")).2) := by decide +kernel
set_option maxRecDepth 100000 in
theorem pX_e_ok : ∀ k, k < 15 → fl[pX_e.getD k 0]? = some (Cond.exactly (.string "HashTreeSigner" (vSt.getD k (0, "")).1) "java/lang/String") := by decide +kernel
set_option maxRecDepth 100000 in
theorem pX_n_ok : ∀ k, k < 12 → fl[pX_n.getD k 0]? = some (Cond.not (.castable (vNc.getD k ("", "")).1 (vNc.getD k ("", "")).2)) := by decide +kernel
set_option maxRecDepth 100000 in
theorem vNW_in : ∀ w ∈ vNW, w ∈ lw_tbl := by decide +kernel
theorem st_X (hts : ∀ w ∈ lw_tbl, w.before #[Value.ref b] s = true) (hgv : (Jvm.Cond.and given_1 narrow_1).before #[Value.ref b] s = true) : vEx s.heap.size s s.heap := by
  refine ⟨fun A => (hts (.arrayOver (.array .byte)) (tb_at 45 (by decide +kernel))), ⟨vx_Zqof (hts (.laysStatic "java/lang/Throwable" "UNASSIGNED_STACK" "[Ljava/lang/StackTraceElement;") (tb_at 357 (by decide +kernel))) (hts (.initialized "java/lang/Throwable") (tb_at 16 (by decide +kernel))) (fl_at hgv 17 (by decide +kernel)) (fun a h9 => Nat.not_le.mpr h9), vx_Zqof (hts (.laysStatic "java/lang/Throwable" "SUPPRESSED_SENTINEL" "Ljava/util/List;") (tb_at 359 (by decide +kernel))) (hts (.initialized "java/lang/Throwable") (tb_at 16 (by decide +kernel))) (fl_at hgv 18 (by decide +kernel)) (fun a h9 => Nat.not_le.mpr h9)⟩, fun q hq => ?_, fun q hq => ?_⟩
  · obtain ⟨k, hk, rfl⟩ := List.mem_iff_getElem.mp hq
    have h1 := hts _ (tb_at _ (pX_s_ok k hk))
    have h2 := fl_at hgv _ (pX_e_ok k hk)
    rw [gd_at hk] at h1 h2
    obtain ⟨a, c, cell, kk, e1, -⟩ := Cond.exactly_spec h2
    exact ⟨a, vk_R.of h1 e1⟩
  · obtain ⟨k, hk, rfl⟩ := List.mem_iff_getElem.mp hq
    have h1 := fl_at hgv _ (pX_n_ok k hk)
    rw [gd_at hk] at h1
    exact va_Nc.of h1
theorem st_K (hts : ∀ w ∈ lw_tbl, w.before #[Value.ref b] s = true) : ∃ D : va_G, ∀ (k : Nat) (q : vw_C), vCl[k]? = some q → u_Kn s q.1 q.2.1 q.2.2 (D.1 k) (D.2 k) := by
  have hg : ∀ w ∈ vGW, w.before #[Value.ref b] s = true := fun w hw => hts w (List.mem_filter.mp hw).1
  obtain ⟨c0, i0, h0⟩ := u_known (C := RX0) (T := TX0) (N := 5) (n := 5) hg ivw_X0 (hg _ ni_X0)
  obtain ⟨c1, i1, h1⟩ := u_known (C := RX1) (T := TX1) (N := 7) (n := 7) hg ivw_X1 (hg _ ni_X1)
  obtain ⟨c2, i2, h2⟩ := u_known (C := RX4) (T := TX4) (N := 8) (n := 8) hg ivw_X4 (hg _ ni_X4)
  obtain ⟨c3, i3, h3⟩ := u_known (C := RX5) (T := TX5) (N := 8) (n := 8) hg ivw_X5 (hg _ ni_X5)
  obtain ⟨c4, i4, h4⟩ := u_known (C := RX6) (T := TX6) (N := 8) (n := 8) hg ivw_X6 (hg _ ni_X6)
  obtain ⟨c5, i5, h5⟩ := u_known (C := RX7) (T := TX7) (N := 4) (n := 4) hg ivw_X7 (hg _ ni_X7)
  obtain ⟨c6, i6, h6⟩ := u_known (C := RX9) (T := TX9) (N := 3) (n := 3) hg ivw_X9 (hg _ ni_X9)
  obtain ⟨c7, i7, h7⟩ := u_known (C := RX10) (T := TX10) (N := 12) (n := 12) hg ivw_X10 (hg _ ni_X10)
  obtain ⟨c8, i8, h8⟩ := u_known (C := RX11) (T := TX11) (N := 8) (n := 8) hg ivw_X11 (hg _ ni_X11)
  obtain ⟨c9, i9, h9⟩ := u_known (C := RX12) (T := TX12) (N := 49) (n := 49) hg ivw_X12 (hg _ ni_X12)
  refine ⟨(fun k => ([c0, c1, c2, c3, c4, c5, c6, c7, c8, c9] : List ClassId).getD k 0, fun k => ([i0, i1, i2, i3, i4, i5, i6, i7, i8, i9] : List (Nat → Nat)).getD k (fun _ => 0)), fun k q hq => ?_⟩
  match k, hq with
  | 0, hq => cases hq; exact h0
  | 1, hq => cases hq; exact h1
  | 2, hq => cases hq; exact h2
  | 3, hq => cases hq; exact h3
  | 4, hq => cases hq; exact h4
  | 5, hq => cases hq; exact h5
  | 6, hq => cases hq; exact h6
  | 7, hq => cases hq; exact h7
  | 8, hq => cases hq; exact h8
  | 9, hq => cases hq; exact h9
  | k + 10, hq => simp [vCl] at hq
theorem st_A (hts : ∀ w ∈ lw_tbl, w.before #[Value.ref b] s = true) (t : FieldType) (hw : (Cond.arrayClass t).before #[Value.ref b] s = true) (hn : ∀ C, t ≠ .object C) : ∃ c : ClassId, ArrOfT s c t ∧ s.vm.findClass ("[" ++ t.toString) = some c := by
  obtain ⟨c, k, comp, h1, h2, h3⟩ := Cond.arrayClass_spec hw
  exact ⟨c, fun N z => ⟨(fun q hq => by cases hq), k, h2, comp, h3⟩, h1⟩
theorem st_AA (hts : ∀ w ∈ lw_tbl, w.before #[Value.ref b] s = true) : ∃ c : ClassId, ArrOfT s c (.array .byte) ∧ s.vm.findClass ("[" ++ (FieldType.array .byte).toString) = some c := by
  obtain ⟨comp, c, k, h1, h3, h4, h5⟩ := Cond.arrayOver_specA (hts (.arrayOver (.array .byte)) (tb_at 45 (by decide +kernel)))
  exact ⟨c, fun N z => ⟨(fun q hq => by cases hq), k, h3, comp, h4⟩, h5⟩
theorem st_env (hts : ∀ w ∈ lw_tbl, w.before #[Value.ref b] s = true) (hgv : (Jvm.Cond.and given_1 narrow_1).before #[Value.ref b] s = true) : ∃ G : vG, vEnv G s.heap.size s := by
  have hg : ∀ w ∈ vGW, w.before #[Value.ref b] s = true := fun w hw => hts w (List.mem_filter.mp hw).1
  obtain ⟨D, hD⟩ := st_K hts
  obtain ⟨cB, b1, b2⟩ := st_A hts .byte (hg _ vw_ac_byte) (fun C h => by cases h)
  obtain ⟨cI, i1, i2⟩ := st_A hts .int (hg _ vw_ac_int) (fun C h => by cases h)
  obtain ⟨cJ, j1, j2⟩ := st_A hts .long (hg _ vw_ac_long) (fun C h => by cases h)
  obtain ⟨cA, a1, a2⟩ := st_AA hts
  obtain ⟨tR, r1, r2⟩ := st_R hts hgv
  obtain ⟨tQ, q1, q2⟩ := st_Q hts hgv
  obtain ⟨tC, c1, c2⟩ := st_C hts hgv
  obtain ⟨ad, e1, e2⟩ := st_E hts hgv
  obtain ⟨tS, s1, s2⟩ := st_S hts hgv e2
  refine ⟨(D, fun k => ([cB, cI, cJ, cA, 0, 0, 0, 0, 0, 0, tR, tQ, tC, tS, 0, 0, 0, 0, 0, 0, ad 0, ad 1, ad 2, ad 3, ad 4, ad 5] : List Nat).getD k 0), ⟨hD, fun k x hx => ?_⟩, Nat.le_refl _, fun w hw => va_Nw.of (vNk_onTables (List.all_eq_true.mp vNW_kind w hw)) (hts w (vNW_in w hw)), ⟨⟨r1, r2⟩, ⟨q1, q2⟩, ⟨c1, c2⟩, ⟨s1, va_T_congr s2 (fun j hj => ?_)⟩, va_En_congr e1 (fun j hj => ?_)⟩, st_X hts hgv⟩
  · match k, hx with
    | 0, hx => cases hx; exact ⟨b1, b2⟩
    | 1, hx => cases hx; exact ⟨i1, i2⟩
    | 2, hx => cases hx; exact ⟨j1, j2⟩
    | 3, hx => cases hx; exact ⟨a1, a2⟩
    | k + 4, hx => simp [vTys] at hx
  · rcases j with _ | _ | _ | _ | _ | _ | j <;> first | rfl | omega
  · rcases j with _ | _ | _ | _ | _ | _ | j <;> first | rfl | (exfalso; have : j + 6 < 6 := hj; omega)
end ST
