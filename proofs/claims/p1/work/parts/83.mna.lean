theorem vC.over {G : vG} {B : Nat} {p : Program} {m : MethodId} {meth : Method} {c : Code} {cc : ByteArray} {nL : Nat} {ret : Option FieldType} {s : State} {args : Array Value} {own : String} (C : vC G B p m meth c cc nL ret s args own) : va_AOA .byte s := C.2.1.2.2.2.2.1
/-! new byte[n][k] -/
def mRows (G : vG) (n k q : Nat) (r : Nat → Nat) : List (Nat × va_E) := ((List.range n).map (fun i => (r i, eB G k (fun _ => 0)))).reverse ++ [(q, eR G n (fun i => if i < n then some (r i) else none))]
theorem va_D_pre {A : Nat → Prop} {W : va_W} {x : Nat × va_E} (h : va_D A (W ++ [x])) : va_D A W := by
  refine ⟨fun i j p q hi hj r => ?_, fun k q hk => ?_⟩
  · have l1 := (List.getElem?_eq_some_iff.mp hi).1
    have l2 := (List.getElem?_eq_some_iff.mp hj).1
    exact h.1 i j p q (by rw [List.getElem?_append_left l1]; exact hi) (by rw [List.getElem?_append_left l2]; exact hj) r
  · have l1 := (List.getElem?_eq_some_iff.mp hk).1
    exact h.2 k q (by rw [List.getElem?_append_left l1]; exact hk)
theorem mna_lay {A : Nat → Prop} {w : vW} {ws : va_W} (hH : vHas w ws) : ∀ L : List (Nat × va_E), va_D A (ws ++ L.reverse) → vHas (lB w L) (ws ++ L.reverse) ∧ lF w L
  | [], _ => ⟨by simpa [lB] using hH, trivial⟩
  | x :: L, hD => by
    have e0 : ws ++ (x :: L).reverse = (ws ++ L.reverse) ++ [x] := by simp
    rw [e0] at hD ⊢
    obtain ⟨h1, h2⟩ := mna_lay hH L (va_D_pre hD)
    refine ⟨?_, ?_, h2⟩
    · exact vHas.push h1
    · exact v_fresh hD h1
theorem mRows_list {G : vG} {n k q : Nat} {r : Nat → Nat} {ws : va_W} {f : Nat → va_E} : (ws ++ [(q, eR G n (fun i => if i < n then some (r i) else none))]) ++ va_pl ([] ++ (List.range n).map r) (vr_up f ((List.range n).map r) (eB G k (fun _ => 0))) = ws ++ (mRows G n k q r).reverse := by
  unfold mRows va_pl
  rw [List.reverse_append, List.reverse_reverse, List.nil_append, List.map_map]
  simp only [List.reverse_cons, List.reverse_nil, List.nil_append, List.append_assoc]
  congr 2
  apply List.map_congr_left
  intro i hi
  show (r i, vr_up f ((List.range n).map r) (eB G k (fun _ => 0)) (r i)) = _
  rw [vr_up_in (List.mem_map.mpr ⟨i, hi, rfl⟩)]
section VMna
variable {G : vG} {B : Nat} {p : Program} {l : Launch} {e : Env} {R : Room} {s : State} {m : MethodId} {args : Array Value} {below : List Frame} {meth : Method} {c : Code} {nL cells slots : Nat} {Q : State → Prop} {w w0 : vW} {cc : ByteArray} {ret : Option FieldType} {own : String} {pc pc' pc1 pc2 : Nat} {lv : List (Nat × Value)} {st : List Value}
set_option maxHeartbeats 1000000 in
theorem v_mna (C : vC G B p m meth c cc nL ret s args own) {index n k d1 mc1 ms1 : Nat} {i j : Int32} (hR : R = vRm d1 mc1 ms1) (hcl : Cond.classLink own index "[[B" ∈ vGW) (hd : vD cc pc (.multianewarray index 2) 4 pc') (hi : i = nI n) (hj : j = nI k) (hn : n ≤ 67108864) (hk : k ≤ 67108864) (hrm : cells + (1 + n) ≤ mc1 ∧ slots + (n + n * k) ≤ ms1)
    (kk : ∀ (q : Nat) (r : Nat → Nat), lF w (mRows G n k q r) → V G B p l e R s m args below meth c nL (cells + 1 + n) (slots + n + n * k) Q (lB w (mRows G n k q r)) pc' lv (.ref q :: st)) : V G B p l e R s m args below meth c nL cells slots Q w pc lv (.int j :: .int i :: st) := by
  subst hi; subst hj; subst hR
  intro H locs ls h1 h2 h3
  obtain ⟨ws, hP, hD, hH⟩ := h1
  have e0 : s.vm.findClass _ = some (G.2 0) := (C.2.1.1.2 0 (G.2 0, .byte) rfl).2
  refine va_mna (X := ws) (L := []) (f := fun _ => eB G 0 (fun _ => 0)) (ty := .byte) (cy := G.2 0) C.1.1 C.1.2.1 C.1.2.2.2.1 (C.1.2.2.2.2 _ hcl) C.over (C.1.2.2.2.2 _ vw_ac_byte) e0 C.2.1.1 (by simpa [va_pl] using hP) (by simpa [va_pl] using hD) h2 (fun q hq => Nat.le_trans C.2.1.2.1 hq) (z := (k, .inl (fun _ => 0))) (nI_pos (by omega)) (nI_pos (by omega)) (nI_clamp (by omega)) (nI_clamp (by omega)) (by omega) (by show k * 1 ≤ 536870912; omega) (by omega) rfl rfl hrm.1 hrm.2 (fun c => ?_) hd.1 (fun q r cA H1 hr1 hr2 hK1 hP1 hD1 hS1 => ?_)
  · show Jvm.Free.Multi.innerC c k (defaultValue .byte) = vp_cell c (k, .inl (fun _ => 0))
    rw [vp_cell_i]
    show ({ cls := c, slots := Array.replicate k (.int 0), vm := .none } : Cell) = _
    exact arrV_new c k (.int 0)
  have e1 : s.vm.findClass _ = some cA := (hK1.2 4 (cA, .array .byte) rfl).2
  have e3 : s.vm.findClass _ = some (G.2 3) := (C.2.1.1.2 3 (G.2 3, .array .byte) rfl).2
  have ec : cA = G.2 3 := Option.some.inj (e1.symm.trans e3)
  subst ec
  have hL := mRows_list (G := G) (n := n) (k := k) (q := q) (r := r) (ws := ws) (f := fun _ => eB G 0 (fun _ => 0))
  have hP2 : va_P G.1 vCl (ws ++ (mRows G n k q r).reverse) H1 := hL ▸ hP1
  have hD2 : va_D (fun q => B ≤ q) (ws ++ (mRows G n k q r).reverse) := hL ▸ hD1
  obtain ⟨g1, g2⟩ := mna_lay hH _ hD2
  have kk := kk q r g2
  rw [hd.2] at kk
  exact kk H1 locs ls ⟨_, hP2, hD2, g1⟩ hS1 h3
theorem cb_M (C : vC G B p m meth c cc nL ret s args own) (hin : meth.name = "<init>") {o n ci idx k0 index N K d1 mc1 ms1 : Nat} {i j : Int32} {L : List (Nat × va_E)} {fs : List Value} {ty : FieldType} (F : oF w0 o n L fs) (hR : R = vRm d1 mc1 ms1) (hcl : Cond.classLink own index "[[B" ∈ vGW) (d1' : vD cc pc (.multianewarray index 2) 4 pc1) (hi : i = nI N) (hj : j = nI K) (hn : N ≤ 67108864) (hk : K ≤ 67108864) (hrm : cells + (1 + N) ≤ mc1 ∧ slots + (N + N * K) ≤ ms1) (hf : vFldF own idx ci k0 ty) (hty : ∀ a : Nat, narrow ty (.ref a) = .ref a ∧ fits ty (.ref a) = true) (hk0 : k0 < n) (d2' : vD cc pc1 (.putfield idx) 3 pc2)
    (kk : ∀ (q : Nat) (r : Nat → Nat), oF w0 o n (mRows G N K q r ++ L) (fs.set k0 (.ref q)) → V G B p l e R s m args below meth c nL (cells + 1 + N) (slots + N + N * K) Q (vUp (lB w0 (mRows G N K q r ++ L)) o (eO ci (fs.set k0 (.ref q)))) pc2 lv st) : V G B p l e R s m args below meth c nL cells slots Q (vUp (lB w0 L) o (eO ci fs)) pc lv (.int j :: .int i :: .ref o :: st) := by
  refine v_mna C hR hcl d1' hi hj hn hk hrm (fun q r g => ?_)
  obtain ⟨g1, g2, g3⟩ := lB_com g
  rw [g1, ← lB_app]
  refine v_putF C hf hin d2' (fs := fs) vUp_self (hty q).1 (hty q).2 (by have := F.2.2; omega) ?_
  rw [vUp_two]
  exact kk q r ⟨lF_app F.1 g2, by rw [lB_app, g3]; exact F.2.1, by simp [F.2.2]⟩
end VMna
theorem pic_T {w0 : vW} {o n ci f t : Nat} {L L5 : List (Nat × va_E)} {fs : List Value} {ef : va_E} (F : oF w0 o n L fs) (hf : vUp (lB w0 L) o (eO ci fs) f = none) (g : lF (vUp (vUp (lB w0 L) o (eO ci fs)) f ef) L5) (gt : lB (vUp (vUp (lB w0 L) o (eO ci fs)) f ef) L5 t = none) : oF w0 o n (L5 ++ (f, ef) :: L) fs ∧ lB (vUp (vUp (lB w0 L) o (eO ci fs)) f ef) L5 = vUp (lB w0 (L5 ++ (f, ef) :: L)) o (eO ci fs) ∧ vUp (lB w0 (L5 ++ (f, ef) :: L)) o (eO ci fs) t = none := by
  obtain ⟨h1, h2⟩ := vUp_none hf
  have e0 : vUp (vUp (lB w0 L) o (eO ci fs)) f ef = vUp (lB w0 ((f, ef) :: L)) o (eO ci fs) := by
    show _ = vUp (vUp (lB w0 L) f ef) o (eO ci fs)
    rw [vUp_com h1]
  rw [e0] at g gt ⊢
  obtain ⟨k1, k2, k3⟩ := lB_com g
  rw [k1, ← lB_app] at gt
  rw [k1, ← lB_app]
  refine ⟨⟨lF_app ⟨h2, F.1⟩ k2, ?_, F.2.2⟩, rfl, gt⟩
  rw [lB_app, k3]
  show vUp (lB w0 L) f ef o = none
  rw [vUp_ne (Ne.symm h1)]
  exact F.2.1
