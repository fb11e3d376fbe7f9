/-! THE JUDGEMENT V: the machine at a pc, with locals lv and stack st, over a heap that holds the picture w (addresses to contents); all else is hidden -/
abbrev vG : Type := va_G × (Nat → ClassId)
abbrev vW : Type := Nat → Option va_E
abbrev vTys (G : vG) : List (ClassId × FieldType) := [(G.2 0, .byte), (G.2 1, .int), (G.2 2, .long), (G.2 3, .array .byte)]
/-- contents: arrays of bytes, ints, longs, references; objects -/
abbrev eB (G : vG) (n : Nat) (f : Nat → Int32) : va_E := .inl (G.2 0, n, .inl f)
abbrev eI (G : vG) (n : Nat) (f : Nat → Int32) : va_E := .inl (G.2 1, n, .inl f)
abbrev eJ (G : vG) (n : Nat) (f : Nat → Int64) : va_E := .inl (G.2 2, n, .inr (.inl f))
abbrev eR (G : vG) (n : Nat) (f : Nat → Option Nat) : va_E := .inl (G.2 3, n, .inr (.inr (.inr (.inr f))))
abbrev eO (ci : Nat) (fs : List Value) : va_E := .inr (ci, fs)
def vHas (w : vW) (ws : va_W) : Prop := ∀ (a : Nat) (e : va_E), w a = some e → ∃ k : Nat, ws[k]? = some (a, e)
def vHolds (G : vG) (B : Nat) (w : vW) (H : Heap) : Prop := ∃ ws : va_W, va_P G.1 vCl ws H ∧ va_D (fun q => B ≤ q) ws ∧ vHas w ws
/-- the picture with one content changed, or laid anew -/
abbrev vUp (w : vW) (a : Nat) (e : va_E) : vW := va_up w a (some e)
theorem vUp_self {w : vW} {a : Nat} {e : va_E} : vUp w a e a = some e := by simp [va_up]
theorem vUp_ne {w : vW} {a b : Nat} {e : va_E} (h : b ≠ a) : vUp w a e b = w b := by simp [va_up, h]
theorem vHas.set {w : vW} {ws : va_W} {A : Nat → Prop} (h : vHas w ws) (hD : va_D A ws) {k a : Nat} {e e' : va_E} (hk : ws[k]? = some (a, e)) : vHas (vUp w a e') (ws.set k (a, e')) := by
  intro b eb hb
  by_cases hab : b = a
  · subst hab
    rw [vUp_self] at hb
    cases hb
    have hlt : k < ws.length := (List.getElem?_eq_some_iff.mp hk).1
    exact ⟨k, by simp [List.getElem?_set, hlt]⟩
  · rw [vUp_ne hab] at hb
    obtain ⟨j, hj⟩ := h b eb hb
    have hkj : k ≠ j := by
      intro q
      subst q
      have := hj.symm.trans hk
      cases this
      exact hab rfl
    exact ⟨j, by rw [List.getElem?_set_ne hkj]; exact hj⟩
theorem vHas.push {w : vW} {ws : va_W} {a : Nat} {e' : va_E} (h : vHas w ws) : vHas (vUp w a e') (ws ++ [(a, e')]) := by
  intro b eb hb
  by_cases hab : b = a
  · subst hab
    rw [vUp_self] at hb
    cases hb
    exact ⟨ws.length, by simp⟩
  · rw [vUp_ne hab] at hb
    obtain ⟨j, hj⟩ := h b eb hb
    have hlt : j < ws.length := (List.getElem?_eq_some_iff.mp hj).1
    exact ⟨j, by rw [List.getElem?_append_left hlt]; exact hj⟩
theorem vHas.sub {w w' : vW} {ws : va_W} (h : vHas w ws) (hw : ∀ a e, w' a = some e → w a = some e) : vHas w' ws := fun a e q => h a e (hw a e q)
theorem vHolds.sub {G : vG} {B : Nat} {w w' : vW} {H : Heap} (h : vHolds G B w H) (hw : ∀ a e, w' a = some e → w a = some e) : vHolds G B w' H := by
  obtain ⟨ws, h1, h2, h3⟩ := h
  exact ⟨ws, h1, h2, h3.sub hw⟩
theorem vHolds.base {G : vG} {B : Nat} {w : vW} {H : Heap} (h : vHolds G B w H) {a : Nat} {e : va_E} (ha : w a = some e) : B ≤ a ∧ a < H.size := by
  obtain ⟨ws, h1, h2, h3⟩ := h
  obtain ⟨k, hk⟩ := h3 a e ha
  exact ⟨h2.2 k _ hk, (h1 k _ hk).lt⟩
/-- the statics that nobody writes: their addresses stand in G.2 from 10 on -/
def cRn : List Int64 := [1, 32898, (-9223372036854742902), (-9223372034707259392), 32907, 2147483649, (-9223372034707259263), (-9223372036854743031), 138, 136, 2147516425, 2147483658, 2147516555, (-9223372036854775669), (-9223372036854742903), (-9223372036854743037), (-9223372036854743038), (-9223372036854775680), 32778, (-9223372034707292150), (-9223372034707259263), (-9223372036854742912), 2147483649, (-9223372034707259384)]
def cSq : List Int64 := [7640891576956012808, (-4942790177534073029), 4354685564936845355, (-6534734903238641935), 5840696475078001361, (-7276294671716946913), 2270897969802886507, 6620516959819538809]
def cCb : List Int64 := [4794697086780616226, 8158064640168781261, (-5349999486874862801), (-1606136188198331460), 4131703408338449720, 6480981068601479193, (-7908458776815382629), (-6116909921290321640), (-2880145864133508542), 1334009975649890238, 2608012711638119052, 6128411473006802146, 8268148722764581231, (-9160688886553864527), (-7215885187991268811), (-4495734319001033068), (-1973867731355612462), (-1171420211273849373), 1135362057144423861, 2597628984639134821, 3308224258029322869, 5365058923640841347, 6679025012923562964, 8573033837759648693, (-7476448914759557205), (-6327057829258317296), (-5763719355590565569), (-4658551843659510044), (-4116276920077217854), (-3051310485924567259), 489312712824947311, 1452737877330783856, 2861767655752347644, 3322285676063803686, 5560940570517711597, 5996557281743188959, 7280758554555802590, 8532644243296465576, (-9096487096722542874), (-7894198246740708037), (-6719396339535248540), (-6333637450476146687), (-4446306890439682159), (-4076793802049405392), (-3345356375505022440), (-2983346525034927856), (-860691631967231958), 1182934255886127544, 1847814050463011016, 2177327727835720531, 2830643537854262169, 3796741975233480872, 4115178125766777443, 5681478168544905931, 6601373596472566643, 7507060721942968483, 8399075790359081724, 8693463985226723168, (-8878714635349349518), (-8302665154208450068), (-8016688836872298968), (-6606660893046293015), (-4685533653050689259), (-4147400797238176981), (-3880063495543823972), (-3348786107499101689), (-1523767162380948706), (-757361751448694408), 500013540394364858, 748580250866718886, 1242879168328830382, 1977374033974150939, 2944078676154940804, 3659926193048069267, 4368137639120453308, 4836135668995329356, 5532061633213252278, 6448918945643986474, 6902733635092675308, 7801388544844847127]
def eNm : List String := ["SMALL_16", "FAST_16", "SMALL_24", "FAST_24", "SMALL_32", "FAST_32"]
def eFl : List (String × String × String × List Int32) := [("HashTreeSigner$Sizes", "n", "I", [16, 16, 24, 24, 32, 32]), ("HashTreeSigner$Sizes", "d", "I", [7, 22, 7, 22, 8, 17]), ("HashTreeSigner$Sizes", "a", "I", [12, 6, 14, 8, 14, 9]), ("HashTreeSigner$Sizes", "k", "I", [14, 33, 17, 33, 22, 35]), ("HashTreeSigner$Sizes", "p", "I", [9, 3, 9, 3, 8, 4]), ("HashTreeSigner$Sizes", "chains", "I", [35, 35, 51, 51, 67, 67]), ("HashTreeSigner$Sizes", "treeBits", "I", [54, 63, 54, 63, 56, 64]), ("HashTreeSigner$Sizes", "u", "I", [21, 25, 30, 33, 39, 40]), ("HashTreeSigner$Sizes", "v", "I", [7, 8, 7, 8, 7, 8]), ("HashTreeSigner$Sizes", "y", "I", [2, 1, 2, 1, 1, 1]), ("HashTreeSigner$Sizes", "signature", "I", [7856, 17088, 16224, 35664, 29792, 49856])]
def vStat (G : vG) (B : Nat) (U : State) (H : Heap) : Prop :=
  (va_Z "HashTreeSigner$Sponge" "ROUNDS" "[J" (.ref (G.2 10)) (fun q => B ≤ q) U H ∧ va_T .long (G.2 10) 24 (fun j => .long (cRn.getD j 0)) (fun q => B ≤ q) U H) ∧
  (va_Z "HashTreeSigner$Sha2" "SQUARE_ROOTS" "[J" (.ref (G.2 11)) (fun q => B ≤ q) U H ∧ va_T .long (G.2 11) 8 (fun j => .long (cSq.getD j 0)) (fun q => B ≤ q) U H) ∧
  (va_Z "HashTreeSigner$Sha2" "CUBE_ROOTS" "[J" (.ref (G.2 12)) (fun q => B ≤ q) U H ∧ va_T .long (G.2 12) 80 (fun j => .long (cCb.getD j 0)) (fun q => B ≤ q) U H) ∧
  (va_Z "HashTreeSigner" "SIZES" "[LHashTreeSigner$Sizes;" (.ref (G.2 13)) (fun q => B ≤ q) U H ∧ va_T (.object "HashTreeSigner$Sizes") (G.2 13) 6 (fun j => .ref (G.2 (20 + j))) (fun q => B ≤ q) U H) ∧
  va_En "HashTreeSigner$Sizes" "LHashTreeSigner$Sizes;" eNm eFl (fun i => G.2 (20 + i)) (fun q => B ≤ q) U H
theorem vStat.moved {G : vG} {B : Nat} {u U : State} {H : Heap} (hvm : u.vm.Alike U.vm) (h : vStat G B u H) : vStat G B U H :=
  ⟨⟨va_Z.moved hvm h.1.1, va_T.moved hvm h.1.2⟩, ⟨va_Z.moved hvm h.2.1.1, va_T.moved hvm h.2.1.2⟩, ⟨va_Z.moved hvm h.2.2.1.1, va_T.moved hvm h.2.2.1.2⟩, ⟨va_Z.moved hvm h.2.2.2.1.1, va_T.moved hvm h.2.2.2.1.2⟩, va_En.moved hvm h.2.2.2.2⟩
theorem vStat.kept {G : vG} {B : Nat} {U : State} {H H1 : Heap} (h : vStat G B U H) (hq : ∀ a : Nat, a < H.size → ¬ B ≤ a → H1[a]? = H[a]?) : vStat G B U H1 :=
  ⟨⟨va_Z.kept h.1.1 hq, va_T.kept h.1.2 hq⟩, ⟨va_Z.kept h.2.1.1 hq, va_T.kept h.2.1.2 hq⟩, ⟨va_Z.kept h.2.2.1.1 hq, va_T.kept h.2.2.1.2 hq⟩, ⟨va_Z.kept h.2.2.2.1.1 hq, va_T.kept h.2.2.2.1.2 hq⟩, va_En.kept h.2.2.2.2 hq⟩
def vNkB (w : Cond) : Bool := match w with
  | .fieldLinkNest .. => true
  | .methodLinkNest .. => true
  | .declares .. => true
  | .castable .. => true
  | _ => false
theorem vNw_warm {w : Cond} (hk : vNkB w = true) {s U : State} (hW : s.WarmedH U.vm) (h : va_Nw w s) : va_Nw w U := by
  cases w <;> first | exact va_Nw.warmF hW h | exact va_Nw.warmM hW h | exact va_Nw.warmD hW h | exact va_Nw.warmC hW h | (simp [vNkB] at hk)
theorem vNW_kind : vNW.all vNkB = true := by decide +kernel
/-- what throws and rows of rows ask of the start -/
def vEx (B : Nat) (U : State) (H : Heap) : Prop := va_AOA .byte U ∧ (vx_Zq Bundle.tN "UNASSIGNED_STACK" Bundle.steD (fun q => B ≤ q) U H ∧ vx_Zq Bundle.tN "SUPPRESSED_SENTINEL" Bundle.listD (fun q => B ≤ q) U H) ∧ (∀ q ∈ vSt, ∃ a : Nat, vk_R "HashTreeSigner" q.1 q.2 a U) ∧ (∀ q ∈ vNc, va_Nc q.1 q.2 U)
theorem vEx.same {B : Nat} {u U : State} {H : Heap} (hv : U.vm = u.vm) (h : vEx B u H) : vEx B U H := by
  have hA : u.vm.Alike U.vm := by rw [hv]; exact Vm.Alike.refl u.vm
  exact ⟨va_AOA.moved hA h.1, ⟨vx_Zq.moved hA h.2.1.1, vx_Zq.moved hA h.2.1.2⟩, fun q hq => (h.2.2.1 q hq).imp (fun a ha => vk_R.same hv ha), fun q hq => va_Nc.moved hA (h.2.2.2 q hq)⟩
theorem vEx.warm {B : Nat} {u U : State} {H H1 : Heap} (hW : u.WarmedH U.vm) (h : vEx B u H) (hq : ∀ a : Nat, a < H.size → ¬ B ≤ a → H1[a]? = H[a]?) : vEx B U H1 :=
  ⟨va_AOA.moved hW.alike h.1, ⟨vx_Zq.moved hW.alike (vx_Zq.kept h.2.1.1 hq), vx_Zq.moved hW.alike (vx_Zq.kept h.2.1.2 hq)⟩, fun q hq => (h.2.2.1 q hq).imp (fun a ha => vk_R.warm hW ha), fun q hq => va_Nc.moved hW.alike (h.2.2.2 q hq)⟩
def vEnv (G : vG) (B : Nat) (U : State) : Prop := va_K G.1 vCl (vTys G) U ∧ B ≤ U.heap.size ∧ (∀ w ∈ vNW, va_Nw w U) ∧ vStat G B U U.heap ∧ vEx B U U.heap
theorem vNk_onTables {w : Cond} (hk : vNkB w = true) : w.onTables = true := by
  cases w <;> first | rfl | (simp [vNkB] at hk)
theorem vEnv.blind {G : vG} {B : Nat} {U : State} {g : JFrame} {mk : MethodId} {a : Array Value} (h : vEnv G B U) : vEnv G B (U.calling g mk a) :=
  ⟨va_K.moved (u := U) (U := U.calling g mk a) (Vm.Alike.refl U.vm) h.1, h.2.1, fun w hw => va_Nw.same (u := U) (U := U.calling g mk a) (vNk_onTables (List.all_eq_true.mp vNW_kind w hw)) rfl (h.2.2.1 w hw), vStat.moved (u := U) (U := U.calling g mk a) (Vm.Alike.refl U.vm) h.2.2.2.1, vEx.same (u := U) (U := U.calling g mk a) rfl h.2.2.2.2⟩
theorem vEnv.carry {G : vG} {B : Nat} {s U : State} {H : Heap} {locs : List Loc} (h : vEnv G B s) (hS : va_S (fun q => B ≤ q) s.heap H locs) (hU : U.heap = H) (hW : s.WarmedH U.vm) : vEnv G B U := by
  subst hU
  exact ⟨va_K.moved hW.alike h.1, Nat.le_trans h.2.1 hS.1, fun w hw => vNw_warm (List.all_eq_true.mp vNW_kind w hw) hW (h.2.2.1 w hw), vStat.moved hW.alike (vStat.kept h.2.2.2.1 (fun a h1 h2 => hS.2.1 a h1 h2)), vEx.warm hW h.2.2.2.2 (fun a h1 h2 => hS.2.1 a h1 h2)⟩
def V (G : vG) (B : Nat) (p : Program) (l : Launch) (e : Env) (R : Room) (s : State) (m : MethodId) (args : Array Value) (below : List Frame) (meth : Method) (c : Code) (nL cells slots : Nat) (Q : State → Prop) (w : vW) (pc : Nat) (lv : List (Nat × Value)) (st : List Value) : Prop :=
  ∀ (H : Heap) (locs : List Loc) (ls : Array Slot), vHolds G B w H → va_S (fun q => B ≤ q) s.heap H locs → lv_has ls nL lv → W p l e R s m args below meth c H locs cells slots Q (F0 m pc ls st)
/-- an instruction, its length, and where the next one stands -/
def vD (cc : ByteArray) (pc : Nat) (i : Instr) (n pc' : Nat) : Prop := decode cc pc = .ok (i, n) ∧ pc' = pc + n
/-- what a walk of a method has at hand -/
def vC (G : vG) (B : Nat) (p : Program) (m : MethodId) (meth : Method) (c : Code) (cc : ByteArray) (nL : Nat) (ret : Option FieldType) (s : State) (args : Array Value) (own : String) : Prop :=
  CallFix p m c cc nL s args vGW own ∧ vEnv G B s ∧ meth.sig.returnType = ret ∧ meth.locks = false
def vRm (d mc ms : Nat) : Room := { frames := d, cells := mc, slots := ms, locals := 100 * d }
def vQ (G : vG) (B : Nat) (post : Option Value → vW → Prop) : Array Value → State → Outcome → State → Prop := fun _ st oc t => (∃ (r : Option Value) (w' : vW), oc = .returned r ∧ post r w' ∧ vHolds G B w' t.heap) ∧ va_F (fun q => B ≤ q) st t
/-- A CONTRACT: over a heap that holds w, called with av, y returns r with a heap that holds w', and 'post r w'' -/
def vOk (G : vG) (B : Nat) (l : Launch) (y : MethodName) (bytes : ByteArray) (maxL : Nat) (ret : Option FieldType) (d mc ms : Nat) (av : List Value) (w : vW) (post : Option Value → vW → Prop) : Prop :=
  Met l y (Cond.code y bytes maxL ret :: vGW) (vRm d mc ms) (va_Pc av (fun U => vEnv G B U ∧ vHolds G B w U.heap)) (vQ G B post) mc ms (fun q => B ≤ q)
/-- a field by its pool number: class number and place; for reads, for writes -/
def vFld (own : String) (index ci k : Nat) : Prop := ∃ (C : String) (T : u_T) (N : Nat) (ref host : String), vCl[ci]? = some (C, T, N) ∧ k < N ∧ (∀ w ∈ u_ws C T N, w ∈ vGW) ∧ (Cond.fieldLink own index ref (T k).2.1 (T k).2.2.1 ∈ vGW ∨ Cond.fieldLinkNest own index ref (T k).2.1 (T k).2.2.1 host ∈ vNW) ∧ (ref = (T k).1 ∨ Cond.sameField ref (T k).1 (T k).2.1 (T k).2.2.1 ∈ vGW)
def vFldP (own : String) (index ci k : Nat) (ty : FieldType) : Prop := ∃ (C : String) (T : u_T) (N : Nat) (ref host : String) (ty0 : Nat → FieldType), vCl[ci]? = some (C, T, N) ∧ k < N ∧ (∀ w ∈ u_ws C T N, w ∈ vGW) ∧ (Cond.fieldLink own index ref (T k).2.1 (T k).2.2.1 ∈ vGW ∨ Cond.fieldLinkNest own index ref (T k).2.1 (T k).2.2.1 host ∈ vNW) ∧ (ref = (T k).1 ∨ Cond.sameField ref (T k).1 (T k).2.1 (T k).2.2.1 ∈ vGW) ∧ (∀ j, j < N → parseFieldDescriptor (T j).2.2.1 = some (ty0 j)) ∧ (∀ a, a < N → ∀ b, b < N → a ≠ b → (T a).2.1 ≠ (T b).2.1) ∧ (T k).2.2.2 = false ∧ parseFieldDescriptor (T k).2.2.1 = some ty
def vFldF (own : String) (index ci k : Nat) (ty : FieldType) : Prop := ∃ (C : String) (T : u_T) (N : Nat) (ref host : String) (ty0 : Nat → FieldType), vCl[ci]? = some (C, T, N) ∧ k < N ∧ (∀ w ∈ u_ws C T N, w ∈ vGW) ∧ (Cond.fieldLink own index ref (T k).2.1 (T k).2.2.1 ∈ vGW ∨ Cond.fieldLinkNest own index ref (T k).2.1 (T k).2.2.1 host ∈ vNW) ∧ (ref = (T k).1 ∨ Cond.sameField ref (T k).1 (T k).2.1 (T k).2.2.1 ∈ vGW) ∧ (∀ j, j < N → parseFieldDescriptor (T j).2.2.1 = some (ty0 j)) ∧ (∀ a, a < N → ∀ b, b < N → a ≠ b → (T a).2.1 ≠ (T b).2.1) ∧ (T k).2.2.2 = true ∧ (T k).1 = own ∧ parseFieldDescriptor (T k).2.2.1 = some ty
abbrev vNoH (C : String) : Prop := C ≠ "java/lang/invoke/MethodHandle" ∧ C ≠ "java/lang/invoke/VarHandle"
abbrev vPar (desc : String) (n : Nat) : Prop := (parseMethodDescriptor desc).map (fun d => d.parameters.length) = some n
/-- a method by its pool number: static; on a receiver of its own class; a constructor; answered by another -/
def vLS (own : String) (index : Nat) (y : MethodName) (bytes : ByteArray) (maxL : Nat) (rt : Option FieldType) (n : Nat) : Prop := (Cond.methodLink own index y ∈ vGW ∨ ∃ host, Cond.methodLinkNest own index y host ∈ vNW) ∧ Cond.static y ∈ vGW ∧ Cond.initialized y.cls ∈ vGW ∧ Cond.code y bytes maxL rt ∈ vGW ∧ vNoH y.cls ∧ vPar y.desc n
def vLV (own : String) (index : Nat) (y : MethodName) (bytes : ByteArray) (maxL : Nat) (rt : Option FieldType) (n ci : Nat) : Prop := (∃ q : vw_C, vCl[ci]? = some q ∧ q.1 = y.cls) ∧ (Cond.methodLink own index y ∈ vGW ∨ ∃ host, Cond.methodLinkNest own index y host ∈ vNW) ∧ Cond.instanceMethod y ∈ vGW ∧ Cond.selects y.cls y y ∈ vGW ∧ Cond.initialized y.cls ∈ vGW ∧ Cond.code y bytes maxL rt ∈ vGW ∧ vNoH y.cls ∧ vPar y.desc n
def vLI (own : String) (index : Nat) (y : MethodName) (bytes : ByteArray) (maxL n : Nat) : Prop := (Cond.methodLink own index y ∈ vGW ∨ ∃ host, Cond.methodLinkNest own index y host ∈ vNW) ∧ Cond.instanceMethod y ∈ vGW ∧ Cond.initialized y.cls ∈ vGW ∧ Cond.code y bytes maxL none ∈ vGW ∧ y.name = "<init>" ∧ vNoH y.cls ∧ vPar y.desc n
def vLU (own : String) (index : Nat) (x y : MethodName) (bytes : ByteArray) (maxL : Nat) (rt : Option FieldType) (n ci : Nat) : Prop := ∃ (q : vw_C) (owner : String), vCl[ci]? = some q ∧ Cond.methodLink own index x ∈ vGW ∧ Cond.sameMethod x.cls owner x.name x.desc ∈ vGW ∧ (Cond.declares ⟨owner, x.name, x.desc⟩ ∈ vNW ∨ ∃ (b0 : ByteArray) (m0 : Nat) (r0 : Option FieldType), Cond.instanceMethod ⟨owner, x.name, x.desc⟩ ∈ vGW ∧ Cond.code ⟨owner, x.name, x.desc⟩ b0 m0 r0 ∈ vGW) ∧ Cond.selects q.1 x y ∈ vGW ∧ Cond.instanceMethod y ∈ vGW ∧ Cond.initialized y.cls ∈ vGW ∧ Cond.code y bytes maxL rt ∈ vGW ∧ vNoH owner ∧ vPar x.desc n
theorem vNe {w : vW} {a b : Nat} {e1 e2 : va_E} (h1 : w a = some e1) (h2 : w b = some e2) (h : e1 ≠ e2) : a ≠ b := fun q => h (by subst q; exact Option.some.inj (h1.symm.trans h2))
