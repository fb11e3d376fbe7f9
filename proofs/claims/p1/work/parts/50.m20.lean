theorem eX12_pseudo_0 : vD cX12_pseudo 0 (.aload_n 0) 1 1 := ⟨by decide +kernel, rfl⟩
theorem eX12_pseudo_1 : vD cX12_pseudo 1 (.aload_n 0) 1 2 := ⟨by decide +kernel, rfl⟩
theorem eX12_pseudo_2 : vD cX12_pseudo 2 (.getfield 111) 3 5 := ⟨by decide +kernel, rfl⟩
theorem eX12_pseudo_5 : vD cX12_pseudo 5 (.iconst 0) 1 6 := ⟨by decide +kernel, rfl⟩
theorem eX12_pseudo_6 : vD cX12_pseudo 6 (.aload_n 0) 1 7 := ⟨by decide +kernel, rfl⟩
theorem eX12_pseudo_7 : vD cX12_pseudo 7 (.getfield 243) 3 10 := ⟨by decide +kernel, rfl⟩
theorem eX12_pseudo_10 : vD cX12_pseudo 10 (.aload_n 1) 1 11 := ⟨by decide +kernel, rfl⟩
theorem eX12_pseudo_11 : vD cX12_pseudo 11 (.iload_n 2) 1 12 := ⟨by decide +kernel, rfl⟩
theorem eX12_pseudo_12 : vD cX12_pseudo 12 (.invokevirtual 268) 3 15 := ⟨by decide +kernel, rfl⟩
theorem eX12_pseudo_15 : vD cX12_pseudo 15 .return_ 1 16 := ⟨by decide +kernel, rfl⟩
theorem eX12_chain_0 : vD cX12_chain 0 (.iload_n 3) 1 1 := ⟨by decide +kernel, rfl⟩
theorem eX12_chain_1 : vD cX12_chain 1 (.istore 7) 2 3 := ⟨by decide +kernel, rfl⟩
theorem eX12_chain_3 : vD cX12_chain 3 (.iload 7) 2 5 := ⟨by decide +kernel, rfl⟩
theorem eX12_chain_5 : vD cX12_chain 5 (.iload_n 3) 1 6 := ⟨by decide +kernel, rfl⟩
theorem eX12_chain_6 : vD cX12_chain 6 (.iload 4) 2 8 := ⟨by decide +kernel, rfl⟩
theorem eX12_chain_8 : vD cX12_chain 8 .iadd 1 9 := ⟨by decide +kernel, rfl⟩
theorem eX12_chain_9 : vD cX12_chain 9 (.if_icmp .ge 34) 3 12 := ⟨by decide +kernel, rfl⟩
theorem eX12_chain_12 : vD cX12_chain 12 (.aload_n 0) 1 13 := ⟨by decide +kernel, rfl⟩
theorem eX12_chain_13 : vD cX12_chain 13 (.iconst 0) 1 14 := ⟨by decide +kernel, rfl⟩
theorem eX12_chain_14 : vD cX12_chain 14 (.iload_n 1) 1 15 := ⟨by decide +kernel, rfl⟩
theorem eX12_chain_15 : vD cX12_chain 15 (.iload_n 2) 1 16 := ⟨by decide +kernel, rfl⟩
theorem eX12_chain_16 : vD cX12_chain 16 (.iload 7) 2 18 := ⟨by decide +kernel, rfl⟩
theorem eX12_chain_18 : vD cX12_chain 18 (.invokevirtual 272) 3 21 := ⟨by decide +kernel, rfl⟩
theorem eX12_chain_21 : vD cX12_chain 21 (.aload_n 0) 1 22 := ⟨by decide +kernel, rfl⟩
theorem eX12_chain_22 : vD cX12_chain 22 (.aload 5) 2 24 := ⟨by decide +kernel, rfl⟩
theorem eX12_chain_24 : vD cX12_chain 24 (.iload 6) 2 26 := ⟨by decide +kernel, rfl⟩
theorem eX12_chain_26 : vD cX12_chain 26 (.aload_n 0) 1 27 := ⟨by decide +kernel, rfl⟩
theorem eX12_chain_27 : vD cX12_chain 27 (.getfield 243) 3 30 := ⟨by decide +kernel, rfl⟩
theorem eX12_chain_30 : vD cX12_chain 30 (.aload 5) 2 32 := ⟨by decide +kernel, rfl⟩
theorem eX12_chain_32 : vD cX12_chain 32 (.iload 6) 2 34 := ⟨by decide +kernel, rfl⟩
theorem eX12_chain_34 : vD cX12_chain 34 (.invokevirtual 268) 3 37 := ⟨by decide +kernel, rfl⟩
theorem eX12_chain_37 : vD cX12_chain 37 (.iinc 7 1) 3 40 := ⟨by decide +kernel, rfl⟩
theorem eX12_chain_40 : vD cX12_chain 40 (.goto (-37)) 3 43 := ⟨by decide +kernel, rfl⟩
theorem eX12_chain_43 : vD cX12_chain 43 .return_ 1 44 := ⟨by decide +kernel, rfl⟩
theorem eX12_leaf_0 : vD cX12_leaf 0 (.iconst 0) 1 1 := ⟨by decide +kernel, rfl⟩
theorem eX12_leaf_1 : vD cX12_leaf 1 (.istore 4) 2 3 := ⟨by decide +kernel, rfl⟩
theorem eX12_leaf_3 : vD cX12_leaf 3 (.iload 4) 2 5 := ⟨by decide +kernel, rfl⟩
theorem eX12_leaf_5 : vD cX12_leaf 5 (.aload_n 0) 1 6 := ⟨by decide +kernel, rfl⟩
theorem eX12_leaf_6 : vD cX12_leaf 6 (.getfield 261) 3 9 := ⟨by decide +kernel, rfl⟩
theorem eX12_leaf_9 : vD cX12_leaf 9 (.if_icmp .ge 54) 3 12 := ⟨by decide +kernel, rfl⟩
theorem eX12_leaf_12 : vD cX12_leaf 12 (.aload_n 0) 1 13 := ⟨by decide +kernel, rfl⟩
theorem eX12_leaf_13 : vD cX12_leaf 13 (.iconst 5) 1 14 := ⟨by decide +kernel, rfl⟩
theorem eX12_leaf_14 : vD cX12_leaf 14 (.iload_n 1) 1 15 := ⟨by decide +kernel, rfl⟩
theorem eX12_leaf_15 : vD cX12_leaf 15 (.iload 4) 2 17 := ⟨by decide +kernel, rfl⟩
theorem eX12_leaf_17 : vD cX12_leaf 17 (.iconst 0) 1 18 := ⟨by decide +kernel, rfl⟩
theorem eX12_leaf_18 : vD cX12_leaf 18 (.invokevirtual 272) 3 21 := ⟨by decide +kernel, rfl⟩
theorem eX12_leaf_21 : vD cX12_leaf 21 (.aload_n 0) 1 22 := ⟨by decide +kernel, rfl⟩
theorem eX12_leaf_22 : vD cX12_leaf 22 (.aload_n 0) 1 23 := ⟨by decide +kernel, rfl⟩
theorem eX12_leaf_23 : vD cX12_leaf 23 (.getfield 87) 3 26 := ⟨by decide +kernel, rfl⟩
theorem eX12_leaf_26 : vD cX12_leaf 26 (.iload 4) 2 28 := ⟨by decide +kernel, rfl⟩
theorem eX12_leaf_28 : vD cX12_leaf 28 (.aload_n 0) 1 29 := ⟨by decide +kernel, rfl⟩
theorem eX12_leaf_29 : vD cX12_leaf 29 (.getfield 243) 3 32 := ⟨by decide +kernel, rfl⟩
theorem eX12_leaf_32 : vD cX12_leaf 32 .imul 1 33 := ⟨by decide +kernel, rfl⟩
theorem eX12_leaf_33 : vD cX12_leaf 33 (.invokevirtual 276) 3 36 := ⟨by decide +kernel, rfl⟩
theorem eX12_leaf_36 : vD cX12_leaf 36 (.aload_n 0) 1 37 := ⟨by decide +kernel, rfl⟩
theorem eX12_leaf_37 : vD cX12_leaf 37 (.iload_n 1) 1 38 := ⟨by decide +kernel, rfl⟩
theorem eX12_leaf_38 : vD cX12_leaf 38 (.iload 4) 2 40 := ⟨by decide +kernel, rfl⟩
theorem eX12_leaf_40 : vD cX12_leaf 40 (.iconst 0) 1 41 := ⟨by decide +kernel, rfl⟩
theorem eX12_leaf_41 : vD cX12_leaf 41 (.bipush 15) 2 43 := ⟨by decide +kernel, rfl⟩
theorem eX12_leaf_43 : vD cX12_leaf 43 (.aload_n 0) 1 44 := ⟨by decide +kernel, rfl⟩
theorem eX12_leaf_44 : vD cX12_leaf 44 (.getfield 87) 3 47 := ⟨by decide +kernel, rfl⟩
theorem eX12_leaf_47 : vD cX12_leaf 47 (.iload 4) 2 49 := ⟨by decide +kernel, rfl⟩
theorem eX12_leaf_49 : vD cX12_leaf 49 (.aload_n 0) 1 50 := ⟨by decide +kernel, rfl⟩
theorem eX12_leaf_50 : vD cX12_leaf 50 (.getfield 243) 3 53 := ⟨by decide +kernel, rfl⟩
theorem eX12_leaf_53 : vD cX12_leaf 53 .imul 1 54 := ⟨by decide +kernel, rfl⟩
theorem eX12_leaf_54 : vD cX12_leaf 54 (.invokevirtual 280) 3 57 := ⟨by decide +kernel, rfl⟩
theorem eX12_leaf_57 : vD cX12_leaf 57 (.iinc 4 1) 3 60 := ⟨by decide +kernel, rfl⟩
theorem eX12_leaf_60 : vD cX12_leaf 60 (.goto (-57)) 3 63 := ⟨by decide +kernel, rfl⟩
theorem eX12_leaf_63 : vD cX12_leaf 63 (.aload_n 0) 1 64 := ⟨by decide +kernel, rfl⟩
theorem eX12_leaf_64 : vD cX12_leaf 64 (.iconst 1) 1 65 := ⟨by decide +kernel, rfl⟩
theorem eX12_leaf_65 : vD cX12_leaf 65 (.iload_n 1) 1 66 := ⟨by decide +kernel, rfl⟩
theorem eX12_leaf_66 : vD cX12_leaf 66 (.iconst 0) 1 67 := ⟨by decide +kernel, rfl⟩
theorem eX12_leaf_67 : vD cX12_leaf 67 (.iconst 0) 1 68 := ⟨by decide +kernel, rfl⟩
theorem eX12_leaf_68 : vD cX12_leaf 68 (.invokevirtual 272) 3 71 := ⟨by decide +kernel, rfl⟩
theorem eX12_leaf_71 : vD cX12_leaf 71 (.aload_n 0) 1 72 := ⟨by decide +kernel, rfl⟩
theorem eX12_leaf_72 : vD cX12_leaf 72 (.aload_n 0) 1 73 := ⟨by decide +kernel, rfl⟩
theorem eX12_leaf_73 : vD cX12_leaf 73 (.getfield 87) 3 76 := ⟨by decide +kernel, rfl⟩
theorem eX12_leaf_76 : vD cX12_leaf 76 (.iconst 0) 1 77 := ⟨by decide +kernel, rfl⟩
theorem eX12_leaf_77 : vD cX12_leaf 77 (.aload_n 0) 1 78 := ⟨by decide +kernel, rfl⟩
theorem eX12_leaf_78 : vD cX12_leaf 78 (.getfield 261) 3 81 := ⟨by decide +kernel, rfl⟩
theorem eX12_leaf_81 : vD cX12_leaf 81 (.aload_n 0) 1 82 := ⟨by decide +kernel, rfl⟩
theorem eX12_leaf_82 : vD cX12_leaf 82 (.getfield 243) 3 85 := ⟨by decide +kernel, rfl⟩
theorem eX12_leaf_85 : vD cX12_leaf 85 .imul 1 86 := ⟨by decide +kernel, rfl⟩
theorem eX12_leaf_86 : vD cX12_leaf 86 (.aload_n 2) 1 87 := ⟨by decide +kernel, rfl⟩
theorem eX12_leaf_87 : vD cX12_leaf 87 (.iload_n 3) 1 88 := ⟨by decide +kernel, rfl⟩
theorem eX12_leaf_88 : vD cX12_leaf 88 (.invokevirtual 268) 3 91 := ⟨by decide +kernel, rfl⟩
theorem eX12_leaf_91 : vD cX12_leaf 91 .return_ 1 92 := ⟨by decide +kernel, rfl⟩
theorem eX12_node_0 : vD cX12_node 0 (.iload_n 1) 1 1 := ⟨by decide +kernel, rfl⟩
theorem eX12_node_1 : vD cX12_node 1 (.ifCond .ne 12) 3 4 := ⟨by decide +kernel, rfl⟩
theorem eX12_node_4 : vD cX12_node 4 (.aload_n 0) 1 5 := ⟨by decide +kernel, rfl⟩
theorem eX12_node_5 : vD cX12_node 5 (.iload_n 2) 1 6 := ⟨by decide +kernel, rfl⟩
theorem eX12_node_6 : vD cX12_node 6 (.aload_n 3) 1 7 := ⟨by decide +kernel, rfl⟩
theorem eX12_node_7 : vD cX12_node 7 (.iload 4) 2 9 := ⟨by decide +kernel, rfl⟩
theorem eX12_node_9 : vD cX12_node 9 (.invokevirtual 284) 3 12 := ⟨by decide +kernel, rfl⟩
theorem eX12_node_12 : vD cX12_node 12 .return_ 1 13 := ⟨by decide +kernel, rfl⟩
theorem eX12_node_13 : vD cX12_node 13 (.aload_n 0) 1 14 := ⟨by decide +kernel, rfl⟩
theorem eX12_node_14 : vD cX12_node 14 (.getfield 84) 3 17 := ⟨by decide +kernel, rfl⟩
theorem eX12_node_17 : vD cX12_node 17 (.iload_n 1) 1 18 := ⟨by decide +kernel, rfl⟩
theorem eX12_node_18 : vD cX12_node 18 .aaload 1 19 := ⟨by decide +kernel, rfl⟩
theorem eX12_node_19 : vD cX12_node 19 (.astore 5) 2 21 := ⟨by decide +kernel, rfl⟩
theorem eX12_node_21 : vD cX12_node 21 (.aload_n 0) 1 22 := ⟨by decide +kernel, rfl⟩
theorem eX12_node_22 : vD cX12_node 22 (.iload_n 1) 1 23 := ⟨by decide +kernel, rfl⟩
theorem eX12_node_23 : vD cX12_node 23 (.iconst 1) 1 24 := ⟨by decide +kernel, rfl⟩
theorem eX12_node_24 : vD cX12_node 24 .isub 1 25 := ⟨by decide +kernel, rfl⟩
theorem eX12_node_25 : vD cX12_node 25 (.iconst 2) 1 26 := ⟨by decide +kernel, rfl⟩
theorem eX12_node_26 : vD cX12_node 26 (.iload_n 2) 1 27 := ⟨by decide +kernel, rfl⟩
theorem eX12_node_27 : vD cX12_node 27 .imul 1 28 := ⟨by decide +kernel, rfl⟩
theorem eX12_node_28 : vD cX12_node 28 (.aload 5) 2 30 := ⟨by decide +kernel, rfl⟩
theorem eX12_node_30 : vD cX12_node 30 (.iconst 0) 1 31 := ⟨by decide +kernel, rfl⟩
theorem eX12_node_31 : vD cX12_node 31 (.invokevirtual 288) 3 34 := ⟨by decide +kernel, rfl⟩
theorem eX12_node_34 : vD cX12_node 34 (.aload_n 0) 1 35 := ⟨by decide +kernel, rfl⟩
theorem eX12_node_35 : vD cX12_node 35 (.iload_n 1) 1 36 := ⟨by decide +kernel, rfl⟩
theorem eX12_node_36 : vD cX12_node 36 (.iconst 1) 1 37 := ⟨by decide +kernel, rfl⟩
theorem eX12_node_37 : vD cX12_node 37 .isub 1 38 := ⟨by decide +kernel, rfl⟩
theorem eX12_node_38 : vD cX12_node 38 (.iconst 2) 1 39 := ⟨by decide +kernel, rfl⟩
theorem eX12_node_39 : vD cX12_node 39 (.iload_n 2) 1 40 := ⟨by decide +kernel, rfl⟩
theorem eX12_node_40 : vD cX12_node 40 .imul 1 41 := ⟨by decide +kernel, rfl⟩
theorem eX12_node_41 : vD cX12_node 41 (.iconst 1) 1 42 := ⟨by decide +kernel, rfl⟩
theorem eX12_node_42 : vD cX12_node 42 .iadd 1 43 := ⟨by decide +kernel, rfl⟩
theorem eX12_node_43 : vD cX12_node 43 (.aload 5) 2 45 := ⟨by decide +kernel, rfl⟩
theorem eX12_node_45 : vD cX12_node 45 (.aload_n 0) 1 46 := ⟨by decide +kernel, rfl⟩
theorem eX12_node_46 : vD cX12_node 46 (.getfield 243) 3 49 := ⟨by decide +kernel, rfl⟩
theorem eX12_node_49 : vD cX12_node 49 (.invokevirtual 288) 3 52 := ⟨by decide +kernel, rfl⟩
theorem eX12_node_52 : vD cX12_node 52 (.aload_n 0) 1 53 := ⟨by decide +kernel, rfl⟩
theorem eX12_node_53 : vD cX12_node 53 (.iconst 2) 1 54 := ⟨by decide +kernel, rfl⟩
theorem eX12_node_54 : vD cX12_node 54 (.iconst 0) 1 55 := ⟨by decide +kernel, rfl⟩
theorem eX12_node_55 : vD cX12_node 55 (.iload_n 1) 1 56 := ⟨by decide +kernel, rfl⟩
theorem eX12_node_56 : vD cX12_node 56 (.iload_n 2) 1 57 := ⟨by decide +kernel, rfl⟩
theorem eX12_node_57 : vD cX12_node 57 (.invokevirtual 272) 3 60 := ⟨by decide +kernel, rfl⟩
theorem eX12_node_60 : vD cX12_node 60 (.aload_n 0) 1 61 := ⟨by decide +kernel, rfl⟩
theorem eX12_node_61 : vD cX12_node 61 (.aload 5) 2 63 := ⟨by decide +kernel, rfl⟩
theorem eX12_node_63 : vD cX12_node 63 (.iconst 0) 1 64 := ⟨by decide +kernel, rfl⟩
theorem eX12_node_64 : vD cX12_node 64 (.iconst 2) 1 65 := ⟨by decide +kernel, rfl⟩
theorem eX12_node_65 : vD cX12_node 65 (.aload_n 0) 1 66 := ⟨by decide +kernel, rfl⟩
theorem eX12_node_66 : vD cX12_node 66 (.getfield 243) 3 69 := ⟨by decide +kernel, rfl⟩
theorem eX12_node_69 : vD cX12_node 69 .imul 1 70 := ⟨by decide +kernel, rfl⟩
theorem eX12_node_70 : vD cX12_node 70 (.aload_n 3) 1 71 := ⟨by decide +kernel, rfl⟩
theorem eX12_node_71 : vD cX12_node 71 (.iload 4) 2 73 := ⟨by decide +kernel, rfl⟩
theorem eX12_node_73 : vD cX12_node 73 (.invokevirtual 268) 3 76 := ⟨by decide +kernel, rfl⟩
theorem eX12_node_76 : vD cX12_node 76 .return_ 1 77 := ⟨by decide +kernel, rfl⟩

section M20
variable {G : vG} {B : Nat} {l : Launch} {ad : Nat → Nat} {N : Nat} {θ : tT} {x : Nat → Int32} {σ : nS} {sh : Bool} {nn : Nat} {P H K : List Int32}
set_option maxRecDepth 100000 in
set_option maxHeartbeats 4000000 in
theorem rc_pseudo (I : nI1 ad N) (hN : ∀ k, k < 74 → k < N) (hC : RC G ad θ x sh nn P H K σ) {ty px py pz : Nat} (hY : sl (bt σ 28) 16 16 = tyL (nI ty) (nI px) (nI py) (nI pz)) {ko no : Nat} (hko : rLn ko = no) (ho0 : 0 < no) (hfr : ko ≠ 28 ∧ ko ≠ 37 ∧ ko ≠ 38) (b : Nat) (hb : b + nn ≤ no) : nOk G B l ad N yX12_pseudo cX12_pseudo 3 none 6 0 0 [.ref (ad 49), .ref (ad ko), .int (nI b)] σ (fun r σ' => r = none ∧ RC G ad θ x sh nn P H K σ' ∧ (∀ k, ¬ (13 ≤ k ∧ k ≤ 17 ∨ k = 49 ∨ k = ko) → σ' k = σ k) ∧ bt σ' ko = wr (bt σ ko) b (fF θ sh nn P H ty px py pz K)) := by
  refine vOk.of (by decide +kernel) (Nat.le_of_ble_eq_true rfl) ?_
  intro p e s m args below meth c C
  refine v_eq (lv' := [(0, .ref (ad 49)), (1, .ref (ad ko)), (2, .int (nI b))]) rfl rfl rfl ?_
  have hn := hC.qnn
  refine v_aload_n C eX12_pseudo_0 rfl 0 rfl ?_
  refine v_aload_n C eX12_pseudo_1 rfl 0 rfl ?_
  refine n_get C I fX12_111_X12 eX12_pseudo_2 (hN 49 (by decide)) hC.s.obj rfl ?_
  refine v_iconst (v := (0 : Int32)) C eX12_pseudo_5 (by decide) ?_
  refine v_aload_n C eX12_pseudo_6 rfl 0 rfl ?_
  refine n_get C I fX12_243_X12 eX12_pseudo_7 (hN 49 (by decide)) hC.s.obj rfl ?_
  refine v_aload_n C eX12_pseudo_10 rfl 1 rfl ?_
  refine v_iload_n C eX12_pseudo_11 rfl 2 rfl ?_
  refine n_callV (As := [.ref (ad 38), .int (nI 0), .int (nI nn), .ref (ad ko), .int (nI b)]) (rest := []) C I mX12_268 (rc_hashed I hN hC hY (kx := 38) (nx := 32) rfl (by decide) hko ho0 hfr 0 nn b (by omega) hb) (hN 49 (by decide)) hC.s.obj rfl (by decide) (by decide) ⟨by decide, by decide⟩ rfl (vi_c (rfl : nI b = nI b) (vi_k (vi_c hC.n (vi_c (rfl : (0 : Int32) = nI 0) (vi_k rfl))))) (Nat.le_of_ble_eq_true rfl) eX12_pseudo_12 (fun r σ1 hp => ?_)
  obtain ⟨rfl, hC1, hk1, hv1⟩ := hp
  refine n_vret C rfl eX12_pseudo_15 ⟨rfl, hC1, hk1, ?_⟩
  rw [hv1, hC.qK]

def chL (F : fT) (px py i s : Nat) (d : List Int32) : List Int32 := itN (fun j d => F 0 px py (i + j) d) s d
theorem chL_len {px py i : Nat} {d : List Int32} (hd : d.length = nn) : ∀ s, (chL (fF θ sh nn P H) px py i s d).length = nn
  | 0 => hd
  | _ + 1 => fF_len _ _ _ _ _
set_option maxRecDepth 100000 in
set_option maxHeartbeats 4000000 in
theorem rc_chain (I : nI1 ad N) (hN : ∀ k, k < 74 → k < N) (hC : RC G ad θ x sh nn P H K σ) {ko no : Nat} (hko : rLn ko = no) (ho0 : 0 < no) (hfr : ko ≠ 28 ∧ ko ≠ 37 ∧ ko ≠ 38) (px py i cs b : Nat) (hi : i + cs < 2 ^ 31) (hb : b + nn ≤ no) : nOk G B l ad N yX12_chain cX12_chain 8 none 6 0 0 [.ref (ad 49), .int (nI px), .int (nI py), .int (nI i), .int (nI cs), .ref (ad ko), .int (nI b)] σ (fun r σ' => r = none ∧ RC G ad θ x sh nn P H K σ' ∧ (∀ k, ¬ (13 ≤ k ∧ k ≤ 17 ∨ k = 49 ∨ k = 28 ∨ k = ko) → σ' k = σ k) ∧ bt σ' ko = wr (bt σ ko) b (chL (fF θ sh nn P H) px py i cs (sl (bt σ ko) b nn))) := by
  refine vOk.of (by decide +kernel) (Nat.le_of_ble_eq_true rfl) ?_
  intro p e s m args below meth c C
  refine v_eq (lv' := [(0, .ref (ad 49)), (1, .int (nI px)), (2, .int (nI py)), (3, .int (nI i)), (4, .int (nI cs)), (5, .ref (ad ko)), (6, .int (nI b))]) rfl rfl rfl ?_
  have hn := hC.qnn
  refine v_iload_n C eX12_chain_0 rfl 3 rfl ?_
  refine v_istore (lv' := [(0, .ref (ad 49)), (1, .int (nI px)), (2, .int (nI py)), (3, .int (nI i)), (4, .int (nI cs)), (5, .ref (ad ko)), (6, .int (nI b)), (7, .int (nI i))]) C eX12_chain_1 (by decide) [1, 2, 3, 4, 5, 6, 7, 0] rfl ?_
  refine v_forP (fun j τ => RC G ad θ x sh nn P H K τ ∧ (∀ k, ¬ (13 ≤ k ∧ k ≤ 17 ∨ k = 49 ∨ k = 28 ∨ k = ko) → τ k = σ k) ∧ bt τ ko = wr (bt σ ko) b (chL (fF θ sh nn P H) px py i j (sl (bt σ ko) b nn))) (fun j => [(0, .ref (ad 49)), (1, .int (nI px)), (2, .int (nI py)), (3, .int (nI i)), (4, .int (nI cs)), (5, .ref (ad ko)), (6, .int (nI b)), (7, .int (nI (i + j)))]) cs ?_ ?_ _ ⟨hC, fun k _ => rfl, wr_sl.symm⟩
  · intro τ hI
    obtain ⟨hC1, hk1, hv1⟩ := hI
    refine v_iload C eX12_chain_3 7 rfl ?_
    refine v_iload_n C eX12_chain_5 rfl 3 rfl ?_
    refine v_iload C eX12_chain_6 4 rfl ?_
    refine v_iadd C eX12_chain_8 ?_
    refine v_icmp_ge (tgt := 43) C eX12_chain_9 (by decide) (fun _ => ?_) (fun h => absurd (ix_le (a := i + cs) (b := i + cs) (ix_add (a := i) (b := cs) (rfl : nI i = nI i) (rfl : nI cs = nI cs)) (rfl : nI (i + cs) = nI (i + cs)) (by omega) (by omega) (by omega)) h)
    exact n_vret C rfl eX12_chain_43 ⟨rfl, hC1, hk1, hv1⟩
  · intro j hj ih τ hI
    obtain ⟨hC1, hk1, hv1⟩ := hI
    refine v_iload C eX12_chain_3 7 rfl ?_
    refine v_iload_n C eX12_chain_5 rfl 3 rfl ?_
    refine v_iload C eX12_chain_6 4 rfl ?_
    refine v_iadd C eX12_chain_8 ?_
    refine v_icmp_ge (tgt := 43) C eX12_chain_9 (by decide) (fun h => absurd h (ix_nle (a := i + cs) (b := i + j) (ix_add (a := i) (b := cs) (rfl : nI i = nI i) (rfl : nI cs = nI cs)) (rfl : nI (i + j) = nI (i + j)) (by omega) (by omega) (by omega))) (fun _ => ?_)
    refine v_aload_n C eX12_chain_12 rfl 0 rfl ?_
    refine v_iconst (v := (0 : Int32)) C eX12_chain_13 (by decide) ?_
    refine v_iload_n C eX12_chain_14 rfl 1 rfl ?_
    refine v_iload_n C eX12_chain_15 rfl 2 rfl ?_
    refine v_iload C eX12_chain_16 7 rfl ?_
    refine n_callV (As := [.int (nI 0), .int (nI px), .int (nI py), .int (nI (i + j))]) (rest := []) C I mX12_272 (rc_type I hN hC1 0 px py (i + j)) (hN 49 (by decide)) hC1.s.obj rfl (by decide) (by decide) ⟨by decide, by decide⟩ rfl (vi_c (rfl : nI (i + j) = nI (i + j)) (vi_c (rfl : nI py = nI py) (vi_c (rfl : nI px = nI px) (vi_c (rfl : (0 : Int32) = nI 0) rfl)))) (Nat.le_of_ble_eq_true rfl) eX12_chain_18 (fun r σ2 hp => ?_)
    obtain ⟨rfl, hC2, hk2, hY2⟩ := hp
    refine v_aload_n C eX12_chain_21 rfl 0 rfl ?_
    refine v_aload C eX12_chain_22 5 rfl ?_
    refine v_iload C eX12_chain_24 6 rfl ?_
    refine v_aload_n C eX12_chain_26 rfl 0 rfl ?_
    refine n_get C I fX12_243_X12 eX12_chain_27 (hN 49 (by decide)) hC2.s.obj rfl ?_
    refine v_aload C eX12_chain_30 5 rfl ?_
    refine v_iload C eX12_chain_32 6 rfl ?_
    refine n_callV (As := [.ref (ad ko), .int (nI b), .int (nI nn), .ref (ad ko), .int (nI b)]) (rest := []) C I mX12_268 (rc_hashed I hN hC2 hY2 hko ho0 hko ho0 hfr b nn b hb hb) (hN 49 (by decide)) hC2.s.obj rfl (by decide) (by decide) ⟨by decide, by decide⟩ rfl (vi_c (rfl : nI b = nI b) (vi_k (vi_c hC2.n (vi_c (rfl : nI b = nI b) (vi_k rfl))))) (Nat.le_of_ble_eq_true rfl) eX12_chain_34 (fun r σ3 hp => ?_)
    obtain ⟨rfl, hC3, hk3, hv3⟩ := hp
    refine v_iinc (lv' := [(0, .ref (ad 49)), (1, .int (nI px)), (2, .int (nI py)), (3, .int (nI i)), (4, .int (nI cs)), (5, .ref (ad ko)), (6, .int (nI b)), (7, .int (nI (i + j + 1)))]) C eX12_chain_37 7 rfl (ix_inc _) (by decide) [1, 2, 3, 4, 5, 6, 7, 0] rfl ?_
    refine v_goto (tgt := 3) C eX12_chain_40 (by decide) ?_
    refine ih σ3 ⟨hC3, fun k hk => (hk3 k (by omega)).trans ((hk2 k (by omega)).trans (hk1 k hk)), ?_⟩
    rw [hv3, bt_same (hk2 ko hfr.1), hv1, sl_wr' (chL_len sl_len j), wr_wr ((chL_len sl_len j).trans (fF_len _ _ _ _ _).symm)]
    rfl

/-- a leaf: the ends of all chains -/
def endL (F : fT) (K : List Int32) (i j : Nat) : List Int32 := chL F i j 0 15 (F 5 i j 0 K)
def leafL (F : fT) (K : List Int32) (c i : Nat) : List Int32 := F 1 i 0 0 (cat (endL F K i) c)
theorem endL_len {K : List Int32} {i : Nat} (j : Nat) : (endL (fF θ sh nn P H) K i j).length = nn := chL_len (fF_len _ _ _ _ _) 15
set_option maxRecDepth 100000 in
set_option maxHeartbeats 4000000 in
theorem rc_leaf (I : nI1 ad N) (hN : ∀ k, k < 74 → k < N) (hC : RC G ad θ x sh nn P H K σ) (h47 : x 47 = nI (2 * nn + 3)) {ko no : Nat} (hko : rLn ko = no) (ho0 : 0 < no) (hfr : ko ≠ 28 ∧ ko ≠ 37 ∧ ko ≠ 38) (hk30 : ko ≠ 30) (i b : Nat) (hb : b + nn ≤ no) : nOk G B l ad N yX12_leaf cX12_leaf 5 none 7 0 0 [.ref (ad 49), .int (nI i), .ref (ad ko), .int (nI b)] σ (fun r σ' => r = none ∧ RC G ad θ x sh nn P H K σ' ∧ (∀ k, ¬ (13 ≤ k ∧ k ≤ 17 ∨ k = 49 ∨ k = 28 ∨ k = 30 ∨ k = ko) → σ' k = σ k) ∧ bt σ' ko = wr (bt σ ko) b (leafL (fF θ sh nn P H) K (2 * nn + 3) i)) := by
  refine vOk.of (by decide +kernel) (Nat.le_of_ble_eq_true rfl) ?_
  intro p e s m args below meth c C
  refine v_eq (lv' := [(0, .ref (ad 49)), (1, .int (nI i)), (2, .ref (ad ko)), (3, .int (nI b))]) rfl rfl rfl ?_
  have hn := hC.qnn
  refine v_iconst (v := nI 0) C eX12_leaf_0 (by decide) ?_
  refine v_istore (lv' := [(0, .ref (ad 49)), (1, .int (nI i)), (2, .ref (ad ko)), (3, .int (nI b)), (4, .int (nI 0))]) C eX12_leaf_1 (by decide) [1, 2, 3, 4, 0] rfl ?_
  refine v_forP (fun j τ => RC G ad θ x sh nn P H K τ ∧ (∀ k, ¬ (13 ≤ k ∧ k ≤ 17 ∨ k = 49 ∨ k = 28 ∨ k = 30) → τ k = σ k) ∧ bt τ 30 = wr (bt σ 30) 0 (cat (endL (fF θ sh nn P H) K i) j)) (fun j => [(0, .ref (ad 49)), (1, .int (nI i)), (2, .ref (ad ko)), (3, .int (nI b)), (4, .int (nI j))]) (2 * nn + 3) ?_ ?_ _ ⟨hC, fun k _ => rfl, wr_nil.symm⟩
  · intro τ hI
    obtain ⟨hC1, hk1, hv1⟩ := hI
    refine v_iload C eX12_leaf_3 4 rfl ?_
    refine v_aload_n C eX12_leaf_5 rfl 0 rfl ?_
    refine n_get C I fX12_261_X12 eX12_leaf_6 (hN 49 (by decide)) hC1.s.obj rfl ?_
    refine v_icmp_ge (tgt := 63) C eX12_leaf_9 (by decide) (fun _ => ?_) (fun h => absurd (ix_le (a := 2 * nn + 3) (b := 2 * nn + 3) (hC1.s.i47.trans h47) (rfl : nI (2 * nn + 3) = nI (2 * nn + 3)) (by omega) (by omega) (by omega)) h)
    refine v_aload_n C eX12_leaf_63 rfl 0 rfl ?_
    refine v_iconst (v := (1 : Int32)) C eX12_leaf_64 (by decide) ?_
    refine v_iload_n C eX12_leaf_65 rfl 1 rfl ?_
    refine v_iconst (v := (0 : Int32)) C eX12_leaf_66 (by decide) ?_
    refine v_iconst (v := (0 : Int32)) C eX12_leaf_67 (by decide) ?_
    refine n_callV (As := [.int (nI 1), .int (nI i), .int (nI 0), .int (nI 0)]) (rest := []) C I mX12_272 (rc_type I hN hC1 1 i 0 0) (hN 49 (by decide)) hC1.s.obj rfl (by decide) (by decide) ⟨by decide, by decide⟩ rfl (vi_c (rfl : (0 : Int32) = nI 0) (vi_c (rfl : (0 : Int32) = nI 0) (vi_c (rfl : nI i = nI i) (vi_c (rfl : (1 : Int32) = nI 1) rfl)))) (Nat.le_of_ble_eq_true rfl) eX12_leaf_68 (fun r σ2 hp => ?_)
    obtain ⟨rfl, hC2, hk2, hY2⟩ := hp
    refine v_aload_n C eX12_leaf_71 rfl 0 rfl ?_
    refine v_aload_n C eX12_leaf_72 rfl 0 rfl ?_
    refine n_get C I fX12_87_X12 eX12_leaf_73 (hN 49 (by decide)) hC2.s.obj rfl ?_
    refine v_iconst (v := (0 : Int32)) C eX12_leaf_76 (by decide) ?_
    refine v_aload_n C eX12_leaf_77 rfl 0 rfl ?_
    refine n_get C I fX12_261_X12 eX12_leaf_78 (hN 49 (by decide)) hC2.s.obj rfl ?_
    refine v_aload_n C eX12_leaf_81 rfl 0 rfl ?_
    refine n_get C I fX12_243_X12 eX12_leaf_82 (hN 49 (by decide)) hC2.s.obj rfl ?_
    refine v_imul C eX12_leaf_85 ?_
    refine v_aload_n C eX12_leaf_86 rfl 2 rfl ?_
    refine v_iload_n C eX12_leaf_87 rfl 3 rfl ?_
    refine n_callV (As := [.ref (ad 30), .int (nI 0), .int (nI ((2 * nn + 3) * nn)), .ref (ad ko), .int (nI b)]) (rest := []) C I mX12_268 (rc_hashed I hN hC2 hY2 (kx := 30) (nx := 2144) rfl (by decide) hko ho0 hfr 0 ((2 * nn + 3) * nn) b (by rcases hn with h | h | h <;> subst h <;> decide) hb) (hN 49 (by decide)) hC2.s.obj rfl (by decide) (by decide) ⟨by decide, by decide⟩ rfl (vi_c (rfl : nI b = nI b) (vi_k (vi_c (ix_mul (a := 2 * nn + 3) (b := nn) (hC2.s.i47.trans h47) hC2.n) (vi_c (rfl : (0 : Int32) = nI 0) (vi_k rfl))))) (Nat.le_of_ble_eq_true rfl) eX12_leaf_88 (fun r σ3 hp => ?_)
    obtain ⟨rfl, hC3, hk3, hv3⟩ := hp
    refine n_vret C rfl eX12_leaf_91 ⟨rfl, hC3, fun k hk => (hk3 k (by omega)).trans ((hk2 k (by omega)).trans (hk1 k (by omega))), ?_⟩
    rw [hv3, bt_same (hk2 30 (by decide)), hv1, sl_wr' (cat_len endL_len _), bt_same (hk2 ko hfr.1), bt_same (hk1 ko (by have := rLn_h (k := ko) (by omega); omega))]
    rfl
  · intro j hj ih τ hI
    obtain ⟨hC1, hk1, hv1⟩ := hI
    refine v_iload C eX12_leaf_3 4 rfl ?_
    refine v_aload_n C eX12_leaf_5 rfl 0 rfl ?_
    refine n_get C I fX12_261_X12 eX12_leaf_6 (hN 49 (by decide)) hC1.s.obj rfl ?_
    refine v_icmp_ge (tgt := 63) C eX12_leaf_9 (by decide) (fun h => absurd h (ix_nle (a := 2 * nn + 3) (b := j) (hC1.s.i47.trans h47) (rfl : nI j = nI j) (by omega) (by omega) (by omega))) (fun _ => ?_)
    refine v_aload_n C eX12_leaf_12 rfl 0 rfl ?_
    refine v_iconst (v := (5 : Int32)) C eX12_leaf_13 (by decide) ?_
    refine v_iload_n C eX12_leaf_14 rfl 1 rfl ?_
    refine v_iload C eX12_leaf_15 4 rfl ?_
    refine v_iconst (v := (0 : Int32)) C eX12_leaf_17 (by decide) ?_
    have hjn : j * nn + nn ≤ 2144 := by rcases hn with h | h | h <;> subst h <;> omega
    refine n_callV (As := [.int (nI 5), .int (nI i), .int (nI j), .int (nI 0)]) (rest := []) C I mX12_272 (rc_type I hN hC1 5 i j 0) (hN 49 (by decide)) hC1.s.obj rfl (by decide) (by decide) ⟨by decide, by decide⟩ rfl (vi_c (rfl : (0 : Int32) = nI 0) (vi_c (rfl : nI j = nI j) (vi_c (rfl : nI i = nI i) (vi_c (rfl : (5 : Int32) = nI 5) rfl)))) (Nat.le_of_ble_eq_true rfl) eX12_leaf_18 (fun r σ2 hp => ?_)
    obtain ⟨rfl, hC2, hk2, hY2⟩ := hp
    refine v_aload_n C eX12_leaf_21 rfl 0 rfl ?_
    refine v_aload_n C eX12_leaf_22 rfl 0 rfl ?_
    refine n_get C I fX12_87_X12 eX12_leaf_23 (hN 49 (by decide)) hC2.s.obj rfl ?_
    refine v_iload C eX12_leaf_26 4 rfl ?_
    refine v_aload_n C eX12_leaf_28 rfl 0 rfl ?_
    refine n_get C I fX12_243_X12 eX12_leaf_29 (hN 49 (by decide)) hC2.s.obj rfl ?_
    refine v_imul C eX12_leaf_32 ?_
    refine n_callV (As := [.ref (ad 30), .int (nI (j * nn))]) (rest := []) C I mX12_276 (rc_pseudo I hN hC2 hY2 (ko := 30) (no := 2144) rfl (by decide) (by decide) (j * nn) hjn) (hN 49 (by decide)) hC2.s.obj rfl (by decide) (by decide) ⟨by decide, by decide⟩ rfl (vi_c (ix_mul (a := j) (b := nn) (rfl : nI j = nI j) hC2.n) (vi_k rfl)) (Nat.le_of_ble_eq_true rfl) eX12_leaf_33 (fun r σ3 hp => ?_)
    obtain ⟨rfl, hC3, hk3, hv3⟩ := hp
    refine v_aload_n C eX12_leaf_36 rfl 0 rfl ?_
    refine v_iload_n C eX12_leaf_37 rfl 1 rfl ?_
    refine v_iload C eX12_leaf_38 4 rfl ?_
    refine v_iconst (v := (0 : Int32)) C eX12_leaf_40 (by decide) ?_
    refine v_bipush (v := (15 : Int32)) C eX12_leaf_41 (by decide) ?_
    refine v_aload_n C eX12_leaf_43 rfl 0 rfl ?_
    refine n_get C I fX12_87_X12 eX12_leaf_44 (hN 49 (by decide)) hC3.s.obj rfl ?_
    refine v_iload C eX12_leaf_47 4 rfl ?_
    refine v_aload_n C eX12_leaf_49 rfl 0 rfl ?_
    refine n_get C I fX12_243_X12 eX12_leaf_50 (hN 49 (by decide)) hC3.s.obj rfl ?_
    refine v_imul C eX12_leaf_53 ?_
    refine n_callV (As := [.int (nI i), .int (nI j), .int (nI 0), .int (nI 15), .ref (ad 30), .int (nI (j * nn))]) (rest := []) C I mX12_280 (rc_chain I hN hC3 (ko := 30) (no := 2144) rfl (by decide) (by decide) i j 0 15 (j * nn) (by decide) hjn) (hN 49 (by decide)) hC3.s.obj rfl (by decide) (by decide) ⟨by decide, by decide⟩ rfl (vi_c (ix_mul (a := j) (b := nn) (rfl : nI j = nI j) hC3.n) (vi_k (vi_c (rfl : (15 : Int32) = nI 15) (vi_c (rfl : (0 : Int32) = nI 0) (vi_c (rfl : nI j = nI j) (vi_c (rfl : nI i = nI i) rfl)))))) (Nat.le_of_ble_eq_true rfl) eX12_leaf_54 (fun r σ4 hp => ?_)
    obtain ⟨rfl, hC4, hk4, hv4⟩ := hp
    refine v_iinc (lv' := [(0, .ref (ad 49)), (1, .int (nI i)), (2, .ref (ad ko)), (3, .int (nI b)), (4, .int (nI (j + 1)))]) C eX12_leaf_57 4 rfl (ix_inc _) (by decide) [1, 2, 3, 4, 0] rfl ?_
    refine v_goto (tgt := 3) C eX12_leaf_60 (by decide) ?_
    refine ih σ4 ⟨hC4, fun k hk => (hk4 k (by omega)).trans ((hk3 k (by omega)).trans ((hk2 k (by omega)).trans (hk1 k hk))), ?_⟩
    rw [hv4, hv3, sl_wr' (fF_len _ _ _ _ _), wr_wr ((fF_len _ _ _ _ _).trans (chL_len (fF_len _ _ _ _ _) 15).symm), bt_same (hk2 30 (by decide)), hv1, wr_app (by rw [cat_len endL_len]; omega)]
    rfl

def nodeL (F : fT) (K : List Int32) (c : Nat) : Nat → Nat → List Int32
  | 0, i => leafL F K c i
  | z + 1, i => F 2 0 (z + 1) i (nodeL F K c z (2 * i) ++ nodeL F K c z (2 * i + 1))
theorem nodeL_len {K : List Int32} {c : Nat} : ∀ z i, (nodeL (fF θ sh nn P H) K c z i).length = nn
  | 0, _ => fF_len _ _ _ _ _
  | _ + 1, _ => fF_len _ _ _ _ _
set_option maxRecDepth 100000 in
set_option maxHeartbeats 4000000 in
theorem rc_node0 (I : nI1 ad N) (hN : ∀ k, k < 74 → k < N) (hC : RC G ad θ x sh nn P H K σ) (h47 : x 47 = nI (2 * nn + 3)) {ko no : Nat} (hko : rLn ko = no) (ho0 : 0 < no) (hfr : ko ≠ 28 ∧ ko ≠ 37 ∧ ko ≠ 38) (hk30 : ko ≠ 30) (i b : Nat) (hb : b + nn ≤ no) : nOk G B l ad N yX12_node cX12_node 6 none 8 0 0 [.ref (ad 49), .int (nI 0), .int (nI i), .ref (ad ko), .int (nI b)] σ (fun r σ' => r = none ∧ RC G ad θ x sh nn P H K σ' ∧ (∀ k, ¬ (13 ≤ k ∧ k ≤ 17 ∨ k = 49 ∨ k = 28 ∨ k = 30 ∨ (58 < k ∧ k ≤ 58 + 0) ∨ k = ko) → σ' k = σ k) ∧ bt σ' ko = wr (bt σ ko) b (nodeL (fF θ sh nn P H) K (2 * nn + 3) 0 i)) := by
  refine vOk.of (by decide +kernel) (Nat.le_of_ble_eq_true rfl) ?_
  intro p e s m args below meth c C
  refine v_eq (lv' := [(0, .ref (ad 49)), (1, .int (nI 0)), (2, .int (nI i)), (3, .ref (ad ko)), (4, .int (nI b))]) rfl rfl rfl ?_
  refine v_iload_n C eX12_node_0 rfl 1 rfl ?_
  refine v_if_ne (tgt := 13) C eX12_node_1 (by decide) (fun h => absurd (ix_eq (a := 0) (b := 0) (rfl : nI 0 = nI 0) (rfl : (0 : Int32) = nI 0) (by omega) (by omega) (by omega)) h) (fun _ => ?_)
  refine v_aload_n C eX12_node_4 rfl 0 rfl ?_
  refine v_iload_n C eX12_node_5 rfl 2 rfl ?_
  refine v_aload_n C eX12_node_6 rfl 3 rfl ?_
  refine v_iload C eX12_node_7 4 rfl ?_
  refine n_callV (As := [.int (nI i), .ref (ad ko), .int (nI b)]) (rest := []) C I mX12_284 (rc_leaf I hN hC h47 hko ho0 hfr hk30 i b hb) (hN 49 (by decide)) hC.s.obj rfl (by decide) (by decide) ⟨by decide, by decide⟩ rfl (vi_c (rfl : nI b = nI b) (vi_k (vi_c (rfl : nI i = nI i) rfl))) (Nat.le_of_ble_eq_true rfl) eX12_node_9 (fun r σ1 hp => ?_)
  obtain ⟨rfl, hC1, hk1, hv1⟩ := hp
  exact n_vret C rfl eX12_node_12 ⟨rfl, hC1, fun k hk => hk1 k (by omega), hv1⟩

set_option maxRecDepth 100000 in
set_option maxHeartbeats 4000000 in
theorem rc_node1 (I : nI1 ad N) (hN : ∀ k, k < 74 → k < N) {z : Nat} (ih : ∀ {σ : nS}, RC G ad θ x sh nn P H K σ → x 47 = nI (2 * nn + 3) → ∀ {ko no : Nat}, rLn ko = no → 0 < no → (ko ≠ 28 ∧ ko ≠ 37 ∧ ko ≠ 38) → ko ≠ 30 → (ko < 58 ∨ 58 + z < ko) → ∀ (i b : Nat), (i + 1) * 2 ^ z ≤ 2 ^ 30 → b + nn ≤ no → nOk G B l ad N yX12_node cX12_node 6 none (8 + z) 0 0 [.ref (ad 49), .int (nI z), .int (nI i), .ref (ad ko), .int (nI b)] σ (fun r σ' => r = none ∧ RC G ad θ x sh nn P H K σ' ∧ (∀ k, ¬ (13 ≤ k ∧ k ≤ 17 ∨ k = 49 ∨ k = 28 ∨ k = 30 ∨ (58 < k ∧ k ≤ 58 + z) ∨ k = ko) → σ' k = σ k) ∧ bt σ' ko = wr (bt σ ko) b (nodeL (fF θ sh nn P H) K (2 * nn + 3) z i))) (hC : RC G ad θ x sh nn P H K σ) (h47 : x 47 = nI (2 * nn + 3)) {ko no : Nat} (hko : rLn ko = no) (ho0 : 0 < no) (hfr : ko ≠ 28 ∧ ko ≠ 37 ∧ ko ≠ 38) (hk30 : ko ≠ 30) (hkp : ko < 58 ∨ 58 + (z + 1) < ko) (hz : z + 1 < 16) (i b : Nat) (hi : (i + 1) * 2 ^ (z + 1) ≤ 2 ^ 30) (hb : b + nn ≤ no) : nOk G B l ad N yX12_node cX12_node 6 none (8 + (z + 1)) 0 0 [.ref (ad 49), .int (nI (z + 1)), .int (nI i), .ref (ad ko), .int (nI b)] σ (fun r σ' => r = none ∧ RC G ad θ x sh nn P H K σ' ∧ (∀ k, ¬ (13 ≤ k ∧ k ≤ 17 ∨ k = 49 ∨ k = 28 ∨ k = 30 ∨ (58 < k ∧ k ≤ 58 + (z + 1)) ∨ k = ko) → σ' k = σ k) ∧ bt σ' ko = wr (bt σ ko) b (nodeL (fF θ sh nn P H) K (2 * nn + 3) (z + 1) i)) := by
  refine vOk.of (by decide +kernel) (Nat.le_of_ble_eq_true rfl) ?_
  intro p e s m args below meth c C
  refine v_eq (lv' := [(0, .ref (ad 49)), (1, .int (nI (z + 1))), (2, .int (nI i)), (3, .ref (ad ko)), (4, .int (nI b))]) rfl rfl rfl ?_
  have hn := hC.qnn
  have hp0 : rLn (58 + (z + 1)) = 64 := rLn_pair (z + 1) (by omega)
  have hA : (2 * i + 1 + 1) * 2 ^ z ≤ 2 ^ 30 := by rw [show 2 * i + 1 + 1 = (i + 1) * 2 by omega, Nat.mul_assoc, Nat.mul_comm 2, ← Nat.pow_succ]; exact hi
  have hB : (2 * i + 1) * 2 ^ z ≤ 2 ^ 30 := Nat.le_trans (Nat.mul_le_mul_right _ (by omega)) hA
  have hi3 : i + 1 ≤ 2 ^ 30 := Nat.le_trans (Nat.le_mul_of_pos_right (i + 1) (Nat.two_pow_pos (z + 1))) hi
  refine v_iload_n C eX12_node_0 rfl 1 rfl ?_
  refine v_if_ne (tgt := 13) C eX12_node_1 (by decide) (fun _ => ?_) (fun h => absurd h (ix_ne (a := z + 1) (b := 0) (rfl : nI (z + 1) = nI (z + 1)) (rfl : (0 : Int32) = nI 0) (by omega) (by omega) (by omega)))
  refine v_aload_n C eX12_node_13 rfl 0 rfl ?_
  refine n_get C I fX12_84_X12 eX12_node_14 (hN 49 (by decide)) hC.s.obj rfl ?_
  refine v_iload_n C eX12_node_17 rfl 1 rfl ?_
  refine n_aald (b := ad (58 + (z + 1))) C I eX12_node_18 (hN 29 (by decide)) hC.s.pair (z + 1) (rfl : nI (z + 1) = nI (z + 1)) (by omega) (by decide) (eRf_at (by omega)) ?_
  refine v_astore (lv' := [(0, .ref (ad 49)), (1, .int (nI (z + 1))), (2, .int (nI i)), (3, .ref (ad ko)), (4, .int (nI b)), (5, .ref (ad (58 + (z + 1))))]) C eX12_node_19 (by decide) [1, 2, 3, 4, 5, 0] rfl ?_
  refine v_aload_n C eX12_node_21 rfl 0 rfl ?_
  refine v_iload_n C eX12_node_22 rfl 1 rfl ?_
  refine v_iconst (v := (1 : Int32)) C eX12_node_23 (by decide) ?_
  refine v_isub C eX12_node_24 ?_
  refine v_iconst (v := (2 : Int32)) C eX12_node_25 (by decide) ?_
  refine v_iload_n C eX12_node_26 rfl 2 rfl ?_
  refine v_imul C eX12_node_27 ?_
  refine v_aload C eX12_node_28 5 rfl ?_
  refine v_iconst (v := (0 : Int32)) C eX12_node_30 (by decide) ?_
  refine n_callV (As := [.int (nI ((z + 1) - 1)), .int (nI (2 * i)), .ref (ad (58 + (z + 1))), .int (nI 0)]) (rest := []) C I mX12_288 (ih hC h47 (ko := 58 + (z + 1)) (no := 64) hp0 (by decide) (by omega) (by omega) (by omega) (2 * i) 0 hB (by omega)) (hN 49 (by decide)) hC.s.obj rfl (by omega) (by decide) ⟨by decide, by decide⟩ rfl (vi_c (rfl : (0 : Int32) = nI 0) (vi_k (vi_c (ix_mul (a := 2) (b := i) (rfl : (2 : Int32) = nI 2) (rfl : nI i = nI i)) (vi_c (ix_sub (a := z + 1) (b := 1) (rfl : nI (z + 1) = nI (z + 1)) (rfl : (1 : Int32) = nI 1) (by omega)) rfl)))) (Nat.le_of_ble_eq_true rfl) eX12_node_31 (fun r σ1 hp => ?_)
  obtain ⟨rfl, hC1, hk1, hv1⟩ := hp
  refine v_aload_n C eX12_node_34 rfl 0 rfl ?_
  refine v_iload_n C eX12_node_35 rfl 1 rfl ?_
  refine v_iconst (v := (1 : Int32)) C eX12_node_36 (by decide) ?_
  refine v_isub C eX12_node_37 ?_
  refine v_iconst (v := (2 : Int32)) C eX12_node_38 (by decide) ?_
  refine v_iload_n C eX12_node_39 rfl 2 rfl ?_
  refine v_imul C eX12_node_40 ?_
  refine v_iconst (v := (1 : Int32)) C eX12_node_41 (by decide) ?_
  refine v_iadd C eX12_node_42 ?_
  refine v_aload C eX12_node_43 5 rfl ?_
  refine v_aload_n C eX12_node_45 rfl 0 rfl ?_
  refine n_get C I fX12_243_X12 eX12_node_46 (hN 49 (by decide)) hC1.s.obj rfl ?_
  refine n_callV (As := [.int (nI ((z + 1) - 1)), .int (nI ((2 * i) + 1)), .ref (ad (58 + (z + 1))), .int (nI nn)]) (rest := []) C I mX12_288 (ih hC1 h47 (ko := 58 + (z + 1)) (no := 64) hp0 (by decide) (by omega) (by omega) (by omega) (2 * i + 1) nn hA (by omega)) (hN 49 (by decide)) hC1.s.obj rfl (by omega) (by decide) ⟨by decide, by decide⟩ rfl (vi_c hC1.n (vi_k (vi_c (ix_add (a := 2 * i) (b := 1) (ix_mul (a := 2) (b := i) (rfl : (2 : Int32) = nI 2) (rfl : nI i = nI i)) (rfl : (1 : Int32) = nI 1)) (vi_c (ix_sub (a := z + 1) (b := 1) (rfl : nI (z + 1) = nI (z + 1)) (rfl : (1 : Int32) = nI 1) (by omega)) rfl)))) (Nat.le_of_ble_eq_true rfl) eX12_node_49 (fun r σ2 hp => ?_)
  obtain ⟨rfl, hC2, hk2, hv2⟩ := hp
  refine v_aload_n C eX12_node_52 rfl 0 rfl ?_
  refine v_iconst (v := (2 : Int32)) C eX12_node_53 (by decide) ?_
  refine v_iconst (v := (0 : Int32)) C eX12_node_54 (by decide) ?_
  refine v_iload_n C eX12_node_55 rfl 1 rfl ?_
  refine v_iload_n C eX12_node_56 rfl 2 rfl ?_
  refine n_callV (As := [.int (nI 2), .int (nI 0), .int (nI (z + 1)), .int (nI i)]) (rest := []) C I mX12_272 (rc_type I hN hC2 2 0 (z + 1) i) (hN 49 (by decide)) hC2.s.obj rfl (by omega) (by decide) ⟨by decide, by decide⟩ rfl (vi_c (rfl : nI i = nI i) (vi_c (rfl : nI (z + 1) = nI (z + 1)) (vi_c (rfl : (0 : Int32) = nI 0) (vi_c (rfl : (2 : Int32) = nI 2) rfl)))) (Nat.le_of_ble_eq_true rfl) eX12_node_57 (fun r σ3 hp => ?_)
  obtain ⟨rfl, hC3, hk3, hY3⟩ := hp
  refine v_aload_n C eX12_node_60 rfl 0 rfl ?_
  refine v_aload C eX12_node_61 5 rfl ?_
  refine v_iconst (v := (0 : Int32)) C eX12_node_63 (by decide) ?_
  refine v_iconst (v := (2 : Int32)) C eX12_node_64 (by decide) ?_
  refine v_aload_n C eX12_node_65 rfl 0 rfl ?_
  refine n_get C I fX12_243_X12 eX12_node_66 (hN 49 (by decide)) hC3.s.obj rfl ?_
  refine v_imul C eX12_node_69 ?_
  refine v_aload_n C eX12_node_70 rfl 3 rfl ?_
  refine v_iload C eX12_node_71 4 rfl ?_
  refine n_callV (As := [.ref (ad (58 + (z + 1))), .int (nI 0), .int (nI (2 * nn)), .ref (ad ko), .int (nI b)]) (rest := []) C I mX12_268 (rc_hashed I hN hC3 hY3 hp0 (by decide) hko ho0 hfr 0 (2 * nn) b (by omega) hb) (hN 49 (by decide)) hC3.s.obj rfl (by omega) (by decide) ⟨by decide, by decide⟩ rfl (vi_c (rfl : nI b = nI b) (vi_k (vi_c (ix_mul (a := 2) (b := nn) (rfl : (2 : Int32) = nI 2) hC3.n) (vi_c (rfl : (0 : Int32) = nI 0) (vi_k rfl))))) (Nat.le_of_ble_eq_true rfl) eX12_node_73 (fun r σ4 hp => ?_)
  obtain ⟨rfl, hC4, hk4, hv4⟩ := hp
  refine n_vret C rfl eX12_node_76 ⟨rfl, hC4, fun k hk => (hk4 k (by omega)).trans ((hk3 k (by omega)).trans ((hk2 k (by omega)).trans (hk1 k (by omega)))), ?_⟩
  have hko2 := rLn_h (k := ko) (by omega)
  rw [hv4, bt_same (hk3 ko hfr.1), bt_same (hk2 ko (by omega)), bt_same (hk1 ko (by omega)), bt_same (hk3 (58 + (z + 1)) (by omega)), hv2, hv1, wr_app (by rw [nodeL_len]; omega), sl_wr' (by rw [List.length_append, nodeL_len, nodeL_len]; omega)]
  rfl

theorem rc_node (I : nI1 ad N) (hN : ∀ k, k < 74 → k < N) (h47 : x 47 = nI (2 * nn + 3)) : ∀ (z : Nat), z < 16 → ∀ {σ : nS}, RC G ad θ x sh nn P H K σ → ∀ {ko no : Nat}, rLn ko = no → 0 < no → (ko ≠ 28 ∧ ko ≠ 37 ∧ ko ≠ 38) → ko ≠ 30 → (ko < 58 ∨ 58 + z < ko) → ∀ (i b : Nat), (i + 1) * 2 ^ z ≤ 2 ^ 30 → b + nn ≤ no → nOk G B l ad N yX12_node cX12_node 6 none (8 + z) 0 0 [.ref (ad 49), .int (nI z), .int (nI i), .ref (ad ko), .int (nI b)] σ (fun r σ' => r = none ∧ RC G ad θ x sh nn P H K σ' ∧ (∀ k, ¬ (13 ≤ k ∧ k ≤ 17 ∨ k = 49 ∨ k = 28 ∨ k = 30 ∨ (58 < k ∧ k ≤ 58 + z) ∨ k = ko) → σ' k = σ k) ∧ bt σ' ko = wr (bt σ ko) b (nodeL (fF θ sh nn P H) K (2 * nn + 3) z i))
  | 0, _, _, hC, _, _, hko, ho0, hfr, hk30, _, i, b, _, hb => rc_node0 I hN hC h47 hko ho0 hfr hk30 i b hb
  | z + 1, hz, _, hC, _, _, hko, ho0, hfr, hk30, hkp, i, b, hi, hb => rc_node1 I hN (fun hC h47 _ _ h1 h2 h3 h4 h5 i b h6 h7 => rc_node I hN h47 z (by omega) hC h1 h2 h3 h4 h5 i b h6 h7) hC h47 hko ho0 hfr hk30 hkp hz i b hi hb
end M20
