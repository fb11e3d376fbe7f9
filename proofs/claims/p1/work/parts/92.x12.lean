section RI2
variable {G : vG} {B : Nat} {l : Launch}
set_option maxRecDepth 100000 in
set_option maxHeartbeats 8000000 in
theorem k_X12 {o : Nat} {Lc : List (Nat × va_E)} (hF : lF (fun _ => none) Lc) (h0 : lB (fun _ => none) Lc o = none) (hlc : Lc.length = 27) : vOk G B l yX12_init cX12_init 1 none 9 59 662091 [.ref o] (vUp (lB (fun _ => none) Lc) o (eO 9 zX12)) (fun r w' => r = none ∧ ∃ (ad : Nat → Nat) (σ : nS), w' = nW ad 86 σ ∧ nI1 ad 86 ∧ RA G ad θc (fun _ => []) [] 0 σ ∧ ad 49 = o ∧ ∀ k, k < 12 → (ad (74 + k), σ (74 + k)) = lK Lc (([0, 26, 25, 24, 23, 22, 21, 20, 19, 18, 17, 16] : List Nat).getD k 0)) := by
  sorry
end RI2
