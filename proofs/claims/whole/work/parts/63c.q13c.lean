/-! ===== pure: method by method: ask: what holds behind it ===== -/
theorem INV_tr {xs : Nat → Int32} {h h' : mMem} (f : Fr (fun a i => aQ a i ∨ aM a i) h h') (n6 : I6 h') (k : INV xs h) : INV xs h' := by
  obtain ⟨k0, k1, k2, k3, k4, k5, k6⟩ := k
  refine ⟨I0_fr (fun a i x => f a i ?_) k0, I1_fr (fun a i x => f a i ?_) k1, I2_fr (fun a i x => f a i ?_) k2, I3_fr (fun a i x => f a i ?_) k3, I4_fr (fun a i x => f a i ?_) k4, I5_fr (fun a i x => f a i ?_) k5, n6⟩
  · unfold aQ aM; omega
  · unfold r1 at x; unfold aQ aM; omega
  · unfold r2 at x; unfold aQ aM; omega
  · unfold r3 at x; unfold aQ aM; omega
  · unfold r4 ar hs at x; unfold aQ aM; omega
  · unfold r5 at x; unfold aQ aM; omega
theorem abd_l (s q : Nat) : (abd s q).length ≤ 16 := by
  unfold abd
  repeat' split
  all_goals decide
theorem ng0 (x : Int32) : nI 0 - x = -x := by rw [nI_0, Int32.zero_sub]
