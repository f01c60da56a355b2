/-! ===== pure: method by method: house ===== -/
theorem q_house {d L : Nat} {xs : Nat → Int32} {h : mMem} (k : INV xs h) : Eqm (d + 9) M_X7_house M_X8_house [] L xs h := by
  obtain ⟨k0, k1, k2, k3, k4, k5, k6⟩ := id k
  obtain ⟨N, hN, n1, n2, nb⟩ := k2
  obtain ⟨b, hb⟩ : ∃ b : Nat → Nat, ∀ i, i < N → b i < 256 ∧ h 18 i = nI (b i) ∧ h 112 i = nI (b i) := by
    refine ⟨fun i => (h 18 i).toNatClampNeg, fun i hi => ?_⟩
    obtain ⟨v, hv, a1, a2⟩ := nb i hi
    have e : (h 18 i).toNatClampNeg = v := by rw [a1]; exact nI_clamp (by omega)
    dsimp only
    rw [e]
    exact ⟨hv, a1, a2⟩
  have tp : TP h N b := ⟨hN, n1, fun i hi => ⟨(hb i hi).1, (hb i hi).2.1⟩⟩
  obtain ⟨g1, ⟨⟨t1, p1⟩, f1⟩, e1⟩ := p_readHouse (d := d + 3) (L := L) tp
  obtain ⟨g2, eg2⟩ : ∃ g2, up2 g1 17 1 (nI 0) = g2 := ⟨_, rfl⟩
  have o2 : ∀ a i, ¬ (aH a i ∨ (a = 17 ∧ i = 1)) → g2 a i = h a i := fun a i hn => by
    rw [← eg2, up2_n (fun e => hn (Or.inr e)), f1 a i (fun e => hn (Or.inl e))]
  have t22 : g2 17 2 = nI (told N b).1.1 := by rw [← eg2, up2_n (by omega)]; exact t1.1
  have t23 : g2 17 3 = nI (told N b).1.2 := by rw [← eg2, up2_n (by omega)]; exact t1.2
  have p2 : PR g2 (told N b).2 := PR_fr (fun a i hh => by unfold hs at hh; rw [← eg2, up2_n (by omega)]) p1
  have tr := told_r N b
  have tw' := told_w N b
  obtain ⟨w, ew⟩ : ∃ w, told N b = w := ⟨_, rfl⟩
  have pr := fun (g : mMem) (k : MT g N b) => p_reads (d := d + 3) (L := L) k
  rw [ew] at t22 t23 p2 tr tw' pr
  have z := f_eq0 (show w.1.2 < 2147483648 by have := tr.1.2; omega)
  have tw1 := tr.1.1
  by_cases h0 : w.1.2 = 0
  rotate_left
  · obtain ⟨h1, eh1⟩ : ∃ h1, up2 g2 4 8 (nI w.1.2) = h1 := ⟨_, rfl⟩
    have o3 : ∀ a i, ¬ (aH a i ∨ (a = 17 ∧ i = 1) ∨ (a = 4 ∧ i = 8)) → h1 a i = h a i := fun a i hn => by
      rw [← eh1, up2_n (fun e => hn (Or.inr (Or.inr e))), o2 a i (fun e => hn (e.elim Or.inl (fun e => Or.inr (Or.inl e))))]
    have mt : MT h1 N b := ⟨hN, (o3 _ _ (by unfold aH aT hs; omega)).trans n2, fun i hi => ⟨(hb i hi).1, (o3 _ _ (by unfold aH aT hs; omega)).trans (hb i hi).2.2⟩⟩
    obtain ⟨g3, ⟨⟨m3, r3⟩, f3⟩, e3⟩ := pr h1 mt
    rw [decide_eq_false h0] at e3
    obtain ⟨g4, eg4⟩ : ∃ g4, up2 g3 106 8 (nI 0) = g4 := ⟨_, rfl⟩
    have m4 : g4 106 14 = nI w.1.2 := by rw [← eg4, up2_n (by omega)]; exact m3.2 h0
    have m4' : g4 106 13 = nI w.1.1 := by rw [← eg4, up2_n (by omega)]; exact m3.1
    obtain ⟨h2, eh2⟩ : ∃ h2, up2 g4 106 9 (nI w.1.2) = h2 := ⟨_, rfl⟩
    have m5' : h2 106 13 = nI w.1.1 := by rw [← eh2, up2_n (by omega), m4']
    have o4 : ∀ a i, ¬ (aN a i ∨ (a = 106 ∧ (i = 8 ∨ i = 9))) → h2 a i = h1 a i := fun a i hn => by
      rw [← eh2, up2_n (by omega), ← eg4, up2_n (by omega), f3 a i (fun e => hn (Or.inl e))]
    have o5 : ∀ a i, ¬ (scr a i ∨ (a = 17 ∧ i = 1) ∨ (a = 4 ∧ i = 8) ∨ (a = 106 ∧ (i = 8 ∨ i = 9))) → h2 a i = h a i := fun a i hn => by
      unfold scr hs at hn
      rw [o4 a i (by unfold aN aP tw; omega), o3 a i (by unfold aH aT hs; omega)]
    refine ⟨.int (-1000100 - nI w.1.1), h1, h2, ⟨I0_fr (fun a i x => o5 a i ?_) k0, I1_fr (fun a i x => o5 a i ?_) k1, ⟨0, by omega, ?_, ?_, fun i hi => by omega⟩, ⟨?_, ?_⟩, I4_fr (fun a i x => o5 a i ?_) k4, I5_fr (fun a i x => o5 a i ?_) k5, I6_fr (fun a i x => o5 a i ?_) k6⟩, fun Q => ?_, fun Q => ?_⟩
    · unfold scr hs; omega
    · unfold r1 at x; unfold scr hs; omega
    · rw [o4 _ _ (by unfold aN aP tw; omega), ← eh1, up2_n (by omega), ← eg2, up2_a]
    · rw [← eh2, up2_n (by omega), ← eg4, up2_a]
    · rw [o4 _ _ (by unfold aN aP tw; omega), ← eh1, up2_a, ← eh2, up2_a]
    · rw [o5 _ _ (by unfold scr hs; omega), o5 _ _ (by unfold scr hs; omega)]
      exact k3.2
    · unfold r4 ar hs at x; unfold scr hs; omega
    · unfold r5 at x; unfold scr hs; omega
    · unfold r6 at x; unfold scr hs; omega
    · have t22' : h1 17 2 = nI w.1.1 := by rw [← eh1, up2_n (by omega), t22]
      simp only [e_X7_house, s_X7_house_0, s_X7_house_1, s_X7_house_4, s_X7_house_7, s_X7_house_8, s_X7_house_11, s_X7_house_12, s_X7_house_15, s_X7_house_16, s_X7_house_19, s_X7_house_22, s_X7_house_25, s_X7_house_26, s_X7_house_27, s_X7_house_30, s_X7_house_33, s_X7_house_36, s_X7_house_38, s_X7_house_39, s_X7_house_42, s_X7_house_45, s_X7_house_46, s_X7_house_47, s_X7_house_48, s_X7_house_51, s_X7_house_52, s_X7_house_55, s_X7_house_58, s_X7_house_61, s_X7_house_62, s_X7_house_65, s_X7_house_68, s_X7_house_69, s_X7_house_72, s_X7_house_75, kS_4, rS_4_0, rS_4_1, rS_4_2, rS_4_3, rS_4_4, rS_4_5, rS_4_6, rS_4_7, Hs_27, Hs_63, Hs_72, Hs_19, Hs_90, Hs_98, kS_17, rS_17_0, rS_17_4, kS_18, lS_18, e1, eg2, t23, z, eq_false h0, eh1, t22', Option.toList_none, List.nil_append, cl_tl0, cl_tl1, rfv_some, if_true, if_false, or_true, true_or, eq_self, ite_true, ite_false, and_true, true_and, not_true_eq_false, not_false_eq_true]
    · simp only [e_X8_house, s_X8_house_0, s_X8_house_1, s_X8_house_4, s_X8_house_5, s_X8_house_6, s_X8_house_7, s_X8_house_10, s_X8_house_11, s_X8_house_14, s_X8_house_15, s_X8_house_16, s_X8_house_19, s_X8_house_22, s_X8_house_24, s_X8_house_25, s_X8_house_28, s_X8_house_29, s_X8_house_30, s_X8_house_31, s_X8_house_34, s_X8_house_35, s_X8_house_38, s_X8_house_39, s_X8_house_40, s_X8_house_43, s_X8_house_44, s_X8_house_45, s_X8_house_48, s_X8_house_49, s_X8_house_52, s_X8_house_53, s_X8_house_54, kS_106, rS_106_0, rS_106_3, rS_106_4, rS_106_5, rS_106_6, rS_106_7, rS_106_11, kS_107, lS_107, kS_108, lS_108, kS_109, lS_109, kS_110, lS_110, kS_111, lS_111, kS_112, lS_112, kS_113, lS_113, e3, eg4, m4, eh2, m5', bI_f, z_0, Option.toList_some, List.cons_append, List.nil_append, cl_tl0, cl_tl1, rfv_some, if_true, if_false, or_true, true_or, eq_self, ite_true, ite_false, and_true, true_and, not_true_eq_false, not_false_eq_true]
  obtain ⟨wf, hd⟩ := tw' h0
  have w2 := wf.2.1
  have c2 := PR_c p2 tr.2.1 wf
  obtain ⟨g3, c3, e3⟩ := p_become (d := d + 7) (L := L) (o := 27) (p := 19) Hs_27 Hs_19 (by omega) c2 wf
  obtain ⟨h1, ⟨ac1, f4⟩, e4⟩ := p_forget (d := d + 7) (L := L) (h := g3) (ps := fun _ _ => 0)
  have c1 : CR h1 27 w.2 := CR_fr c3.1 (fun a j x1 x2 => f4 a j (by unfold ar; omega))
  have o3 : ∀ a i, ¬ (aH a i ∨ (a = 17 ∧ i = 1) ∨ hs 27 a i ∨ ar a i) → h1 a i = h a i := fun a i hn => by
    rw [f4 a i (fun e => hn (Or.inr (Or.inr (Or.inr e)))), c3.2 a i (fun e => hn (Or.inr (Or.inr (Or.inl e)))), o2 a i (fun e => hn (e.elim Or.inl (fun e => Or.inr (Or.inl e))))]
  have mt : MT h1 N b := ⟨hN, (o3 _ _ (by unfold aH aT hs ar; omega)).trans n2, fun i hi => ⟨(hb i hi).1, (o3 _ _ (by unfold aH aT hs ar; omega)).trans (hb i hi).2.2⟩⟩
  obtain ⟨g5, ⟨⟨m5, r5⟩, f5⟩, e5⟩ := pr h1 mt
  rw [decide_eq_true h0] at e5
  have mr5 := r5 h0
  obtain ⟨g6, eg6⟩ : ∃ g6, up2 g5 106 8 (nI 0) = g6 := ⟨_, rfl⟩
  have mr6 : MR g6 27 w.2 := MR_fr mr5 (fun i q1 q2 => by rw [← eg6, up2_n (by omega)])
  obtain ⟨g7, m7, e7⟩ := p_copyTown (d := d + 7) (L := L) (a := 27) (b := 0) (by decide) (by decide) (by decide) mr6
  simp only [Nat.mul_zero, Nat.reduceMul] at e7
  obtain ⟨h2, eh2⟩ : ∃ h2, up2 (up2 g7 106 1 (nI 1)) 106 2 (nI 0) = h2 := ⟨_, rfl⟩
  have o4 : ∀ a i, ¬ (aN a i ∨ (a = 106 ∧ (i = 8 ∨ i = 1 ∨ i = 2)) ∨ tw 0 a i) → h2 a i = h1 a i := fun a i hn => by
    rw [← eh2, up2_n (by omega), up2_n (by omega), m7.2 a i (fun e => hn (Or.inr (Or.inr e))), ← eg6, up2_n (by omega), f5 a i (fun e => hn (Or.inl e))]
  have o5 : ∀ a i, ¬ (scr a i ∨ (a = 17 ∧ i = 1) ∨ hs 27 a i ∨ ar a i ∨ (a = 106 ∧ (i = 8 ∨ i = 1 ∨ i = 2)) ∨ (a = 107 ∧ i < 50)) → h2 a i = h a i := fun a i hn => by
    unfold scr hs ar at hn
    rw [o4 a i (by unfold aN aP tw; omega), o3 a i (by unfold aH aT hs ar; omega)]
  have mr8 : MR h2 0 w.2 := MR_fr m7.1 (fun i q1 q2 => by rw [← eh2, up2_n (by omega), up2_n (by omega)])
  have s1 : h2 106 1 = nI 1 := by rw [← eh2, up2_n (by omega), up2_a]
  refine ⟨.int (nI (w.2 1)), h1, h2, ⟨I0_fr (fun a i x => o5 a i ?_) k0, I1_fr (fun a i x => o5 a i ?_) k1, ⟨0, by omega, ?_, ?_, fun i hi => by omega⟩, I3_fr (fun a i x => o5 a i ?_) k3, Or.inr ⟨w.2, 0, fun _ _ => 0, ⟨wf, hd⟩, s1, ⟨CR_fr c1 (fun a j x1 x2 => o4 a j ?_), mr8⟩, ⟨AcC_fr (fun a j e => o4 a j ?_) ac1, ⟨by omega, ?_, fun j hj => by omega⟩⟩, fun j hj => by omega⟩, fun j hj => ?_, I6_fr (fun a i x => o5 a i ?_) k6⟩, fun Q => ?_, fun Q => ?_⟩
  · unfold scr hs ar; omega
  · unfold r1 at x; unfold scr hs ar; omega
  · rw [o4 _ _ (by unfold aN aP tw; omega), f4 _ _ (by unfold ar; omega), c3.2 _ _ (by unfold hs; omega), ← eg2, up2_a]
  · rw [← eh2, up2_n (by omega), up2_n (by omega), m7.2 _ _ (by unfold tw; omega), ← eg6, up2_a]
  · unfold r3 at x; unfold scr hs ar; omega
  · unfold aN aP tw; omega
  · unfold ar at e; unfold aN aP tw; omega
  · rw [← eh2, up2_a]
  · rcases k5 j hj with ⟨a1, a2⟩ | ⟨a1, a2, t, a3, a4, a5⟩
    · exact Or.inl ⟨(o5 _ _ (by unfold scr hs ar; omega)).trans a1, (o5 _ _ (by unfold scr hs ar; omega)).trans a2⟩
    · exact Or.inr ⟨(o5 _ _ (by unfold scr hs ar; omega)).trans a1, s1, t, a3, CR_fr a4 (fun a i x1 x2 => o5 a i (by unfold scr hs ar; omega)), MR_fr a5 (fun i x1 x2 => o5 107 i (by unfold scr hs ar; omega))⟩
  · unfold r6 at x; unfold scr hs ar; omega
  · have cc1 := CR_1 c1
    simp only [e_X7_house, s_X7_house_0, s_X7_house_1, s_X7_house_4, s_X7_house_7, s_X7_house_8, s_X7_house_11, s_X7_house_12, s_X7_house_15, s_X7_house_16, s_X7_house_19, s_X7_house_22, s_X7_house_25, s_X7_house_26, s_X7_house_27, s_X7_house_30, s_X7_house_33, s_X7_house_36, s_X7_house_38, s_X7_house_39, s_X7_house_42, s_X7_house_45, s_X7_house_46, s_X7_house_47, s_X7_house_48, s_X7_house_51, s_X7_house_52, s_X7_house_55, s_X7_house_58, s_X7_house_61, s_X7_house_62, s_X7_house_65, s_X7_house_68, s_X7_house_69, s_X7_house_72, s_X7_house_75, kS_4, rS_4_0, rS_4_1, rS_4_2, rS_4_3, rS_4_4, rS_4_5, rS_4_6, rS_4_7, Hs_27, Hs_63, Hs_72, Hs_19, Hs_90, Hs_98, kS_17, rS_17_0, rS_17_4, kS_18, lS_18, kH, rH1, rH2, rH4, rH5, rH6, rH7, rH8, kH_1, kH_2, kH_3, kH_4, kH_5, kH_6, kH_7, lH_1, lH_2, lH_3, lH_4, lH_5, lH_6, lH_7, kS_36, rS_36_0, kS_37, lS_37, e1, eg2, t23, z, eq_true h0, e3, e4, cc1, Option.toList_none, List.nil_append, cl_tl0, cl_tl1, rfv_some, if_true, if_false, or_true, true_or, eq_self, ite_true, ite_false, and_true, true_and, not_true_eq_false, not_false_eq_true]
  · have cm1 : h2 107 1 = nI (w.2 1) := MR_0 mr8 1 (by omega)
    simp only [e_X8_house, s_X8_house_0, s_X8_house_1, s_X8_house_4, s_X8_house_5, s_X8_house_6, s_X8_house_7, s_X8_house_10, s_X8_house_11, s_X8_house_14, s_X8_house_15, s_X8_house_16, s_X8_house_19, s_X8_house_22, s_X8_house_24, s_X8_house_25, s_X8_house_28, s_X8_house_29, s_X8_house_30, s_X8_house_31, s_X8_house_34, s_X8_house_35, s_X8_house_38, s_X8_house_39, s_X8_house_40, s_X8_house_43, s_X8_house_44, s_X8_house_45, s_X8_house_48, s_X8_house_49, s_X8_house_52, s_X8_house_53, s_X8_house_54, kS_106, rS_106_0, rS_106_3, rS_106_4, rS_106_5, rS_106_6, rS_106_7, rS_106_11, kS_107, lS_107, kS_108, lS_108, kS_109, lS_109, kS_110, lS_110, kS_111, lS_111, kS_112, lS_112, kS_113, lS_113, e5, eg6, e7, eh2, cm1, bI_t, z_1, Option.toList_none, Option.toList_some, List.cons_append, List.nil_append, Nat.reduceLT, cl_tl0, cl_tl1, rfv_some, if_true, if_false, or_true, true_or, eq_self, ite_true, ite_false, and_true, true_and, not_true_eq_false, not_false_eq_true]
