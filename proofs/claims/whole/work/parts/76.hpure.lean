/-! ===== pure: house: what the tape tells ===== -/
def sgB (N : Nat) (b : Nat → Nat) (p c : Nat) : Bool := decide (p < N ∧ b p = c)
def fgB (N : Nat) (b : Nat → Nat) (p : Nat) : Bool := decide (p < N ∧ 48 ≤ b p ∧ b p ≤ 57)
def klt (c : Nat) : Nat := if c = 110 then 1 else if c = 116 then 2 else if c = 102 then 3 else if c = 108 then 4 else if c = 112 then 5 else 0
def ksB (N : Nat) (b : Nat → Nat) (p : Nat) : Nat := if p < N then klt (b p) else 0
def nmV (N : Nat) (b : Nat → Nat) (p : Nat) : Nat := if fgB N b (p + 1) then 10 * (b p - 48) + (b (p + 1) - 48) else b p - 48
def nmS (N : Nat) (b : Nat → Nat) (p : Nat) : Nat := if fgB N b (p + 1) then 2 else 1
def nmF (N : Nat) (b : Nat → Nat) (lo hi p : Nat) : Nat := if fgB N b p = false ∨ (fgB N b (p + 1) = true ∧ fgB N b (p + 2) = true) then 1 else if nmV N b p < lo ∨ hi < nmV N b p then 2 else 0
/-- a place, and the fault there (0: none) -/
def stN (N : Nat) (b : Nat → Nat) (lo hi : Nat) (s : Nat × Nat) : Nat × Nat := if s.2 = 0 then (if nmF N b lo hi s.1 = 0 then (s.1 + nmS N b s.1, 0) else (s.1, nmF N b lo hi s.1)) else s
def stS (N : Nat) (b : Nat → Nat) (c : Nat) (s : Nat × Nat) : Nat × Nat := if s.2 = 0 then (if sgB N b s.1 c then (s.1 + 1, 0) else (s.1, 1)) else s
def stL (can room : Bool) (s : Nat × Nat) : Nat × Nat := if s.2 = 0 then (if can then (if room then (s.1 + 1, 0) else (s.1, 3)) else (s.1, 1)) else s
theorem klt_l (c : Nat) : klt c ≤ 5 := by
  unfold klt
  repeat' split
  all_goals omega
theorem ksB_l (N : Nat) (b : Nat → Nat) (p : Nat) : ksB N b p ≤ 5 := by
  unfold ksB
  split
  · exact klt_l _
  · omega
theorem fgB_t {N : Nat} {b : Nat → Nat} {p : Nat} (h : fgB N b p = true) : p < N ∧ 48 ≤ b p ∧ b p ≤ 57 := of_decide_eq_true h
theorem sgB_t {N : Nat} {b : Nat → Nat} {p c : Nat} (h : sgB N b p c = true) : p < N ∧ b p = c := of_decide_eq_true h
theorem nmF_l (N : Nat) (b : Nat → Nat) (lo hi p : Nat) : nmF N b lo hi p ≤ 2 := by
  unfold nmF
  repeat' split
  all_goals omega
theorem nmF_0 {N : Nat} {b : Nat → Nat} {lo hi p : Nat} (h : nmF N b lo hi p = 0) : fgB N b p = true ∧ (fgB N b (p + 1) = true → fgB N b (p + 2) = false) ∧ lo ≤ nmV N b p ∧ nmV N b p ≤ hi := by
  unfold nmF at h
  split at h
  · omega
  · rename_i h1
    split at h
    · omega
    · rename_i h2
      refine ⟨?_, fun h3 => ?_, by omega, by omega⟩
      · cases e : fgB N b p
        · exact absurd (Or.inl e) h1
        · rfl
      · cases e : fgB N b (p + 2)
        · rfl
        · exact absurd (Or.inr ⟨h3, e⟩) h1
theorem nmV_l {N : Nat} {b : Nat → Nat} {p : Nat} (h : fgB N b p = true) : nmV N b p ≤ 99 := by
  have h1 := fgB_t h
  unfold nmV
  split
  · rename_i h2
    have h3 := fgB_t h2
    omega
  · omega
theorem stN_f {N : Nat} {b : Nat → Nat} {lo hi : Nat} {s : Nat × Nat} (h : s.2 ≠ 0) : stN N b lo hi s = s := if_neg h
theorem stS_f {N : Nat} {b : Nat → Nat} {c : Nat} {s : Nat × Nat} (h : s.2 ≠ 0) : stS N b c s = s := if_neg h
theorem stL_f {can room : Bool} {s : Nat × Nat} (h : s.2 ≠ 0) : stL can room s = s := if_neg h
theorem stN_t {N : Nat} {b : Nat → Nat} {lo hi : Nat} {s : Nat × Nat} (h : s.2 = 0) (h2 : nmF N b lo hi s.1 = 0) : stN N b lo hi s = (s.1 + nmS N b s.1, 0) := by unfold stN; rw [if_pos h, if_pos h2]
theorem stN_x {N : Nat} {b : Nat → Nat} {lo hi : Nat} {s : Nat × Nat} (h : s.2 = 0) (h2 : nmF N b lo hi s.1 ≠ 0) : stN N b lo hi s = (s.1, nmF N b lo hi s.1) := by unfold stN; rw [if_pos h, if_neg h2]
theorem stS_t {N : Nat} {b : Nat → Nat} {c : Nat} {s : Nat × Nat} (h : s.2 = 0) (h2 : sgB N b s.1 c = true) : stS N b c s = (s.1 + 1, 0) := by unfold stS; rw [if_pos h, if_pos h2]
theorem stS_x {N : Nat} {b : Nat → Nat} {c : Nat} {s : Nat × Nat} (h : s.2 = 0) (h2 : sgB N b s.1 c = false) : stS N b c s = (s.1, 1) := by unfold stS; rw [if_pos h, if_neg (by rw [h2]; decide)]
theorem stN_0 {N : Nat} {b : Nat → Nat} {lo hi : Nat} {s : Nat × Nat} (h : (stN N b lo hi s).2 = 0) : s.2 = 0 ∧ nmF N b lo hi s.1 = 0 := by
  by_cases h1 : s.2 = 0
  · by_cases h2 : nmF N b lo hi s.1 = 0
    · exact ⟨h1, h2⟩
    · rw [stN_x h1 h2] at h
      exact absurd h h2
  · rw [stN_f h1] at h
    exact absurd h h1
theorem stS_0 {N : Nat} {b : Nat → Nat} {c : Nat} {s : Nat × Nat} (h : (stS N b c s).2 = 0) : s.2 = 0 ∧ sgB N b s.1 c = true := by
  by_cases h1 : s.2 = 0
  · cases h2 : sgB N b s.1 c
    · rw [stS_x h1 h2] at h
      cases h
    · exact ⟨h1, rfl⟩
  · rw [stS_f h1] at h
    exact absurd h h1
theorem stL_0 {can room : Bool} {s : Nat × Nat} (h : (stL can room s).2 = 0) : s.2 = 0 ∧ can = true ∧ room = true := by
  by_cases h1 : s.2 = 0
  · unfold stL at h
    rw [if_pos h1] at h
    cases can
    · cases h
    · cases room
      · cases h
      · exact ⟨h1, rfl, rfl⟩
  · rw [stL_f h1] at h
    exact absurd h h1
/-- places stay on the tape, faults are few -/
def stO (N : Nat) (s : Nat × Nat) : Prop := s.1 ≤ N ∧ s.2 ≤ 3
theorem stN_o {N : Nat} {b : Nat → Nat} {lo hi : Nat} {s : Nat × Nat} (h : stO N s) : stO N (stN N b lo hi s) := by
  by_cases h1 : s.2 = 0
  · by_cases h2 : nmF N b lo hi s.1 = 0
    · rw [stN_t h1 h2]
      have h3 := fgB_t (nmF_0 h2).1
      refine ⟨?_, Nat.zero_le _⟩
      show s.1 + nmS N b s.1 ≤ N
      unfold nmS
      split
      · rename_i h4
        have := fgB_t h4
        omega
      · omega
    · rw [stN_x h1 h2]
      have := nmF_l N b lo hi s.1
      exact ⟨h.1, by show nmF N b lo hi s.1 ≤ 3; omega⟩
  · rw [stN_f h1]
    exact h
theorem stS_o {N : Nat} {b : Nat → Nat} {c : Nat} {s : Nat × Nat} (h : stO N s) : stO N (stS N b c s) := by
  by_cases h1 : s.2 = 0
  · cases h2 : sgB N b s.1 c
    · rw [stS_x h1 h2]
      exact ⟨h.1, show 1 ≤ 3 by omega⟩
    · rw [stS_t h1 h2]
      have := sgB_t h2
      exact ⟨by show s.1 + 1 ≤ N; omega, Nat.zero_le _⟩
  · rw [stS_f h1]
    exact h
theorem stL_o {N : Nat} {can room : Bool} {s : Nat × Nat} (h : stO N s) (hc : can = true → s.1 < N) : stO N (stL can room s) := by
  by_cases h1 : s.2 = 0
  · unfold stL
    rw [if_pos h1]
    cases can
    · exact ⟨h.1, show 1 ≤ 3 by omega⟩
    · have := hc rfl
      cases room
      · exact ⟨h.1, show 3 ≤ 3 by omega⟩
      · exact ⟨by show s.1 + 1 ≤ N; omega, Nat.zero_le _⟩
  · rw [stL_f h1]
    exact h
/-- an heir, a right -/
def hq1 (N : Nat) (b : Nat → Nat) (n : Nat) (s : Nat × Nat) : Nat × Nat := stL (sgB N b s.1 104) (decide (n < 5)) s
def hq2 (N : Nat) (b : Nat → Nat) (n : Nat) (s : Nat × Nat) : Nat × Nat := stN N b 0 60 (hq1 N b n s)
def hq3 (N : Nat) (b : Nat → Nat) (n : Nat) (s : Nat × Nat) : Nat × Nat := stS N b 44 (hq2 N b n s)
def hq4 (N : Nat) (b : Nat → Nat) (n : Nat) (s : Nat × Nat) : Nat × Nat := stN N b 0 20 (hq3 N b n s)
def hq5 (N : Nat) (b : Nat → Nat) (n : Nat) (s : Nat × Nat) : Nat × Nat := stS N b 59 (hq4 N b n s)
def hadd (t : Nat → Nat) (v w : Nat) : Nat → Nat := tset (tset (tset t (4 + t 0) v) (9 + t 0) w) 0 (t 0 + 1)
def hst (N : Nat) (b : Nat → Nat) (x : (Nat × Nat) × (Nat → Nat)) : (Nat × Nat) × (Nat → Nat) := (hq5 N b (x.2 0) x.1, if (hq5 N b (x.2 0) x.1).2 = 0 then hadd x.2 (nmV N b (hq1 N b (x.2 0) x.1).1) (nmV N b (hq3 N b (x.2 0) x.1).1) else x.2)
def rq1 (N : Nat) (b : Nat → Nat) (n : Nat) (s : Nat × Nat) : Nat × Nat := stL (decide (ksB N b s.1 ≠ 0)) (decide (n < 7)) s
def rq2 (N : Nat) (b : Nat → Nat) (n : Nat) (s : Nat × Nat) : Nat × Nat := stN N b 1 20 (rq1 N b n s)
def rq3 (N : Nat) (b : Nat → Nat) (n : Nat) (s : Nat × Nat) : Nat × Nat := stS N b 44 (rq2 N b n s)
def rq4 (N : Nat) (b : Nat → Nat) (n : Nat) (s : Nat × Nat) : Nat × Nat := stN N b 0 60 (rq3 N b n s)
def rq5 (N : Nat) (b : Nat → Nat) (n : Nat) (s : Nat × Nat) : Nat × Nat := stS N b 44 (rq4 N b n s)
def rq6 (N : Nat) (b : Nat → Nat) (n m : Nat) (s : Nat × Nat) : Nat × Nat := stN N b 0 (m - 1) (rq5 N b n s)
def rq7 (N : Nat) (b : Nat → Nat) (n m : Nat) (s : Nat × Nat) : Nat × Nat := stS N b 59 (rq6 N b n m s)
def radd (t : Nat → Nat) (k v u o : Nat) : Nat → Nat := tset (tset (tset (tset (tset (tset t (14 + t 1) k) (21 + t 1) v) (28 + t 1) u) (35 + t 1) o) (42 + t 1) o) 1 (t 1 + 1)
def rst' (N : Nat) (b : Nat → Nat) (x : (Nat × Nat) × (Nat → Nat)) : (Nat × Nat) × (Nat → Nat) := (rq7 N b (x.2 1) (x.2 0) x.1, if (rq7 N b (x.2 1) (x.2 0) x.1).2 = 0 then radd x.2 (ksB N b x.1.1) (nmV N b (rq1 N b (x.2 1) x.1).1) (nmV N b (rq3 N b (x.2 1) x.1).1) (nmV N b (rq5 N b (x.2 1) x.1).1) else x.2)
theorem hq_o {N : Nat} {b : Nat → Nat} {n : Nat} {s : Nat × Nat} (h : stO N s) : stO N (hq1 N b n s) ∧ stO N (hq2 N b n s) ∧ stO N (hq3 N b n s) ∧ stO N (hq4 N b n s) ∧ stO N (hq5 N b n s) := by
  have h1 : stO N (hq1 N b n s) := stL_o h (fun e => (sgB_t e).1)
  have h2 : stO N (hq2 N b n s) := stN_o h1
  have h3 : stO N (hq3 N b n s) := stS_o h2
  have h4 : stO N (hq4 N b n s) := stN_o h3
  exact ⟨h1, h2, h3, h4, stS_o h4⟩
theorem rq_o {N : Nat} {b : Nat → Nat} {n m : Nat} {s : Nat × Nat} (h : stO N s) : stO N (rq1 N b n s) ∧ stO N (rq2 N b n s) ∧ stO N (rq3 N b n s) ∧ stO N (rq4 N b n s) ∧ stO N (rq5 N b n s) ∧ stO N (rq6 N b n m s) ∧ stO N (rq7 N b n m s) := by
  have h1 : stO N (rq1 N b n s) := stL_o h (fun e => by
    have h0 := of_decide_eq_true e
    unfold ksB at h0
    split at h0
    · assumption
    · exact absurd rfl h0)
  have h2 : stO N (rq2 N b n s) := stN_o h1
  have h3 : stO N (rq3 N b n s) := stS_o h2
  have h4 : stO N (rq4 N b n s) := stN_o h3
  have h5 : stO N (rq5 N b n s) := stS_o h4
  have h6 : stO N (rq6 N b n m s) := stN_o h5
  exact ⟨h1, h2, h3, h4, h5, h6, stS_o h6⟩
/-- a town as it is told -/
def PW (t : Nat → Nat) : Prop := (t 0 ≤ 5 ∧ t 1 ≤ 7) ∧ (t 2 = 0 ∧ t 3 = 0 ∧ t 49 = 0) ∧ (∀ k, k < t 0 → t (4 + k) ≤ 60 ∧ t (9 + k) ≤ 20) ∧ ∀ r, r < t 1 → (1 ≤ t (14 + r) ∧ t (14 + r) ≤ 5) ∧ (1 ≤ t (21 + r) ∧ t (21 + r) ≤ 20) ∧ t (28 + r) ≤ 60 ∧ t (35 + r) < t 0 ∧ t (42 + r) < t 0
theorem PW_w {t : Nat → Nat} (p : PW t) (h0 : 1 ≤ t 0) (h1 : 1 ≤ t 1) : Wf t ∧ t 2 ≤ 999 := by
  obtain ⟨⟨a1, a2⟩, ⟨b1, b2, b3⟩, c, d⟩ := p
  exact ⟨⟨⟨h0, a1⟩, ⟨h1, a2⟩, fun k hk => ⟨Nat.le_trans (c k hk).1 (by decide), (c k hk).2⟩, d, by omega⟩, by omega⟩
theorem hadd_0 {t : Nat → Nat} {v w : Nat} : hadd t v w 0 = t 0 + 1 := ts_s _ _ _
theorem hadd_1 {t : Nat → Nat} {v w : Nat} : hadd t v w 1 = t 1 := by
  unfold hadd
  rw [ts_o (by omega), ts_o (by omega), ts_o (by omega)]
theorem hadd_p {t : Nat → Nat} (p : PW t) (h1 : t 1 = 0) {v w : Nat} (h5 : t 0 < 5) (hv : v ≤ 60) (hw : w ≤ 20) : PW (hadd t v w) := by
  obtain ⟨⟨a1, a2⟩, ⟨b1, b2, b3⟩, c, d⟩ := p
  unfold PW
  rw [hadd_0, hadd_1]
  refine ⟨⟨by omega, a2⟩, ⟨?_, ?_, ?_⟩, fun k hk => ?_, fun r hr => by omega⟩
  · unfold hadd
    rw [ts_o (by omega), ts_o (by omega), ts_o (by omega), b1]
  · unfold hadd
    rw [ts_o (by omega), ts_o (by omega), ts_o (by omega), b2]
  · unfold hadd
    rw [ts_o (by omega), ts_o (by omega), ts_o (by omega), b3]
  · unfold hadd
    by_cases e : k = t 0
    · subst e
      rw [ts_o (by omega), ts_o (by omega), ts_s, ts_o (by omega), ts_s]
      exact ⟨hv, hw⟩
    · rw [ts_o (by omega), ts_o (by omega), ts_o (by omega), ts_o (by omega), ts_o (by omega), ts_o (by omega)]
      exact c k (by omega)
theorem radd_1 {t : Nat → Nat} {k v u o : Nat} : radd t k v u o 1 = t 1 + 1 := ts_s _ _ _
theorem radd_o {t : Nat → Nat} {k v u o j : Nat} (h1 : j ≠ 1) (h2 : j ≠ 14 + t 1) (h3 : j ≠ 21 + t 1) (h4 : j ≠ 28 + t 1) (h5 : j ≠ 35 + t 1) (h6 : j ≠ 42 + t 1) : radd t k v u o j = t j := by
  unfold radd
  rw [ts_o h1, ts_o h6, ts_o h5, ts_o h4, ts_o h3, ts_o h2]
theorem radd_n {t : Nat → Nat} {k v u o : Nat} (h7 : t 1 < 7) : radd t k v u o (14 + t 1) = k ∧ radd t k v u o (21 + t 1) = v ∧ radd t k v u o (28 + t 1) = u ∧ radd t k v u o (35 + t 1) = o ∧ radd t k v u o (42 + t 1) = o := by
  unfold radd
  refine ⟨?_, ?_, ?_, ?_, ?_⟩
  · rw [ts_o (by omega), ts_o (by omega), ts_o (by omega), ts_o (by omega), ts_o (by omega), ts_s]
  · rw [ts_o (by omega), ts_o (by omega), ts_o (by omega), ts_o (by omega), ts_s]
  · rw [ts_o (by omega), ts_o (by omega), ts_o (by omega), ts_s]
  · rw [ts_o (by omega), ts_o (by omega), ts_s]
  · rw [ts_o (by omega), ts_s]
theorem radd_p {t : Nat → Nat} (p : PW t) {k v u o : Nat} (h7 : t 1 < 7) (hk : 1 ≤ k ∧ k ≤ 5) (hv : 1 ≤ v ∧ v ≤ 20) (hu : u ≤ 60) (ho : o < t 0) : PW (radd t k v u o) := by
  obtain ⟨⟨a1, a2⟩, ⟨b1, b2, b3⟩, c, d⟩ := p
  have e0 : radd t k v u o 0 = t 0 := radd_o (by omega) (by omega) (by omega) (by omega) (by omega) (by omega)
  unfold PW
  rw [radd_1, e0]
  refine ⟨⟨a1, by omega⟩, ⟨?_, ?_, ?_⟩, fun j hj => ?_, fun r hr => ?_⟩
  · rw [radd_o (by omega) (by omega) (by omega) (by omega) (by omega) (by omega), b1]
  · rw [radd_o (by omega) (by omega) (by omega) (by omega) (by omega) (by omega), b2]
  · rw [radd_o (by omega) (by omega) (by omega) (by omega) (by omega) (by omega), b3]
  · rw [radd_o (by omega) (by omega) (by omega) (by omega) (by omega) (by omega), radd_o (by omega) (by omega) (by omega) (by omega) (by omega) (by omega)]
    exact c j hj
  · by_cases e : r = t 1
    · subst e
      obtain ⟨n1, n2, n3, n4, n5⟩ := radd_n (k := k) (v := v) (u := u) (o := o) h7
      rw [n1, n2, n3, n4, n5]
      exact ⟨hk, hv, hu, ho, ho⟩
    · have hr1 : r < t 1 := by omega
      rw [radd_o (j := 14 + r) (by omega) (by omega) (by omega) (by omega) (by omega) (by omega), radd_o (j := 21 + r) (by omega) (by omega) (by omega) (by omega) (by omega) (by omega), radd_o (j := 28 + r) (by omega) (by omega) (by omega) (by omega) (by omega) (by omega), radd_o (j := 35 + r) (by omega) (by omega) (by omega) (by omega) (by omega) (by omega), radd_o (j := 42 + r) (by omega) (by omega) (by omega) (by omega) (by omega) (by omega)]
      exact d r hr1
theorem hst_x {N : Nat} {b : Nat → Nat} {s : Nat × Nat} {n : Nat} (h : (hq5 N b n s).2 = 0) : (s.2 = 0 ∧ sgB N b s.1 104 = true ∧ n < 5) ∧ (hq1 N b n s).2 = 0 ∧ (hq2 N b n s).2 = 0 ∧ (hq3 N b n s).2 = 0 ∧ (hq4 N b n s).2 = 0 ∧ nmV N b (hq1 N b n s).1 ≤ 60 ∧ nmV N b (hq3 N b n s).1 ≤ 20 := by
  have h4 := (stS_0 h).1
  have h3 := stN_0 h4
  have h2 := (stS_0 h3.1).1
  have h1 := stN_0 h2
  have h0 := stL_0 h1.1
  exact ⟨⟨h0.1, h0.2.1, of_decide_eq_true h0.2.2⟩, h1.1, h2, h3.1, h4, (nmF_0 h1.2).2.2.2, (nmF_0 h3.2).2.2.2⟩
theorem rst_x {N : Nat} {b : Nat → Nat} {s : Nat × Nat} {n m : Nat} (h : (rq7 N b n m s).2 = 0) : (s.2 = 0 ∧ ksB N b s.1 ≠ 0 ∧ n < 7) ∧ (rq1 N b n s).2 = 0 ∧ (rq2 N b n s).2 = 0 ∧ (rq3 N b n s).2 = 0 ∧ (rq4 N b n s).2 = 0 ∧ (rq5 N b n s).2 = 0 ∧ (rq6 N b n m s).2 = 0 ∧ (1 ≤ nmV N b (rq1 N b n s).1 ∧ nmV N b (rq1 N b n s).1 ≤ 20) ∧ nmV N b (rq3 N b n s).1 ≤ 60 ∧ nmV N b (rq5 N b n s).1 ≤ m - 1 := by
  have h6 := (stS_0 h).1
  have h5 := stN_0 h6
  have h4 := (stS_0 h5.1).1
  have h3 := stN_0 h4
  have h2 := (stS_0 h3.1).1
  have h1 := stN_0 h2
  have h0 := stL_0 h1.1
  exact ⟨⟨h0.1, of_decide_eq_true h0.2.1, of_decide_eq_true h0.2.2⟩, h1.1, h2, h3.1, h4, h5.1, h6, (nmF_0 h1.2).2.2, (nmF_0 h3.2).2.2.2, (nmF_0 h5.2).2.2.2⟩
