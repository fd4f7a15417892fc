/-! ===== the operations, beside each other ===== -/
theorem st_v {w : Int32} (h : inB w (-1) 6 = true) : (w < 0 → ix (w + 1) = 0) ∧ (¬ w < 0 → ix (w + 1) = ix w + 1 ∧ ix w < 7) := by
  simp only [inB, Bool.and_eq_true, Bool.not_eq_true', decide_eq_false_iff_not, lt_i] at h
  have e0 : (0 : Int32).toInt = 0 := by decide
  have e1 : (1 : Int32).toInt = 1 := by decide
  have em : (-1 : Int32).toInt = -1 := by decide
  have e6 : (6 : Int32).toInt = 6 := by decide
  have ea : (w + 1).toInt = w.toInt + 1 := by rw [toInt_add (by omega) (by omega), e1]
  have hx : ∀ z : Int32, ix z = z.toInt.toNat := fun z => rfl
  rw [lt_i, e0, hx, hx, ea]
  omega
theorem sht_0 (Q : Nat → Nat → Int32) (t : Nat) (b z : Int32) : shtQ Q t b z 0 = Q 0 := by
  unfold shtQ
  rw [zS_n _ _ rfl 40]
  rfl
theorem sht_1 (Q : Nat → Nat → Int32) (t : Nat) (b z : Int32) : shtQ Q t b z 1 = Q 1 := by
  unfold shtQ
  rw [zS_n _ _ rfl 40]
  rfl
theorem sht_6 (Q : Nat → Nat → Int32) (t : Nat) (b z : Int32) : shtQ Q t b z 6 = Q 6 := by
  unfold shtQ
  rw [zS_n _ _ rfl 40]
  rfl

theorem op_bed (l : Launch) (D : va_G) (cI cS : ClassId) (a b : Nat → Nat) (x : xS) {t : Nat} {E T Kp P F : Nat → Nat → Int32} {S : Nat → Nat → Nat → Int32} {K2 Bf As Q : Nat → Nat → Int32} (hI : lInvA t E Kp P S F K2 Q) (ht : t < 512) (w1 w2 w3 : Int32) : ∃ (r : Int32) (E1 Kp1 P1 : Nat → Nat → Int32) (S1 : Nat → Nat → Nat → Int32) (F1 K1 Q1 : Nat → Nat → Int32), vMet l D (vT cI cS) yX3_bed cX3_bed 6 (some .int) 2 41 (cW cI cS a) v0 [.ref (a 0), .int w1, .int w2, .int w3] (E, T, Kp, P, S, F) (cPost (some (.int r)) E1 Kp1 P1 S1 F1) ∧ vMet l D (vT cI cS) yX4_bed cX4_bed 4 (some .int) 1 25 (mW cI b) v0 [.ref (b 0), .int w1, .int w2, .int w3] (E, K2, Bf, As, Q) (mPost (some (.int r)) E1 K1 Q1) ∧ lInvA (t + 1) E1 Kp1 P1 S1 F1 K1 Q1 := by
  obtain ⟨⟨n, hW, hZ, hY⟩, hK, hT, hS, hF⟩ := id hI
  have hC := kX3_bed l D cI cS a E T Kp P F S n hW hZ w1 w2 w3
  have hM := kX4_bed l D cI cS b E K2 Bf As Q n hW (60 * t) hY (by omega) w1 w2 w3
  cases hc : (inB w1 0 5 && (inB w2 0 1 && inB w3 0 (if w2 = 0 then 999 else 9))) with
  | false =>
    rw [hc] at hC hM
    simp only [cond_false] at hC hM
    exact ⟨_, _, _, _, _, _, _, _, hC, hM, inv_f 0 (by omega) hI⟩
  | true =>
    rw [hc] at hC hM
    obtain ⟨c1, c2⟩ := Bool.and_eq_true_iff.mp hc
    obtain ⟨c2, c3⟩ := Bool.and_eq_true_iff.mp c2
    obtain ⟨d1, d2⟩ := inB_t 1 rfl (by decide) c2
    by_cases h : w2 = 0
    · subst h
      rw [if_pos rfl] at c3
      obtain ⟨e1, e2⟩ := inB_t 999 rfl (by decide) c3
      exact ⟨_, _, _, _, _, _, _, _, hC, hM, inv_E hI (iE_up (n1 := n) (Wf_up0 hW ⟨_, e2, e1⟩) hZ hY ⟨rfl, rfl⟩)⟩
    · rw [if_neg h] at c3
      obtain ⟨e1, e2⟩ := inB_t 9 rfl (by decide) c3
      rw [ix_1 d1 d2 h] at hC hM
      exact ⟨_, _, _, _, _, _, _, _, hC, hM, inv_E hI (iE_up (n1 := n) (Wf_up1 hW ⟨_, e2, e1⟩) hZ hY ⟨rfl, rfl⟩)⟩
theorem op_bedOf (l : Launch) (D : va_G) (cI cS : ClassId) (a b : Nat → Nat) (x : xS) {t : Nat} {E T Kp P F : Nat → Nat → Int32} {S : Nat → Nat → Nat → Int32} {K2 Bf As Q : Nat → Nat → Int32} (hI : lInvA t E Kp P S F K2 Q) (ht : t < 512) (w1 w2 : Int32) : ∃ (r : Int32) (E1 Kp1 P1 : Nat → Nat → Int32) (S1 : Nat → Nat → Nat → Int32) (F1 K1 Q1 : Nat → Nat → Int32), vMet l D (vT cI cS) yX3_bedOf cX3_bedOf 3 (some .int) 2 41 (cW cI cS a) v0 [.ref (a 0), .int w1, .int w2] (E, T, Kp, P, S, F) (cPost (some (.int r)) E1 Kp1 P1 S1 F1) ∧ vMet l D (vT cI cS) yX4_bedOf cX4_bedOf 5 (some .int) 1 25 (mW cI b) v0 [.ref (b 0), .int w1, .int w2] (E, K2, Bf, As, Q) (mPost (some (.int r)) E1 K1 Q1) ∧ lInvA (t + 1) E1 Kp1 P1 S1 F1 K1 Q1 := by
  obtain ⟨⟨n, hW, hZ, hY⟩, hK, hT, hS, hF⟩ := id hI
  have hC := kX3_bedOf l D cI cS a E T Kp P F S n hW hZ w1 w2
  have hM := kX4_bedOf l D cI cS b E K2 Bf As Q n hW (60 * t) hY (by omega) w1 w2
  cases hc : (inB w1 0 5 && inB w2 0 2) with
  | false =>
    rw [hc] at hC hM
    simp only [cond_false] at hC hM
    exact ⟨_, _, _, _, _, _, _, _, hC, hM, inv_f 0 (by omega) hI⟩
  | true =>
    rw [hc] at hC hM
    exact ⟨_, _, _, _, _, _, _, _, hC, hM, inv_0 hI⟩
theorem op_comes (l : Launch) (D : va_G) (cI cS : ClassId) (a b : Nat → Nat) (x : xS) {t : Nat} {E T Kp P F : Nat → Nat → Int32} {S : Nat → Nat → Nat → Int32} {K2 Bf As Q : Nat → Nat → Int32} (hI : lInvA t E Kp P S F K2 Q) (ht : t < 512) (w1 : Int32) : ∃ (r : Int32) (E1 Kp1 P1 : Nat → Nat → Int32) (S1 : Nat → Nat → Nat → Int32) (F1 K1 Q1 : Nat → Nat → Int32), vMet l D (vT cI cS) yX3_comes cX3_comes 3 (some .int) 1 21 (cW cI cS a) v0 [.ref (a 0), .int w1] (E, T, Kp, P, S, F) (cPost (some (.int r)) E1 Kp1 P1 S1 F1) ∧ vMet l D (vT cI cS) yX4_comes cX4_comes 2 (some .int) 1 25 (mW cI b) v0 [.ref (b 0), .int w1] (E, K2, Bf, As, Q) (mPost (some (.int r)) E1 K1 Q1) ∧ lInvA (t + 1) E1 Kp1 P1 S1 F1 K1 Q1 := by
  obtain ⟨⟨n, hW, hZ, hY⟩, hK, hT, hS, hF⟩ := id hI
  have hC := kX3_comes l D cI cS a E T Kp P F S n hW hZ w1
  have hM := kX4_comes l D cI cS b E K2 Bf As Q n hW (60 * t) hY (by omega) w1
  cases hc : (inB w1 0 99) with
  | false =>
    rw [hc] at hC hM
    simp only [cond_false] at hC hM
    exact ⟨_, _, _, _, _, _, _, _, hC, hM, inv_f 0 (by omega) hI⟩
  | true =>
    rw [hc] at hC hM
    obtain ⟨e1, e2⟩ := inB_t 99 rfl (by decide) hc
    exact ⟨_, _, _, _, _, _, _, _, hC, hM, inv_E hI (iE_up (n1 := n) (Wf_up91 hW ⟨_, e2, e1⟩) hZ hY ⟨rfl, rfl⟩)⟩
theorem op_oyster (l : Launch) (D : va_G) (cI cS : ClassId) (a b : Nat → Nat) (x : xS) {t : Nat} {E T Kp P F : Nat → Nat → Int32} {S : Nat → Nat → Nat → Int32} {K2 Bf As Q : Nat → Nat → Int32} (hI : lInvA t E Kp P S F K2 Q) (ht : t < 512) (w1 w2 : Int32) : ∃ (r : Int32) (E1 Kp1 P1 : Nat → Nat → Int32) (S1 : Nat → Nat → Nat → Int32) (F1 K1 Q1 : Nat → Nat → Int32), vMet l D (vT cI cS) yX3_oyster cX3_oyster 3 (some .int) 2 44 (cW cI cS a) v0 [.ref (a 0), .int w1, .int w2] (E, T, Kp, P, S, F) (cPost (some (.int r)) E1 Kp1 P1 S1 F1) ∧ vMet l D (vT cI cS) yX4_oyster cX4_oyster 3 (some .int) 2 44 (mW cI b) v0 [.ref (b 0), .int w1, .int w2] (E, K2, Bf, As, Q) (mPost (some (.int r)) E1 K1 Q1) ∧ lInvA (t + 1) E1 Kp1 P1 S1 F1 K1 Q1 := by
  obtain ⟨⟨n, hW, hZ, hY⟩, hK, hT, hS, hF⟩ := id hI
  have hC := kX3_oyster l D cI cS a E T Kp P F S n hW hZ w1 w2
  have hM := kX4_oyster l D cI cS b E K2 Bf As Q n hW (60 * t) hY (by omega) w1 w2
  cases hc : (inB w1 0 6 && inB w2 0 5) with
  | false =>
    rw [hc] at hC hM
    simp only [cond_false] at hC hM
    exact ⟨_, _, _, _, _, _, _, _, hC, hM, inv_f 0 (by omega) hI⟩
  | true =>
    rw [hc] at hC hM
    obtain ⟨c1, c2⟩ := Bool.and_eq_true_iff.mp hc
    obtain ⟨d1, d2⟩ := inB_t 6 rfl (by decide) c1
    obtain ⟨e1, e2⟩ := inB_t 5 rfl (by decide) c2
    have hn8 := hW.1
    by_cases h : n = 8
    · simp only [cond_true, if_pos h] at hC hM
      exact ⟨_, _, _, _, _, _, _, _, hC, hM, inv_f 1 (by omega) hI⟩
    · simp only [cond_true, if_neg h] at hC hM
      exact ⟨_, _, _, _, _, _, _, _, hC, hM, inv_E hI (iE_up (n1 := n + 1) (Wf_new hW (by omega) ⟨_, d2, d1⟩ ⟨_, e2, e1⟩) hZ hY (new_9 _ _ _ _))⟩
theorem op_of (l : Launch) (D : va_G) (cI cS : ClassId) (a b : Nat → Nat) (x : xS) {t : Nat} {E T Kp P F : Nat → Nat → Int32} {S : Nat → Nat → Nat → Int32} {K2 Bf As Q : Nat → Nat → Int32} (hI : lInvA t E Kp P S F K2 Q) (ht : t < 512) (w1 w2 : Int32) : ∃ (r : Int32) (E1 Kp1 P1 : Nat → Nat → Int32) (S1 : Nat → Nat → Nat → Int32) (F1 K1 Q1 : Nat → Nat → Int32), vMet l D (vT cI cS) yX3_of cX3_of 3 (some .int) 2 44 (cW cI cS a) v0 [.ref (a 0), .int w1, .int w2] (E, T, Kp, P, S, F) (cPost (some (.int r)) E1 Kp1 P1 S1 F1) ∧ vMet l D (vT cI cS) yX4_of cX4_of 3 (some .int) 3 66 (mW cI b) v0 [.ref (b 0), .int w1, .int w2] (E, K2, Bf, As, Q) (mPost (some (.int r)) E1 K1 Q1) ∧ lInvA (t + 1) E1 Kp1 P1 S1 F1 K1 Q1 := by
  obtain ⟨⟨n, hW, hZ, hY⟩, hK, hT, hS, hF⟩ := id hI
  have hC := kX3_of l D cI cS a E T Kp P F S n hW hZ w1 w2
  have hM := kX4_of l D cI cS b E K2 Bf As Q n hW (60 * t) hY (by omega) w1 w2
  cases hc : (oyB w1 n && inB w2 0 9) with
  | false =>
    rw [hc] at hC hM
    simp only [cond_false] at hC hM
    exact ⟨_, _, _, _, _, _, _, _, hC, hM, inv_f 0 (by omega) hI⟩
  | true =>
    rw [hc] at hC hM
    exact ⟨_, _, _, _, _, _, _, _, hC, hM, inv_0 hI⟩
theorem op_change (l : Launch) (D : va_G) (cI cS : ClassId) (a b : Nat → Nat) (x : xS) {t : Nat} {E T Kp P F : Nat → Nat → Int32} {S : Nat → Nat → Nat → Int32} {K2 Bf As Q : Nat → Nat → Int32} (hI : lInvA t E Kp P S F K2 Q) (ht : t < 512) (w1 w2 w3 : Int32) : ∃ (r : Int32) (E1 Kp1 P1 : Nat → Nat → Int32) (S1 : Nat → Nat → Nat → Int32) (F1 K1 Q1 : Nat → Nat → Int32), vMet l D (vT cI cS) yX3_change cX3_change 6 (some .int) 2 42 (cW cI cS a) (exA x) [.ref (a 0), .int w1, .int w2, .int w3] (E, T, Kp, P, S, F) (cPost (some (.int r)) E1 Kp1 P1 S1 F1) ∧ vMet l D (vT cI cS) yX4_change cX4_change 5 (some .int) 1 25 (mW cI b) v0 [.ref (b 0), .int w1, .int w2, .int w3] (E, K2, Bf, As, Q) (mPost (some (.int r)) E1 K1 Q1) ∧ lInvA (t + 1) E1 Kp1 P1 S1 F1 K1 Q1 := by
  obtain ⟨⟨n, hW, hZ, hY⟩, hK, hT, hS, hF⟩ := id hI
  have hC := kX3_change l D cI cS a x E T Kp P F S n hW hZ w1 w2 w3
  have hM := kX4_change l D cI cS b E K2 Bf As Q n hW (60 * t) hY (by omega) w1 w2 w3
  cases hc : (oyB w1 n && (inB w2 0 5 && inB w3 0 (gOf w2))) with
  | false =>
    rw [hc] at hC hM
    simp only [cond_false] at hC hM
    exact ⟨_, _, _, _, _, _, _, _, hC, hM, inv_f 0 (by omega) hI⟩
  | true =>
    rw [hc] at hC hM
    obtain ⟨c1, c2⟩ := Bool.and_eq_true_iff.mp hc
    obtain ⟨c2, c3⟩ := Bool.and_eq_true_iff.mp c2
    obtain ⟨d1, d2⟩ := inB_t 5 rfl (by decide) c2
    refine ⟨_, _, _, _, _, _, _, _, hC, hM, inv_E hI ?_⟩
    obtain ⟨k, hk, rfl⟩ : ∃ k, k ≤ 5 ∧ w2 = nI k := ⟨ix w2, d2, d1⟩
    rw [ix_nI (by omega)]
    rcases (show k = 0 ∨ k = 1 ∨ k = 2 ∨ k = 3 ∨ k = 4 ∨ k = 5 by omega) with rfl | rfl | rfl | rfl | rfl | rfl
    · obtain ⟨e1, e2⟩ := inB_t 6 rfl (by decide) c3
      exact iE_up (n1 := n) (Wf_up2 hW ⟨_, e2, e1⟩) hZ hY ⟨rfl, rfl⟩
    · obtain ⟨e1, e2⟩ := inB_t 5 rfl (by decide) c3
      exact iE_up (n1 := n) (Wf_up3 hW ⟨_, e2, e1⟩) hZ hY ⟨rfl, rfl⟩
    · obtain ⟨e1, e2⟩ := inB_t 99 rfl (by decide) c3
      exact iE_up (n1 := n) (Wf_up4 hW ⟨_, e2, e1⟩) hZ hY ⟨rfl, rfl⟩
    · obtain ⟨e1, e2⟩ := inB_t 999 rfl (by decide) c3
      exact iE_up (n1 := n) (Wf_up5 hW ⟨_, e2, e1⟩) hZ hY ⟨rfl, rfl⟩
    · obtain ⟨e1, e2⟩ := inB_t 999 rfl (by decide) c3
      exact iE_up (n1 := n) (Wf_up6 hW ⟨_, e2, e1⟩) hZ hY ⟨rfl, rfl⟩
    · obtain ⟨e1, e2⟩ := inB_t 999 rfl (by decide) c3
      exact iE_up (n1 := n) (Wf_up7 hW ⟨_, e2, e1⟩) hZ hY ⟨rfl, rfl⟩
theorem op_open (l : Launch) (D : va_G) (cI cS : ClassId) (a b : Nat → Nat) (x : xS) {t : Nat} {E T Kp P F : Nat → Nat → Int32} {S : Nat → Nat → Nat → Int32} {K2 Bf As Q : Nat → Nat → Int32} (hI : lInvA t E Kp P S F K2 Q) (ht : t < 512) (w1 : Int32) : ∃ (r : Int32) (E1 Kp1 P1 : Nat → Nat → Int32) (S1 : Nat → Nat → Nat → Int32) (F1 K1 Q1 : Nat → Nat → Int32), vMet l D (vT cI cS) yX3_open cX3_open 3 (some .int) 2 44 (cW cI cS a) v0 [.ref (a 0), .int w1] (E, T, Kp, P, S, F) (cPost (some (.int r)) E1 Kp1 P1 S1 F1) ∧ vMet l D (vT cI cS) yX4_open cX4_open 4 (some .int) 3 66 (mW cI b) v0 [.ref (b 0), .int w1] (E, K2, Bf, As, Q) (mPost (some (.int r)) E1 K1 Q1) ∧ lInvA (t + 1) E1 Kp1 P1 S1 F1 K1 Q1 := by
  obtain ⟨⟨n, hW, hZ, hY⟩, hK, hT, hS, hF⟩ := id hI
  have hC := kX3_open l D cI cS a E T Kp P F S n hW hZ w1
  have hM := kX4_open l D cI cS b E K2 Bf As Q n hW (60 * t) hY (by omega) w1
  cases hc : (oyB w1 n) with
  | false =>
    rw [hc] at hC hM
    simp only [cond_false] at hC hM
    exact ⟨_, _, _, _, _, _, _, _, hC, hM, inv_f 0 (by omega) hI⟩
  | true =>
    rw [hc] at hC hM
    exact ⟨_, _, _, _, _, _, _, _, hC, hM, inv_E hI (iE_up (n1 := n) (Wf_up7 (Wf_up6 (Wf_up5 (Wf_up4 hW ⟨0, Nat.zero_le _, rfl⟩) ⟨0, Nat.zero_le _, rfl⟩) ⟨0, Nat.zero_le _, rfl⟩) ⟨0, Nat.zero_le _, rfl⟩) hZ hY ⟨rfl, rfl⟩)⟩
theorem op_go (l : Launch) (D : va_G) (cI cS : ClassId) (a b : Nat → Nat) (x : xS) {t : Nat} {E T Kp P F : Nat → Nat → Int32} {S : Nat → Nat → Nat → Int32} {K2 Bf As Q : Nat → Nat → Int32} (hI : lInvA t E Kp P S F K2 Q) (ht : t < 512) (w1 : Int32) : ∃ (r : Int32) (E1 Kp1 P1 : Nat → Nat → Int32) (S1 : Nat → Nat → Nat → Int32) (F1 K1 Q1 : Nat → Nat → Int32), vMet l D (vT cI cS) yX3_go cX3_go 2 (some .int) 5 104 (cW cI cS a) v0 [.ref (a 0), .int w1] (E, T, Kp, P, S, F) (cPost (some (.int r)) E1 Kp1 P1 S1 F1) ∧ vMet l D (vT cI cS) yX4_go cX4_go 2 (some .int) 5 111 (mW cI b) v0 [.ref (b 0), .int w1] (E, K2, Bf, As, Q) (mPost (some (.int r)) E1 K1 Q1) ∧ lInvA (t + 1) E1 Kp1 P1 S1 F1 K1 Q1 := by
  obtain ⟨⟨n, hW, hZ, hY⟩, hK, hT, hS, hF⟩ := id hI
  have hC := kX3_go l D cI cS a E T Kp P F S n hW hZ w1
  have hM := kX4_go l D cI cS b E K2 Bf As Q n hW (60 * t) hY (by omega) w1
  cases hc : (inB w1 1 60) with
  | false =>
    rw [hc] at hC hM
    simp only [cond_false] at hC hM
    exact ⟨_, _, _, _, _, _, _, _, hC, hM, inv_f 0 (by omega) hI⟩
  | true =>
    rw [hc] at hC hM
    obtain ⟨d1, d2, d3⟩ := inBl_t 1 60 rfl rfl (by decide) (by decide) hc
    by_cases h : 99999 < E 9 2 + w1
    · simp only [cond_true, if_pos h] at hC hM
      exact ⟨_, _, _, _, _, _, _, _, hC, hM, inv_f 4 (by omega) hI⟩
    · simp only [cond_true, if_neg h] at hC hM
      exact ⟨_, _, _, _, _, _, _, _, hC, hM, inv_E hI (⟨n, Wf_years hW 0 _, (yearsS_94 _ _ _ _).trans hZ, bd_le (years_bd hY (ix w1) (by omega)) (by omega)⟩)⟩
theorem op_now (l : Launch) (D : va_G) (cI cS : ClassId) (a b : Nat → Nat) (x : xS) {t : Nat} {E T Kp P F : Nat → Nat → Int32} {S : Nat → Nat → Nat → Int32} {K2 Bf As Q : Nat → Nat → Int32} (hI : lInvA t E Kp P S F K2 Q) (ht : t < 512) (w1 : Int32) : ∃ (r : Int32) (E1 Kp1 P1 : Nat → Nat → Int32) (S1 : Nat → Nat → Nat → Int32) (F1 K1 Q1 : Nat → Nat → Int32), vMet l D (vT cI cS) yX3_now cX3_now 2 (some .int) 4 78 (cW cI cS a) v0 [.ref (a 0), .int w1] (E, T, Kp, P, S, F) (cPost (some (.int r)) E1 Kp1 P1 S1 F1) ∧ vMet l D (vT cI cS) yX4_now cX4_now 4 (some .int) 4 87 (mW cI b) v0 [.ref (b 0), .int w1] (E, K2, Bf, As, Q) (mPost (some (.int r)) E1 K1 Q1) ∧ lInvA (t + 1) E1 Kp1 P1 S1 F1 K1 Q1 := by
  obtain ⟨⟨n, hW, hZ, hY⟩, hK, hT, hS, hF⟩ := id hI
  have hC := kX3_now l D cI cS a E T Kp P F S n hW hZ w1
  have hM := kX4_now l D cI cS b E K2 Bf As Q n hW (60 * t) hY (by omega) w1
  cases hc : (sel7 w1) with
  | false =>
    rw [hc] at hC hM
    simp only [cond_false] at hC hM
    exact ⟨_, _, _, _, _, _, _, _, hC, hM, inv_f 0 (by omega) hI⟩
  | true =>
    rw [hc] at hC hM
    exact ⟨_, _, _, _, _, _, _, _, hC, hM, inv_0 hI⟩
theorem op_ahead (l : Launch) (D : va_G) (cI cS : ClassId) (a b : Nat → Nat) (x : xS) {t : Nat} {E T Kp P F : Nat → Nat → Int32} {S : Nat → Nat → Nat → Int32} {K2 Bf As Q : Nat → Nat → Int32} (hI : lInvA t E Kp P S F K2 Q) (ht : t < 512) (w1 w2 w3 : Int32) : ∃ (r : Int32) (E1 Kp1 P1 : Nat → Nat → Int32) (S1 : Nat → Nat → Nat → Int32) (F1 K1 Q1 : Nat → Nat → Int32), vMet l D (vT cI cS) yX3_ahead cX3_ahead 5 (some .int) 5 104 (cW cI cS a) v0 [.ref (a 0), .int w1, .int w2, .int w3] (E, T, Kp, P, S, F) (cPost (some (.int r)) E1 Kp1 P1 S1 F1) ∧ vMet l D (vT cI cS) yX4_ahead cX4_ahead 5 (some .int) 6 135 (mW cI b) v0 [.ref (b 0), .int w1, .int w2, .int w3] (E, K2, Bf, As, Q) (mPost (some (.int r)) E1 K1 Q1) ∧ lInvA (t + 1) E1 Kp1 P1 S1 F1 K1 Q1 := by
  obtain ⟨⟨n, hW, hZ, hY⟩, hK, hT, hS, hF⟩ := id hI
  have hC := kX3_ahead l D cI cS a E T Kp P F S n hW hZ w1 w2 w3
  have hM := kX4_ahead l D cI cS b E K2 Bf As Q n hW (60 * t) hY (by omega) w1 w2 w3
  cases hc : (oyB w1 n && (w235 w2 && inB w3 0 100)) with
  | false =>
    rw [hc] at hC hM
    simp only [cond_false] at hC hM
    exact ⟨_, _, _, _, _, _, _, _, hC, hM, inv_f 0 (by omega) hI⟩
  | true =>
    rw [hc] at hC hM
    exact ⟨_, _, _, _, _, _, _, _, hC, hM, inv_0 hI⟩
theorem op_worth (l : Launch) (D : va_G) (cI cS : ClassId) (a b : Nat → Nat) (x : xS) {t : Nat} {E T Kp P F : Nat → Nat → Int32} {S : Nat → Nat → Nat → Int32} {K2 Bf As Q : Nat → Nat → Int32} (hI : lInvA t E Kp P S F K2 Q) (ht : t < 512) (w1 w2 : Int32) : ∃ (r : Int32) (E1 Kp1 P1 : Nat → Nat → Int32) (S1 : Nat → Nat → Nat → Int32) (F1 K1 Q1 : Nat → Nat → Int32), vMet l D (vT cI cS) yX3_worth cX3_worth 3 (some .int) 5 104 (cW cI cS a) v0 [.ref (a 0), .int w1, .int w2] (E, T, Kp, P, S, F) (cPost (some (.int r)) E1 Kp1 P1 S1 F1) ∧ vMet l D (vT cI cS) yX4_worth cX4_worth 3 (some .int) 6 135 (mW cI b) v0 [.ref (b 0), .int w1, .int w2] (E, K2, Bf, As, Q) (mPost (some (.int r)) E1 K1 Q1) ∧ lInvA (t + 1) E1 Kp1 P1 S1 F1 K1 Q1 := by
  obtain ⟨⟨n, hW, hZ, hY⟩, hK, hT, hS, hF⟩ := id hI
  have hC := kX3_worth l D cI cS a E T Kp P F S n hW hZ w1 w2
  have hM := kX4_worth l D cI cS b E K2 Bf As Q n hW (60 * t) hY (by omega) w1 w2
  cases hc : (oyB w1 n && inB w2 0 100) with
  | false =>
    rw [hc] at hC hM
    simp only [cond_false] at hC hM
    exact ⟨_, _, _, _, _, _, _, _, hC, hM, inv_f 0 (by omega) hI⟩
  | true =>
    rw [hc] at hC hM
    exact ⟨_, _, _, _, _, _, _, _, hC, hM, inv_0 hI⟩
theorem op_hidden (l : Launch) (D : va_G) (cI cS : ClassId) (a b : Nat → Nat) (x : xS) {t : Nat} {E T Kp P F : Nat → Nat → Int32} {S : Nat → Nat → Nat → Int32} {K2 Bf As Q : Nat → Nat → Int32} (hI : lInvA t E Kp P S F K2 Q) (ht : t < 512) (w1 : Int32) : ∃ (r : Int32) (E1 Kp1 P1 : Nat → Nat → Int32) (S1 : Nat → Nat → Nat → Int32) (F1 K1 Q1 : Nat → Nat → Int32), vMet l D (vT cI cS) yX3_hidden cX3_hidden 3 (some .int) 4 82 (cW cI cS a) v0 [.ref (a 0), .int w1] (E, T, Kp, P, S, F) (cPost (some (.int r)) E1 Kp1 P1 S1 F1) ∧ vMet l D (vT cI cS) yX4_hidden cX4_hidden 3 (some .int) 4 89 (mW cI b) v0 [.ref (b 0), .int w1] (E, K2, Bf, As, Q) (mPost (some (.int r)) E1 K1 Q1) ∧ lInvA (t + 1) E1 Kp1 P1 S1 F1 K1 Q1 := by
  obtain ⟨⟨n, hW, hZ, hY⟩, hK, hT, hS, hF⟩ := id hI
  have hC := kX3_hidden l D cI cS a E T Kp P F S n hW hZ w1
  have hM := kX4_hidden l D cI cS b E K2 Bf As Q n hW (60 * t) hY (by omega) w1
  cases hc : (oyB w1 n) with
  | false =>
    rw [hc] at hC hM
    simp only [cond_false] at hC hM
    exact ⟨_, _, _, _, _, _, _, _, hC, hM, inv_f 0 (by omega) hI⟩
  | true =>
    rw [hc] at hC hM
    by_cases h : fstN (fun j => hiddenS (yearsS n 0 E j) (ix w1)) 201 < 201
    · simp only [cond_true, if_pos h] at hC hM
      exact ⟨_, _, _, _, _, _, _, _, hC, hM, inv_0 hI⟩
    · simp only [cond_true, if_neg h] at hC hM
      exact ⟨_, _, _, _, _, _, _, _, hC, hM, inv_f 3 (by omega) hI⟩
theorem op_told (l : Launch) (D : va_G) (cI cS : ClassId) (a b : Nat → Nat) (x : xS) {t : Nat} {E T Kp P F : Nat → Nat → Int32} {S : Nat → Nat → Nat → Int32} {K2 Bf As Q : Nat → Nat → Int32} (hI : lInvA t E Kp P S F K2 Q) (ht : t < 512) (w1 : Int32) : ∃ (r : Int32) (E1 Kp1 P1 : Nat → Nat → Int32) (S1 : Nat → Nat → Nat → Int32) (F1 K1 Q1 : Nat → Nat → Int32), vMet l D (vT cI cS) yX3_told cX3_told 3 (some .int) 4 82 (cW cI cS a) v0 [.ref (a 0), .int w1] (E, T, Kp, P, S, F) (cPost (some (.int r)) E1 Kp1 P1 S1 F1) ∧ vMet l D (vT cI cS) yX4_told cX4_told 3 (some .int) 4 89 (mW cI b) v0 [.ref (b 0), .int w1] (E, K2, Bf, As, Q) (mPost (some (.int r)) E1 K1 Q1) ∧ lInvA (t + 1) E1 Kp1 P1 S1 F1 K1 Q1 := by
  obtain ⟨⟨n, hW, hZ, hY⟩, hK, hT, hS, hF⟩ := id hI
  have hC := kX3_told l D cI cS a E T Kp P F S n hW hZ w1
  have hM := kX4_told l D cI cS b E K2 Bf As Q n hW (60 * t) hY (by omega) w1
  cases hc : (oyB w1 n) with
  | false =>
    rw [hc] at hC hM
    simp only [cond_false] at hC hM
    exact ⟨_, _, _, _, _, _, _, _, hC, hM, inv_f 0 (by omega) hI⟩
  | true =>
    rw [hc] at hC hM
    by_cases h : fstN (fun j => toldS (yearsS n 0 E j) (ix w1)) 201 < 201
    · simp only [cond_true, if_pos h] at hC hM
      exact ⟨_, _, _, _, _, _, _, _, hC, hM, inv_0 hI⟩
    · simp only [cond_true, if_neg h] at hC hM
      exact ⟨_, _, _, _, _, _, _, _, hC, hM, inv_f 3 (by omega) hI⟩
theorem op_dive (l : Launch) (D : va_G) (cI cS : ClassId) (a b : Nat → Nat) (x : xS) {t : Nat} {E T Kp P F : Nat → Nat → Int32} {S : Nat → Nat → Nat → Int32} {K2 Bf As Q : Nat → Nat → Int32} (hI : lInvA t E Kp P S F K2 Q) (ht : t < 512) (w1 : Int32) : ∃ (r : Int32) (E1 Kp1 P1 : Nat → Nat → Int32) (S1 : Nat → Nat → Nat → Int32) (F1 K1 Q1 : Nat → Nat → Int32), vMet l D (vT cI cS) yX3_dive cX3_dive 6 (some .int) 4 82 (cW cI cS a) v0 [.ref (a 0), .int w1] (E, T, Kp, P, S, F) (cPost (some (.int r)) E1 Kp1 P1 S1 F1) ∧ vMet l D (vT cI cS) yX4_dive cX4_dive 5 (some .int) 4 89 (mW cI b) v0 [.ref (b 0), .int w1] (E, K2, Bf, As, Q) (mPost (some (.int r)) E1 K1 Q1) ∧ lInvA (t + 1) E1 Kp1 P1 S1 F1 K1 Q1 := by
  obtain ⟨⟨n, hW, hZ, hY⟩, hK, hT, hS, hF⟩ := id hI
  have hC := kX3_dive l D cI cS a E T Kp P F S n hW hZ w1
  have hM := kX4_dive l D cI cS b E K2 Bf As Q n hW (60 * t) hY (by omega) w1
  cases hc : (oyB w1 n) with
  | false =>
    rw [hc] at hC hM
    simp only [cond_false] at hC hM
    exact ⟨_, _, _, _, _, _, _, _, hC, hM, inv_f 0 (by omega) hI⟩
  | true =>
    rw [hc] at hC hM
    exact ⟨_, _, _, _, _, _, _, _, hC, hM, inv_0 hI⟩
theorem op_sow (l : Launch) (D : va_G) (cI cS : ClassId) (a b : Nat → Nat) (x : xS) {t : Nat} {E T Kp P F : Nat → Nat → Int32} {S : Nat → Nat → Nat → Int32} {K2 Bf As Q : Nat → Nat → Int32} (hI : lInvA t E Kp P S F K2 Q) (ht : t < 512) (w1 w2 : Int32) : ∃ (r : Int32) (E1 Kp1 P1 : Nat → Nat → Int32) (S1 : Nat → Nat → Nat → Int32) (F1 K1 Q1 : Nat → Nat → Int32), vMet l D (vT cI cS) yX3_sow cX3_sow 6 (some .int) 5 104 (cW cI cS a) v0 [.ref (a 0), .int w1, .int w2] (E, T, Kp, P, S, F) (cPost (some (.int r)) E1 Kp1 P1 S1 F1) ∧ vMet l D (vT cI cS) yX4_sow cX4_sow 3 (some .int) 7 164 (mW cI b) v0 [.ref (b 0), .int w1, .int w2] (E, K2, Bf, As, Q) (mPost (some (.int r)) E1 K1 Q1) ∧ lInvA (t + 1) E1 Kp1 P1 S1 F1 K1 Q1 := by
  obtain ⟨⟨n, hW, hZ, hY⟩, hK, hT, hS, hF⟩ := id hI
  have hC := kX3_sow l D cI cS a E T Kp P F S n hW hZ w1 w2
  have hM := kX4_sow l D cI cS b E K2 Bf As Q n hW (60 * t) hY (by omega) w1 w2
  cases hc : (oyB w1 n && inB w2 0 40) with
  | false =>
    rw [hc] at hC hM
    simp only [cond_false] at hC hM
    exact ⟨_, _, _, _, _, _, _, _, hC, hM, inv_f 0 (by omega) hI⟩
  | true =>
    rw [hc] at hC hM
    exact ⟨_, _, _, _, _, _, _, _, hC, hM, inv_0 hI⟩
theorem op_kindFor (l : Launch) (D : va_G) (cI cS : ClassId) (a b : Nat → Nat) (x : xS) {t : Nat} {E T Kp P F : Nat → Nat → Int32} {S : Nat → Nat → Nat → Int32} {K2 Bf As Q : Nat → Nat → Int32} (hI : lInvA t E Kp P S F K2 Q) (ht : t < 512) (w1 w2 : Int32) : ∃ (r : Int32) (E1 Kp1 P1 : Nat → Nat → Int32) (S1 : Nat → Nat → Nat → Int32) (F1 K1 Q1 : Nat → Nat → Int32), vMet l D (vT cI cS) yX3_kindFor cX3_kindFor 7 (some .int) 5 104 (cW cI cS a) v0 [.ref (a 0), .int w1, .int w2] (E, T, Kp, P, S, F) (cPost (some (.int r)) E1 Kp1 P1 S1 F1) ∧ vMet l D (vT cI cS) yX4_kindFor cX4_kindFor 3 (some .int) 7 164 (mW cI b) v0 [.ref (b 0), .int w1, .int w2] (E, K2, Bf, As, Q) (mPost (some (.int r)) E1 K1 Q1) ∧ lInvA (t + 1) E1 Kp1 P1 S1 F1 K1 Q1 := by
  obtain ⟨⟨n, hW, hZ, hY⟩, hK, hT, hS, hF⟩ := id hI
  have hC := kX3_kindFor l D cI cS a E T Kp P F S n hW hZ w1 w2
  have hM := kX4_kindFor l D cI cS b E K2 Bf As Q n hW (60 * t) hY (by omega) w1 w2
  cases hc : (oyB w1 n && inB w2 0 40) with
  | false =>
    rw [hc] at hC hM
    simp only [cond_false] at hC hM
    exact ⟨_, _, _, _, _, _, _, _, hC, hM, inv_f 0 (by omega) hI⟩
  | true =>
    rw [hc] at hC hM
    exact ⟨_, _, _, _, _, _, _, _, hC, hM, inv_0 hI⟩
theorem op_weightFor (l : Launch) (D : va_G) (cI cS : ClassId) (a b : Nat → Nat) (x : xS) {t : Nat} {E T Kp P F : Nat → Nat → Int32} {S : Nat → Nat → Nat → Int32} {K2 Bf As Q : Nat → Nat → Int32} (hI : lInvA t E Kp P S F K2 Q) (ht : t < 512) (w1 w2 : Int32) : ∃ (r : Int32) (E1 Kp1 P1 : Nat → Nat → Int32) (S1 : Nat → Nat → Nat → Int32) (F1 K1 Q1 : Nat → Nat → Int32), vMet l D (vT cI cS) yX3_weightFor cX3_weightFor 4 (some .int) 5 104 (cW cI cS a) v0 [.ref (a 0), .int w1, .int w2] (E, T, Kp, P, S, F) (cPost (some (.int r)) E1 Kp1 P1 S1 F1) ∧ vMet l D (vT cI cS) yX4_weightFor cX4_weightFor 6 (some .int) 6 134 (mW cI b) v0 [.ref (b 0), .int w1, .int w2] (E, K2, Bf, As, Q) (mPost (some (.int r)) E1 K1 Q1) ∧ lInvA (t + 1) E1 Kp1 P1 S1 F1 K1 Q1 := by
  obtain ⟨⟨n, hW, hZ, hY⟩, hK, hT, hS, hF⟩ := id hI
  have hC := kX3_weightFor l D cI cS a E T Kp P F S n hW hZ w1 w2
  have hM := kX4_weightFor l D cI cS b E K2 Bf As Q n hW (60 * t) hY (by omega) w1 w2
  cases hc : (oyB w1 n && inB w2 0 40) with
  | false =>
    rw [hc] at hC hM
    simp only [cond_false] at hC hM
    exact ⟨_, _, _, _, _, _, _, _, hC, hM, inv_f 0 (by omega) hI⟩
  | true =>
    rw [hc] at hC hM
    by_cases h : lstN (fun v => hiddenS (yearsS n 0 (up E 4 (ix w1) (nI v)) (ix w2)) (ix w1)) 99 = 0
    · simp only [cond_true, if_pos h] at hC hM
      exact ⟨_, _, _, _, _, _, _, _, hC, hM, inv_f 3 (by omega) hI⟩
    · simp only [cond_true, if_neg h] at hC hM
      exact ⟨_, _, _, _, _, _, _, _, hC, hM, inv_0 hI⟩
theorem op_comesFor (l : Launch) (D : va_G) (cI cS : ClassId) (a b : Nat → Nat) (x : xS) {t : Nat} {E T Kp P F : Nat → Nat → Int32} {S : Nat → Nat → Nat → Int32} {K2 Bf As Q : Nat → Nat → Int32} (hI : lInvA t E Kp P S F K2 Q) (ht : t < 512) (w1 w2 : Int32) : ∃ (r : Int32) (E1 Kp1 P1 : Nat → Nat → Int32) (S1 : Nat → Nat → Nat → Int32) (F1 K1 Q1 : Nat → Nat → Int32), vMet l D (vT cI cS) yX3_comesFor cX3_comesFor 4 (some .int) 5 104 (cW cI cS a) v0 [.ref (a 0), .int w1, .int w2] (E, T, Kp, P, S, F) (cPost (some (.int r)) E1 Kp1 P1 S1 F1) ∧ vMet l D (vT cI cS) yX4_comesFor cX4_comesFor 6 (some .int) 6 134 (mW cI b) v0 [.ref (b 0), .int w1, .int w2] (E, K2, Bf, As, Q) (mPost (some (.int r)) E1 K1 Q1) ∧ lInvA (t + 1) E1 Kp1 P1 S1 F1 K1 Q1 := by
  obtain ⟨⟨n, hW, hZ, hY⟩, hK, hT, hS, hF⟩ := id hI
  have hC := kX3_comesFor l D cI cS a E T Kp P F S n hW hZ w1 w2
  have hM := kX4_comesFor l D cI cS b E K2 Bf As Q n hW (60 * t) hY (by omega) w1 w2
  cases hc : (oyB w1 n && inB w2 0 40) with
  | false =>
    rw [hc] at hC hM
    simp only [cond_false] at hC hM
    exact ⟨_, _, _, _, _, _, _, _, hC, hM, inv_f 0 (by omega) hI⟩
  | true =>
    rw [hc] at hC hM
    by_cases h : fstN (fun v => hiddenS (yearsS n 0 (up E 9 1 (nI v)) (ix w2)) (ix w1)) 100 < 100
    · simp only [cond_true, if_pos h] at hC hM
      exact ⟨_, _, _, _, _, _, _, _, hC, hM, inv_0 hI⟩
    · simp only [cond_true, if_neg h] at hC hM
      exact ⟨_, _, _, _, _, _, _, _, hC, hM, inv_f 3 (by omega) hI⟩
theorem op_coldFor (l : Launch) (D : va_G) (cI cS : ClassId) (a b : Nat → Nat) (x : xS) {t : Nat} {E T Kp P F : Nat → Nat → Int32} {S : Nat → Nat → Nat → Int32} {K2 Bf As Q : Nat → Nat → Int32} (hI : lInvA t E Kp P S F K2 Q) (ht : t < 512) (w1 w2 : Int32) : ∃ (r : Int32) (E1 Kp1 P1 : Nat → Nat → Int32) (S1 : Nat → Nat → Nat → Int32) (F1 K1 Q1 : Nat → Nat → Int32), vMet l D (vT cI cS) yX3_coldFor cX3_coldFor 4 (some .int) 5 104 (cW cI cS a) v0 [.ref (a 0), .int w1, .int w2] (E, T, Kp, P, S, F) (cPost (some (.int r)) E1 Kp1 P1 S1 F1) ∧ vMet l D (vT cI cS) yX4_coldFor cX4_coldFor 7 (some .int) 6 135 (mW cI b) v0 [.ref (b 0), .int w1, .int w2] (E, K2, Bf, As, Q) (mPost (some (.int r)) E1 K1 Q1) ∧ lInvA (t + 1) E1 Kp1 P1 S1 F1 K1 Q1 := by
  obtain ⟨⟨n, hW, hZ, hY⟩, hK, hT, hS, hF⟩ := id hI
  have hC := kX3_coldFor l D cI cS a E T Kp P F S n hW hZ w1 w2
  have hM := kX4_coldFor l D cI cS b E K2 Bf As Q n hW (60 * t) hY (by omega) w1 w2
  cases hc : (oyB w1 n && inB w2 0 40) with
  | false =>
    rw [hc] at hC hM
    simp only [cond_false] at hC hM
    exact ⟨_, _, _, _, _, _, _, _, hC, hM, inv_f 0 (by omega) hI⟩
  | true =>
    rw [hc] at hC hM
    by_cases h : fstN (fun v => decide (yearsS n 0 (up E 1 (ix (E 3 (ix w1))) (nI v)) (ix w2) 7 (ix w1) = E 7 (ix w1))) 10 < 10
    · simp only [cond_true, if_pos h] at hC hM
      exact ⟨_, _, _, _, _, _, _, _, hC, hM, inv_0 hI⟩
    · simp only [cond_true, if_neg h] at hC hM
      exact ⟨_, _, _, _, _, _, _, _, hC, hM, inv_f 3 (by omega) hI⟩
theorem op_room (l : Launch) (D : va_G) (cI cS : ClassId) (a b : Nat → Nat) (x : xS) {t : Nat} {E T Kp P F : Nat → Nat → Int32} {S : Nat → Nat → Nat → Int32} {K2 Bf As Q : Nat → Nat → Int32} (hI : lInvA t E Kp P S F K2 Q) (ht : t < 512) (w1 w2 w3 : Int32) : ∃ (r : Int32) (E1 Kp1 P1 : Nat → Nat → Int32) (S1 : Nat → Nat → Nat → Int32) (F1 K1 Q1 : Nat → Nat → Int32), vMet l D (vT cI cS) yX3_room cX3_room 9 (some .int) 6 128 (cW cI cS a) v0 [.ref (a 0), .int w1, .int w2, .int w3] (E, T, Kp, P, S, F) (cPost (some (.int r)) E1 Kp1 P1 S1 F1) ∧ vMet l D (vT cI cS) yX4_room cX4_room 7 (some .int) 4 89 (mW cI b) v0 [.ref (b 0), .int w1, .int w2, .int w3] (E, K2, Bf, As, Q) (mPost (some (.int r)) E1 K1 Q1) ∧ lInvA (t + 1) E1 Kp1 P1 S1 F1 K1 Q1 := by
  obtain ⟨⟨n, hW, hZ, hY⟩, hK, hT, hS, hF⟩ := id hI
  have hC := kX3_room l D cI cS a E T Kp P F S n hW hZ w1 w2 w3
  have hM := kX4_room l D cI cS b E K2 Bf As Q n hW (60 * t) hY (by omega) w1 w2 w3
  cases hc : (oyB w1 n && (inB w2 0 999 && inB w3 0 20)) with
  | false =>
    rw [hc] at hC hM
    simp only [cond_false] at hC hM
    exact ⟨_, _, _, _, _, _, _, _, hC, hM, inv_f 0 (by omega) hI⟩
  | true =>
    rw [hc] at hC hM
    by_cases h : rmS (fun k => !decide (yearsS n (nI k) E (ix w3) 5 (ix w1) < w2)) (ix w1) (2 ^ n) < 0
    · simp only [cond_true, if_pos h] at hC hM
      exact ⟨_, _, _, _, _, _, _, _, hC, hM, inv_f 3 (by omega) hI⟩
    · simp only [cond_true, if_neg h] at hC hM
      exact ⟨_, _, _, _, _, _, _, _, hC, hM, inv_0 hI⟩
theorem op_string (l : Launch) (D : va_G) (cI cS : ClassId) (a b : Nat → Nat) (x : xS) {t : Nat} {E T Kp P F : Nat → Nat → Int32} {S : Nat → Nat → Nat → Int32} {K2 Bf As Q : Nat → Nat → Int32} (hI : lInvA t E Kp P S F K2 Q) (ht : t < 512) (w1 : Int32) : ∃ (r : Int32) (E1 Kp1 P1 : Nat → Nat → Int32) (S1 : Nat → Nat → Nat → Int32) (F1 K1 Q1 : Nat → Nat → Int32), vMet l D (vT cI cS) yX3_string cX3_string 6 (some .int) 1 23 (cW cI cS a) v0 [.ref (a 0), .int w1] (E, T, Kp, P, S, F) (cPost (some (.int r)) E1 Kp1 P1 S1 F1) ∧ vMet l D (vT cI cS) yX4_string cX4_string 5 (some .int) 2 45 (mW cI b) v0 [.ref (b 0), .int w1] (E, K2, Bf, As, Q) (mPost (some (.int r)) E1 K1 Q1) ∧ lInvA (t + 1) E1 Kp1 P1 S1 F1 K1 Q1 := by
  obtain ⟨⟨n, hW, hZ, hY⟩, hK, hT, hS, hF⟩ := id hI
  have hC := kX3_string l D cI cS a E T Kp P F S n hW hZ w1
  have hM := kX4_string l D cI cS b E K2 Bf As Q n hW (60 * t) hY (by omega) (iWQ hI) w1
  cases hc : (inB w1 0 999) with
  | false =>
    rw [hc] at hC hM
    simp only [cond_false] at hC hM
    exact ⟨_, _, _, _, _, _, _, _, hC, hM, inv_f 0 (by omega) hI⟩
  | true =>
    rw [hc] at hC hM
    exact ⟨_, _, _, _, _, _, _, _, hC, hM, inv_0 hI⟩
theorem op_match (l : Launch) (D : va_G) (cI cS : ClassId) (a b : Nat → Nat) (x : xS) {t : Nat} {E T Kp P F : Nat → Nat → Int32} {S : Nat → Nat → Nat → Int32} {K2 Bf As Q : Nat → Nat → Int32} (hI : lInvA t E Kp P S F K2 Q) (ht : t < 512) : ∃ (r : Int32) (E1 Kp1 P1 : Nat → Nat → Int32) (S1 : Nat → Nat → Nat → Int32) (F1 K1 Q1 : Nat → Nat → Int32), vMet l D (vT cI cS) yX3_match cX3_match 3 (some .int) 1 23 (cW cI cS a) v0 [.ref (a 0)] (E, T, Kp, P, S, F) (cPost (some (.int r)) E1 Kp1 P1 S1 F1) ∧ vMet l D (vT cI cS) yX4_match cX4_match 3 (some .int) 2 45 (mW cI b) v0 [.ref (b 0)] (E, K2, Bf, As, Q) (mPost (some (.int r)) E1 K1 Q1) ∧ lInvA (t + 1) E1 Kp1 P1 S1 F1 K1 Q1 := by
  obtain ⟨⟨n, hW, hZ, hY⟩, hK, hT, hS, hF⟩ := id hI
  have hC := kX3_match l D cI cS a E T Kp P F S n hW hZ 
  have hM := kX4_match l D cI cS b E K2 Bf As Q n hW (60 * t) hY (by omega) (iWQ hI) 
  exact ⟨_, _, _, _, _, _, _, _, hC, hM, inv_0 hI⟩
theorem op_pairs (l : Launch) (D : va_G) (cI cS : ClassId) (a b : Nat → Nat) (x : xS) {t : Nat} {E T Kp P F : Nat → Nat → Int32} {S : Nat → Nat → Nat → Int32} {K2 Bf As Q : Nat → Nat → Int32} (hI : lInvA t E Kp P S F K2 Q) (ht : t < 512) (w1 : Int32) : ∃ (r : Int32) (E1 Kp1 P1 : Nat → Nat → Int32) (S1 : Nat → Nat → Nat → Int32) (F1 K1 Q1 : Nat → Nat → Int32), vMet l D (vT cI cS) yX3_pairs cX3_pairs 5 (some .int) 1 23 (cW cI cS a) v0 [.ref (a 0), .int w1] (E, T, Kp, P, S, F) (cPost (some (.int r)) E1 Kp1 P1 S1 F1) ∧ vMet l D (vT cI cS) yX4_pairs cX4_pairs 5 (some .int) 2 45 (mW cI b) v0 [.ref (b 0), .int w1] (E, K2, Bf, As, Q) (mPost (some (.int r)) E1 K1 Q1) ∧ lInvA (t + 1) E1 Kp1 P1 S1 F1 K1 Q1 := by
  obtain ⟨⟨n, hW, hZ, hY⟩, hK, hT, hS, hF⟩ := id hI
  have hC := kX3_pairs l D cI cS a E T Kp P F S n hW hZ w1
  have hM := kX4_pairs l D cI cS b E K2 Bf As Q n hW (60 * t) hY (by omega) (iWQ hI) w1
  cases hc : (inB w1 0 999) with
  | false =>
    rw [hc] at hC hM
    simp only [cond_false] at hC hM
    exact ⟨_, _, _, _, _, _, _, _, hC, hM, inv_f 0 (by omega) hI⟩
  | true =>
    rw [hc] at hC hM
    exact ⟨_, _, _, _, _, _, _, _, hC, hM, inv_0 hI⟩
theorem op_alike (l : Launch) (D : va_G) (cI cS : ClassId) (a b : Nat → Nat) (x : xS) {t : Nat} {E T Kp P F : Nat → Nat → Int32} {S : Nat → Nat → Nat → Int32} {K2 Bf As Q : Nat → Nat → Int32} (hI : lInvA t E Kp P S F K2 Q) (ht : t < 512) (w1 w2 : Int32) : ∃ (r : Int32) (E1 Kp1 P1 : Nat → Nat → Int32) (S1 : Nat → Nat → Nat → Int32) (F1 K1 Q1 : Nat → Nat → Int32), vMet l D (vT cI cS) yX3_alike cX3_alike 5 (some .int) 2 42 (cW cI cS a) v0 [.ref (a 0), .int w1, .int w2] (E, T, Kp, P, S, F) (cPost (some (.int r)) E1 Kp1 P1 S1 F1) ∧ vMet l D (vT cI cS) yX4_alike cX4_alike 5 (some .int) 1 25 (mW cI b) v0 [.ref (b 0), .int w1, .int w2] (E, K2, Bf, As, Q) (mPost (some (.int r)) E1 K1 Q1) ∧ lInvA (t + 1) E1 Kp1 P1 S1 F1 K1 Q1 := by
  obtain ⟨⟨n, hW, hZ, hY⟩, hK, hT, hS, hF⟩ := id hI
  have hC := kX3_alike l D cI cS a E T Kp P F S n hW hZ w1 w2
  have hM := kX4_alike l D cI cS b E K2 Bf As Q n hW (60 * t) hY (by omega) (iWQ hI) w1 w2
  cases hc : (oyB w1 n && inB w2 0 999) with
  | false =>
    rw [hc] at hC hM
    simp only [cond_false] at hC hM
    exact ⟨_, _, _, _, _, _, _, _, hC, hM, inv_f 0 (by omega) hI⟩
  | true =>
    rw [hc] at hC hM
    exact ⟨_, _, _, _, _, _, _, _, hC, hM, inv_0 hI⟩
theorem op_odds (l : Launch) (D : va_G) (cI cS : ClassId) (a b : Nat → Nat) (x : xS) {t : Nat} {E T Kp P F : Nat → Nat → Int32} {S : Nat → Nat → Nat → Int32} {K2 Bf As Q : Nat → Nat → Int32} (hI : lInvA t E Kp P S F K2 Q) (ht : t < 512) (w1 w2 : Int32) : ∃ (r : Int64) (E1 Kp1 P1 : Nat → Nat → Int32) (S1 : Nat → Nat → Nat → Int32) (F1 K1 Q1 : Nat → Nat → Int32), vMet l D (vT cI cS) yX3_odds cX3_odds 10 (some .long) 4 78 (cW cI cS a) v0 [.ref (a 0), .int w1, .int w2] (E, T, Kp, P, S, F) (cPost (some (.long r)) E1 Kp1 P1 S1 F1) ∧ vMet l D (vT cI cS) yX4_odds cX4_odds 9 (some .long) 4 87 (mW cI b) v0 [.ref (b 0), .int w1, .int w2] (E, K2, Bf, As, Q) (mPost (some (.long r)) E1 K1 Q1) ∧ lInvA (t + 1) E1 Kp1 P1 S1 F1 K1 Q1 := by
  obtain ⟨⟨n, hW, hZ, hY⟩, hK, hT, hS, hF⟩ := id hI
  have hC := kX3_odds l D cI cS a E T Kp P F S n hW hZ w1 w2
  have hM := kX4_odds l D cI cS b E K2 Bf As Q n hW (60 * t) hY (by omega) w1 w2
  cases hc : (inB w1 0 20 && inB w2 0 1) with
  | false =>
    rw [hc] at hC hM
    simp only [cond_false] at hC hM
    exact ⟨_, _, _, _, _, _, _, _, hC, hM, inv_f 0 (by omega) hI⟩
  | true =>
    rw [hc] at hC hM
    exact ⟨_, _, _, _, _, _, _, _, hC, hM, inv_0 hI⟩
theorem op_storms (l : Launch) (D : va_G) (cI cS : ClassId) (a b : Nat → Nat) (x : xS) {t : Nat} {E T Kp P F : Nat → Nat → Int32} {S : Nat → Nat → Nat → Int32} {K2 Bf As Q : Nat → Nat → Int32} (hI : lInvA t E Kp P S F K2 Q) (ht : t < 512) (w1 : Int32) : ∃ (r : Int32) (E1 Kp1 P1 : Nat → Nat → Int32) (S1 : Nat → Nat → Nat → Int32) (F1 K1 Q1 : Nat → Nat → Int32), vMet l D (vT cI cS) yX3_storms cX3_storms 5 (some .int) 4 82 (cW cI cS a) v0 [.ref (a 0), .int w1] (E, T, Kp, P, S, F) (cPost (some (.int r)) E1 Kp1 P1 S1 F1) ∧ vMet l D (vT cI cS) yX4_storms cX4_storms 5 (some .int) 4 89 (mW cI b) v0 [.ref (b 0), .int w1] (E, K2, Bf, As, Q) (mPost (some (.int r)) E1 K1 Q1) ∧ lInvA (t + 1) E1 Kp1 P1 S1 F1 K1 Q1 := by
  obtain ⟨⟨n, hW, hZ, hY⟩, hK, hT, hS, hF⟩ := id hI
  have hC := kX3_storms l D cI cS a E T Kp P F S n hW hZ w1
  have hM := kX4_storms l D cI cS b E K2 Bf As Q n hW (60 * t) hY (by omega) w1
  cases hc : (inB w1 1 20) with
  | false =>
    rw [hc] at hC hM
    simp only [cond_false] at hC hM
    exact ⟨_, _, _, _, _, _, _, _, hC, hM, inv_f 0 (by omega) hI⟩
  | true =>
    rw [hc] at hC hM
    obtain ⟨d1, d2, d3⟩ := inBl_t 1 20 rfl rfl (by decide) (by decide) hc
    by_cases h : 99999 < E 9 2 + w1
    · simp only [cond_true, if_pos h] at hC hM
      exact ⟨_, _, _, _, _, _, _, _, hC, hM, inv_f 4 (by omega) hI⟩
    · simp only [cond_true, if_neg h] at hC hM
      exact ⟨_, _, _, _, _, _, _, _, hC, hM, inv_E hI (⟨n, Wf_stms hW _, stms_94 hZ _, bd_le (stms_bd hY (ix w1) (by omega)) (by omega)⟩)⟩
theorem op_seed (l : Launch) (D : va_G) (cI cS : ClassId) (a b : Nat → Nat) (x : xS) {t : Nat} {E T Kp P F : Nat → Nat → Int32} {S : Nat → Nat → Nat → Int32} {K2 Bf As Q : Nat → Nat → Int32} (hI : lInvA t E Kp P S F K2 Q) (ht : t < 512) (w1 : Int32) : ∃ (r : Int32) (E1 Kp1 P1 : Nat → Nat → Int32) (S1 : Nat → Nat → Nat → Int32) (F1 K1 Q1 : Nat → Nat → Int32), vMet l D (vT cI cS) yX3_seed cX3_seed 3 (some .int) 0 0 (cW cI cS a) v0 [.ref (a 0), .int w1] (E, T, Kp, P, S, F) (cPost (some (.int r)) E1 Kp1 P1 S1 F1) ∧ vMet l D (vT cI cS) yX4_seed cX4_seed 2 (some .int) 1 23 (mW cI b) v0 [.ref (b 0), .int w1] (E, K2, Bf, As, Q) (mPost (some (.int r)) E1 K1 Q1) ∧ lInvA (t + 1) E1 Kp1 P1 S1 F1 K1 Q1 := by
  obtain ⟨⟨n, hW, hZ, hY⟩, hK, hT, hS, hF⟩ := id hI
  have hC := kX3_seed l D cI cS a E T Kp P F S n hW hZ w1
  have hM := kX4_seed l D cI cS b E K2 Bf As Q n hW (60 * t) hY (by omega) w1
  exact ⟨_, _, _, _, _, _, _, _, hC, hM, inv_E hI (iE_up (n1 := n) (Wf_up9 hW (by decide)) hZ hY ⟨rfl, rfl⟩)⟩
theorem op_hold (l : Launch) (D : va_G) (cI cS : ClassId) (a b : Nat → Nat) (x : xS) {t : Nat} {E T Kp P F : Nat → Nat → Int32} {S : Nat → Nat → Nat → Int32} {K2 Bf As Q : Nat → Nat → Int32} (hI : lInvA t E Kp P S F K2 Q) (ht : t < 512) (w1 w2 : Int32) : ∃ (r : Int32) (E1 Kp1 P1 : Nat → Nat → Int32) (S1 : Nat → Nat → Nat → Int32) (F1 K1 Q1 : Nat → Nat → Int32), vMet l D (vT cI cS) yX3_hold cX3_hold 3 (some .int) 2 42 (cW cI cS a) v0 [.ref (a 0), .int w1, .int w2] (E, T, Kp, P, S, F) (cPost (some (.int r)) E1 Kp1 P1 S1 F1) ∧ vMet l D (vT cI cS) yX4_hold cX4_hold 3 (some .int) 1 25 (mW cI b) v0 [.ref (b 0), .int w1, .int w2] (E, K2, Bf, As, Q) (mPost (some (.int r)) E1 K1 Q1) ∧ lInvA (t + 1) E1 Kp1 P1 S1 F1 K1 Q1 := by
  obtain ⟨⟨n, hW, hZ, hY⟩, hK, hT, hS, hF⟩ := id hI
  have hC := kX3_hold l D cI cS a E T Kp P F S n hW hZ w1 w2
  have hM := kX4_hold l D cI cS b E K2 Bf As Q n hW (60 * t) hY (by omega) w1 w2
  cases hc : (inB w1 0 9 && (decide (w2 = -1) || oyB w2 n)) with
  | false =>
    rw [hc] at hC hM
    simp only [cond_false] at hC hM
    exact ⟨_, _, _, _, _, _, _, _, hC, hM, inv_f 0 (by omega) hI⟩
  | true =>
    rw [hc] at hC hM
    obtain ⟨c1, c2⟩ := Bool.and_eq_true_iff.mp hc
    have hn8 := hW.1
    refine ⟨_, _, _, _, _, _, _, _, hC, hM, inv_E hI (iE_up (n1 := n) (Wf_up8 hW ?_) hZ hY ⟨rfl, rfl⟩)⟩
    rcases Bool.or_eq_true_iff.mp c2 with e | e
    · exact Or.inl (of_decide_eq_true e)
    · exact Or.inr ⟨_, (oyB_t hn8 e).2, (oyB_t hn8 e).1⟩
theorem op_wipe (l : Launch) (D : va_G) (cI cS : ClassId) (a b : Nat → Nat) (x : xS) {t : Nat} {E T Kp P F : Nat → Nat → Int32} {S : Nat → Nat → Nat → Int32} {K2 Bf As Q : Nat → Nat → Int32} (hI : lInvA t E Kp P S F K2 Q) (ht : t < 512) : ∃ (r : Int32) (E1 Kp1 P1 : Nat → Nat → Int32) (S1 : Nat → Nat → Nat → Int32) (F1 K1 Q1 : Nat → Nat → Int32), vMet l D (vT cI cS) yX3_wipe cX3_wipe 2 (some .int) 0 0 (cW cI cS a) v0 [.ref (a 0)] (E, T, Kp, P, S, F) (cPost (some (.int r)) E1 Kp1 P1 S1 F1) ∧ vMet l D (vT cI cS) yX4_wipe cX4_wipe 2 (some .int) 0 0 (mW cI b) v0 [.ref (b 0)] (E, K2, Bf, As, Q) (mPost (some (.int r)) E1 K1 Q1) ∧ lInvA (t + 1) E1 Kp1 P1 S1 F1 K1 Q1 := by
  obtain ⟨⟨n, hW, hZ, hY⟩, hK, hT, hS, hF⟩ := id hI
  have hC := kX3_wipe l D cI cS a E T Kp P F S n hW hZ 
  have hM := kX4_wipe l D cI cS b E K2 Bf As Q n hW (60 * t) hY (by omega) 
  rw [hT.2.1] at hC
  refine ⟨_, _, _, _, _, _, _, _, hC, hM, ⟨hI.1.mono (by omega), hI.2.1.mono (by omega), ⟨hT.1, rfl, ⟨0, by omega, rfl⟩, hT.2.2.2⟩, hS, hF⟩⟩
theorem op_image (l : Launch) (D : va_G) (cI cS : ClassId) (a b : Nat → Nat) (x : xS) {t : Nat} {E T Kp P F : Nat → Nat → Int32} {S : Nat → Nat → Nat → Int32} {K2 Bf As Q : Nat → Nat → Int32} (hI : lInvA t E Kp P S F K2 Q) (ht : t < 512) : ∃ (r : Int32) (E1 Kp1 P1 : Nat → Nat → Int32) (S1 : Nat → Nat → Nat → Int32) (F1 K1 Q1 : Nat → Nat → Int32), vMet l D (vT cI cS) yX3_image cX3_image 1 (some .int) 2 39 (cW cI cS a) v0 [.ref (a 0)] (E, T, Kp, P, S, F) (cPost (some (.int r)) E1 Kp1 P1 S1 F1) ∧ vMet l D (vT cI cS) yX4_image cX4_image 1 (some .int) 1 22 (mW cI b) v0 [.ref (b 0)] (E, K2, Bf, As, Q) (mPost (some (.int r)) E1 K1 Q1) ∧ lInvA (t + 1) E1 Kp1 P1 S1 F1 K1 Q1 := by
  obtain ⟨⟨n, hW, hZ, hY⟩, hK, hT, hS, hF⟩ := id hI
  have hC := kX3_image l D cI cS a E T Kp P F S n hW hZ 
  have hM := kX4_image l D cI cS b E K2 Bf As Q n hW (60 * t) hY (by omega) 
  refine ⟨_, _, _, _, _, _, _, _, hC, hM, ⟨hI.1.mono (by omega), ⟨rfl, Or.inr rfl, fun _ => ⟨rfl, hI.1.mono (by omega)⟩⟩, hT, hS, hF⟩⟩
theorem op_tear (l : Launch) (D : va_G) (cI cS : ClassId) (a b : Nat → Nat) (x : xS) {t : Nat} {E T Kp P F : Nat → Nat → Int32} {S : Nat → Nat → Nat → Int32} {K2 Bf As Q : Nat → Nat → Int32} (hI : lInvA t E Kp P S F K2 Q) (ht : t < 512) : ∃ (r : Int32) (E1 Kp1 P1 : Nat → Nat → Int32) (S1 : Nat → Nat → Nat → Int32) (F1 K1 Q1 : Nat → Nat → Int32), vMet l D (vT cI cS) yX3_tear cX3_tear 2 (some .int) 0 0 (cW cI cS a) v0 [.ref (a 0)] (E, T, Kp, P, S, F) (cPost (some (.int r)) E1 Kp1 P1 S1 F1) ∧ vMet l D (vT cI cS) yX4_tear cX4_tear 2 (some .int) 0 0 (mW cI b) v0 [.ref (b 0)] (E, K2, Bf, As, Q) (mPost (some (.int r)) E1 K1 Q1) ∧ lInvA (t + 1) E1 Kp1 P1 S1 F1 K1 Q1 := by
  obtain ⟨⟨n, hW, hZ, hY⟩, hK, hT, hS, hF⟩ := id hI
  have hC := kX3_tear l D cI cS a E T Kp P F S n hW hZ 
  have hM := kX4_tear l D cI cS b E K2 Bf As Q n hW (60 * t) hY (by omega) 
  rw [hK.1] at hM
  refine ⟨_, _, _, _, _, _, _, _, hC, hM, ⟨hI.1.mono (by omega), ⟨rfl, Or.inl rfl, fun h => absurd rfl h⟩, hT, hS, hF⟩⟩
theorem op_undo (l : Launch) (D : va_G) (cI cS : ClassId) (a b : Nat → Nat) (x : xS) {t : Nat} {E T Kp P F : Nat → Nat → Int32} {S : Nat → Nat → Nat → Int32} {K2 Bf As Q : Nat → Nat → Int32} (hI : lInvA t E Kp P S F K2 Q) (ht : t < 512) : ∃ (r : Int32) (E1 Kp1 P1 : Nat → Nat → Int32) (S1 : Nat → Nat → Nat → Int32) (F1 K1 Q1 : Nat → Nat → Int32), vMet l D (vT cI cS) yX3_undo cX3_undo 1 (some .int) 2 39 (cW cI cS a) v0 [.ref (a 0)] (E, T, Kp, P, S, F) (cPost (some (.int r)) E1 Kp1 P1 S1 F1) ∧ vMet l D (vT cI cS) yX4_undo cX4_undo 1 (some .int) 1 22 (mW cI b) v0 [.ref (b 0)] (E, K2, Bf, As, Q) (mPost (some (.int r)) E1 K1 Q1) ∧ lInvA (t + 1) E1 Kp1 P1 S1 F1 K1 Q1 := by
  obtain ⟨⟨n, hW, hZ, hY⟩, hK, hT, hS, hF⟩ := id hI
  have hC := kX3_undo l D cI cS a E T Kp P F S n hW hZ 
  have hM := kX4_undo l D cI cS b E K2 Bf As Q n hW (60 * t) hY (by omega) 
  rw [hK.1] at hM
  by_cases h : F 2 0 = 0
  · rw [decide_eq_true h] at hC hM
    exact ⟨_, _, _, _, _, _, _, _, hC, hM, inv_f 3 (by omega) hI⟩
  · obtain ⟨e1, e2⟩ := hK.2.2 (hK.1 ▸ h)
    subst e1
    rw [decide_eq_false h] at hC hM
    exact ⟨_, _, _, _, _, _, _, _, hC, hM, inv_E hI (e2.mono (by omega))⟩
theorem op_count (l : Launch) (D : va_G) (cI cS : ClassId) (a b : Nat → Nat) (x : xS) {t : Nat} {E T Kp P F : Nat → Nat → Int32} {S : Nat → Nat → Nat → Int32} {K2 Bf As Q : Nat → Nat → Int32} (hI : lInvA t E Kp P S F K2 Q) (ht : t < 512) (w1 : Int32) : ∃ (r : Int32) (E1 Kp1 P1 : Nat → Nat → Int32) (S1 : Nat → Nat → Nat → Int32) (F1 K1 Q1 : Nat → Nat → Int32), vMet l D (vT cI cS) yX3_count cX3_count 2 (some .int) 2 43 (cW cI cS a) v0 [.ref (a 0), .int w1] (E, T, Kp, P, S, F) (cPost (some (.int r)) E1 Kp1 P1 S1 F1) ∧ vMet l D (vT cI cS) yX4_count cX4_count 4 (some .int) 3 65 (mW cI b) v0 [.ref (b 0), .int w1] (E, K2, Bf, As, Q) (mPost (some (.int r)) E1 K1 Q1) ∧ lInvA (t + 1) E1 Kp1 P1 S1 F1 K1 Q1 := by
  obtain ⟨⟨n, hW, hZ, hY⟩, hK, hT, hS, hF⟩ := id hI
  have hC := kX3_count l D cI cS a E T Kp P F S n hW hZ w1
  have hM := kX4_count l D cI cS b E K2 Bf As Q n hW (60 * t) hY (by omega) w1
  have e : countS E (fun _ _ => P 4 0) n w1 = countS E Q n w1 := by
    unfold countS
    rw [hT.2.1]
  rw [e] at hC
  cases hc : (sel8 w1) with
  | false =>
    rw [hc] at hC hM
    simp only [cond_false] at hC hM
    exact ⟨_, _, _, _, _, _, _, _, hC, hM, inv_f 0 (by omega) hI⟩
  | true =>
    rw [hc] at hC hM
    exact ⟨_, _, _, _, _, _, _, _, hC, hM, inv_0 hI⟩
theorem op_status (l : Launch) (D : va_G) (cI cS : ClassId) (a b : Nat → Nat) (x : xS) {t : Nat} {E T Kp P F : Nat → Nat → Int32} {S : Nat → Nat → Nat → Int32} {K2 Bf As Q : Nat → Nat → Int32} (hI : lInvA t E Kp P S F K2 Q) (ht : t < 512) (w1 : Int32) : ∃ (r : Int32) (E1 Kp1 P1 : Nat → Nat → Int32) (S1 : Nat → Nat → Nat → Int32) (F1 K1 Q1 : Nat → Nat → Int32), vMet l D (vT cI cS) yX3_status cX3_status 4 (some .int) 1 21 (cW cI cS a) v0 [.ref (a 0), .int w1] (E, T, Kp, P, S, F) (cPost (some (.int r)) E1 Kp1 P1 S1 F1) ∧ vMet l D (vT cI cS) yX4_status cX4_status 2 (some .int) 1 25 (mW cI b) v0 [.ref (b 0), .int w1] (E, K2, Bf, As, Q) (mPost (some (.int r)) E1 K1 Q1) ∧ lInvA (t + 1) E1 Kp1 P1 S1 F1 K1 Q1 := by
  obtain ⟨⟨n, hW, hZ, hY⟩, hK, hT, hS, hF⟩ := id hI
  have hC := kX3_status l D cI cS a E T Kp P F S n hW hZ w1
  have hM := kX4_status l D cI cS b E K2 Bf As Q n hW (60 * t) hY (by omega) w1
  cases hc : (inB w1 (-1) 6) with
  | false =>
    rw [hc] at hC hM
    simp only [cond_false] at hC hM
    exact ⟨_, _, _, _, _, _, _, _, hC, hM, inv_f 0 (by omega) hI⟩
  | true =>
    rw [hc] at hC hM
    obtain ⟨d1, d2⟩ := st_t hc
    have e : (if w1 < 0 then sumS (F 0) 7 else F 0 (ix w1)) = Q 0 (ix (w1 + 1)) := by
      have el := st_v hc
      by_cases h : w1 < 0
      · rw [if_pos h, (el.1 h), hF.2]
      · rw [if_neg h, (el.2 h).1, hF.1 _ (el.2 h).2]
    rw [e] at hC
    exact ⟨_, _, _, _, _, _, _, _, hC, hM, inv_0 hI⟩
theorem op_as (l : Launch) (D : va_G) (cI cS : ClassId) (a b : Nat → Nat) (x : xS) {t : Nat} {E T Kp P F : Nat → Nat → Int32} {S : Nat → Nat → Nat → Int32} {K2 Bf As Q : Nat → Nat → Int32} (hI : lInvA t E Kp P S F K2 Q) (ht : t < 512) (w1 w2 : Int32) : ∃ (r : Int32) (E1 Kp1 P1 : Nat → Nat → Int32) (S1 : Nat → Nat → Nat → Int32) (F1 K1 Q1 : Nat → Nat → Int32), vMet l D (vT cI cS) yX3_as cX3_as 4 (some .int) 3 64 (cW cI cS a) (exA x) [.ref (a 0), .int w1, .int w2] (E, T, Kp, P, S, F) (cPost (some (.int r)) E1 Kp1 P1 S1 F1) ∧ vMet l D (vT cI cS) yX4_as cX4_as 4 (some .int) 1 25 (mW cI b) v0 [.ref (b 0), .int w1, .int w2] (E, K2, Bf, As, Q) (mPost (some (.int r)) E1 K1 Q1) ∧ lInvA (t + 1) E1 Kp1 P1 S1 F1 K1 Q1 := by
  obtain ⟨⟨n, hW, hZ, hY⟩, hK, hT, hS, hF⟩ := id hI
  have hC := kX3_as l D cI cS a x E T Kp P F S n hW hZ w1 w2
  have hM := kX4_as l D cI cS b E K2 Bf As Q n hW (60 * t) hY (by omega) w1 w2
  cases hc : (inB w1 0 9 && inB w2 0 6) with
  | false =>
    rw [hc] at hC hM
    simp only [cond_false] at hC hM
    exact ⟨_, _, _, _, _, _, _, _, hC, hM, inv_f 0 (by omega) hI⟩
  | true =>
    rw [hc] at hC hM
    unfold asS asC at hC
    unfold asS asF at hM
    by_cases h : E 8 (ix w1) = -1
    · simp only [cond_true, if_pos h] at hC hM
      exact ⟨_, _, _, _, _, _, _, _, hC, hM, inv_f 5 (by omega) hI⟩
    · simp only [cond_true, if_neg h] at hC hM
      by_cases h2 : underB (E 2 (ix (E 8 (ix w1)))) w2 = true
      · simp only [cond_true, if_pos h2] at hC hM
        exact ⟨_, _, _, _, _, _, _, _, hC, hM, inv_0 hI⟩
      · simp only [cond_true, if_neg h2] at hC hM
        exact ⟨_, _, _, _, _, _, _, _, hC, hM, inv_f 2 (by omega) hI⟩
theorem op_fits (l : Launch) (D : va_G) (cI cS : ClassId) (a b : Nat → Nat) (x : xS) {t : Nat} {E T Kp P F : Nat → Nat → Int32} {S : Nat → Nat → Nat → Int32} {K2 Bf As Q : Nat → Nat → Int32} (hI : lInvA t E Kp P S F K2 Q) (ht : t < 512) (w1 w2 : Int32) : ∃ (r : Int32) (E1 Kp1 P1 : Nat → Nat → Int32) (S1 : Nat → Nat → Nat → Int32) (F1 K1 Q1 : Nat → Nat → Int32), vMet l D (vT cI cS) yX3_fits cX3_fits 6 (some .int) 6 129 (cW cI cS a) v0 [.ref (a 0), .int w1, .int w2] (E, T, Kp, P, S, F) (cPost (some (.int r)) E1 Kp1 P1 S1 F1) ∧ vMet l D (vT cI cS) yX4_fits cX4_fits 4 (some .int) 6 138 (mW cI b) v0 [.ref (b 0), .int w1, .int w2] (E, K2, Bf, As, Q) (mPost (some (.int r)) E1 K1 Q1) ∧ lInvA (t + 1) E1 Kp1 P1 S1 F1 K1 Q1 := by
  obtain ⟨⟨n, hW, hZ, hY⟩, hK, hT, hS, hF⟩ := id hI
  have hC := kX3_fits l D cI cS a E T Kp P F S n hW hZ (iWS hI) w1 w2
  have hM := kX4_fits l D cI cS b E K2 Bf As Q n hW (60 * t) hY (by omega) (iWQ hI) w1 w2
  by_cases h1 : inB w1 0 3 = true
  · have t4 : ix w1 < 4 := by have := (inB_t 3 rfl (by decide) h1).2; omega
    simp only [if_pos h1, hS.none t4, hS.size t4] at hC hM
    by_cases h0 : S (ix w1) 1 0 = 0
    · simp only [if_pos h0] at hC hM
      exact ⟨_, _, _, _, _, _, _, _, hC, hM, inv_f 5 (by omega) hI⟩
    · simp only [if_neg h0] at hC hM
      have hl : ∀ v : Nat, likS n (up E 4 (ix w2) (nI v)) (numS Q (ix w1)) (ix w2) (ix (S (ix w1) 1 1)) = likS n (up E 4 (ix w2) (nI v)) (S (ix w1) 0) (ix w2) (ix (S (ix w1) 1 1)) := fun v => lik_cg (fun j hj => hS.num t4 (by have := hS.sizeL t4; omega))
      simp only [hl] at hM
      by_cases h2 : oyB w2 n = true
      · simp only [cond_true, if_pos h2] at hC hM
        exact ⟨_, _, _, _, _, _, _, _, hC, hM, inv_0 hI⟩
      · simp only [cond_true, if_neg h2] at hC hM
        exact ⟨_, _, _, _, _, _, _, _, hC, hM, inv_f 0 (by omega) hI⟩
  · simp only [if_neg h1] at hC hM
    exact ⟨_, _, _, _, _, _, _, _, hC, hM, inv_f 0 (by omega) hI⟩
theorem op_weighed (l : Launch) (D : va_G) (cI cS : ClassId) (a b : Nat → Nat) (x : xS) {t : Nat} {E T Kp P F : Nat → Nat → Int32} {S : Nat → Nat → Nat → Int32} {K2 Bf As Q : Nat → Nat → Int32} (hI : lInvA t E Kp P S F K2 Q) (ht : t < 512) (w1 w2 : Int32) : ∃ (r : Int32) (E1 Kp1 P1 : Nat → Nat → Int32) (S1 : Nat → Nat → Nat → Int32) (F1 K1 Q1 : Nat → Nat → Int32), vMet l D (vT cI cS) yX3_weighed cX3_weighed 5 (some .int) 6 129 (cW cI cS a) v0 [.ref (a 0), .int w1, .int w2] (E, T, Kp, P, S, F) (cPost (some (.int r)) E1 Kp1 P1 S1 F1) ∧ vMet l D (vT cI cS) yX4_weighed cX4_weighed 4 (some .int) 6 138 (mW cI b) v0 [.ref (b 0), .int w1, .int w2] (E, K2, Bf, As, Q) (mPost (some (.int r)) E1 K1 Q1) ∧ lInvA (t + 1) E1 Kp1 P1 S1 F1 K1 Q1 := by
  obtain ⟨⟨n, hW, hZ, hY⟩, hK, hT, hS, hF⟩ := id hI
  have hC := kX3_weighed l D cI cS a E T Kp P F S n hW hZ (iWS hI) w1 w2
  have hM := kX4_weighed l D cI cS b E K2 Bf As Q n hW (60 * t) hY (by omega) (iWQ hI) w1 w2
  by_cases h1 : inB w1 0 3 = true
  · have t4 : ix w1 < 4 := by have := (inB_t 3 rfl (by decide) h1).2; omega
    simp only [if_pos h1, hS.none t4, hS.size t4] at hC hM
    by_cases h0 : S (ix w1) 1 0 = 0
    · simp only [if_pos h0] at hC hM
      exact ⟨_, _, _, _, _, _, _, _, hC, hM, inv_f 5 (by omega) hI⟩
    · simp only [if_neg h0] at hC hM
      have hl : ∀ v : Nat, likS n (up E 4 (ix w2) (nI v)) (numS Q (ix w1)) (ix w2) (ix (S (ix w1) 1 1)) = likS n (up E 4 (ix w2) (nI v)) (S (ix w1) 0) (ix w2) (ix (S (ix w1) 1 1)) := fun v => lik_cg (fun j hj => hS.num t4 (by have := hS.sizeL t4; omega))
      simp only [hl] at hM
      by_cases h2 : oyB w2 n = true
      · simp only [cond_true, if_pos h2] at hC hM
        by_cases h3 : fstN (fun k => likS n (up E 4 (ix w2) (nI (k + 1))) (S (ix w1) 0) (ix w2) (ix (S (ix w1) 1 1))) 99 < 99
        · simp only [cond_true, if_pos h3] at hC hM
          exact ⟨_, _, _, _, _, _, _, _, hC, hM, inv_0 hI⟩
        · simp only [cond_true, if_neg h3] at hC hM
          exact ⟨_, _, _, _, _, _, _, _, hC, hM, inv_f 3 (by omega) hI⟩
      · simp only [cond_true, if_neg h2] at hC hM
        exact ⟨_, _, _, _, _, _, _, _, hC, hM, inv_f 0 (by omega) hI⟩
  · simp only [if_neg h1] at hC hM
    exact ⟨_, _, _, _, _, _, _, _, hC, hM, inv_f 0 (by omega) hI⟩
theorem op_kinds (l : Launch) (D : va_G) (cI cS : ClassId) (a b : Nat → Nat) (x : xS) {t : Nat} {E T Kp P F : Nat → Nat → Int32} {S : Nat → Nat → Nat → Int32} {K2 Bf As Q : Nat → Nat → Int32} (hI : lInvA t E Kp P S F K2 Q) (ht : t < 512) (w1 w2 : Int32) : ∃ (r : Int32) (E1 Kp1 P1 : Nat → Nat → Int32) (S1 : Nat → Nat → Nat → Int32) (F1 K1 Q1 : Nat → Nat → Int32), vMet l D (vT cI cS) yX3_kinds cX3_kinds 6 (some .int) 5 106 (cW cI cS a) v0 [.ref (a 0), .int w1, .int w2] (E, T, Kp, P, S, F) (cPost (some (.int r)) E1 Kp1 P1 S1 F1) ∧ vMet l D (vT cI cS) yX4_kinds cX4_kinds 7 (some .int) 5 114 (mW cI b) v0 [.ref (b 0), .int w1, .int w2] (E, K2, Bf, As, Q) (mPost (some (.int r)) E1 K1 Q1) ∧ lInvA (t + 1) E1 Kp1 P1 S1 F1 K1 Q1 := by
  obtain ⟨⟨n, hW, hZ, hY⟩, hK, hT, hS, hF⟩ := id hI
  have hC := kX3_kinds l D cI cS a E T Kp P F S n hW hZ (iWS hI) w1 w2
  have hM := kX4_kinds l D cI cS b E K2 Bf As Q n hW (60 * t) hY (by omega) (iWQ hI) w1 w2
  by_cases h1 : inB w1 0 3 = true
  · have t4 : ix w1 < 4 := by have := (inB_t 3 rfl (by decide) h1).2; omega
    simp only [if_pos h1, hS.none t4, hS.size t4] at hC hM
    by_cases h0 : S (ix w1) 1 0 = 0
    · simp only [if_pos h0] at hC hM
      exact ⟨_, _, _, _, _, _, _, _, hC, hM, inv_f 5 (by omega) hI⟩
    · simp only [if_neg h0] at hC hM
      have hl : ∀ v : Nat, likS n (up E 2 (ix w2) (nI v)) (numS Q (ix w1)) (ix w2) (ix (S (ix w1) 1 1)) = likS n (up E 2 (ix w2) (nI v)) (S (ix w1) 0) (ix w2) (ix (S (ix w1) 1 1)) := fun v => lik_cg (fun j hj => hS.num t4 (by have := hS.sizeL t4; omega))
      simp only [hl] at hM
      by_cases h2 : oyB w2 n = true
      · simp only [cond_true, if_pos h2] at hC hM
        exact ⟨_, _, _, _, _, _, _, _, hC, hM, inv_0 hI⟩
      · simp only [cond_true, if_neg h2] at hC hM
        exact ⟨_, _, _, _, _, _, _, _, hC, hM, inv_f 0 (by omega) hI⟩
  · simp only [if_neg h1] at hC hM
    exact ⟨_, _, _, _, _, _, _, _, hC, hM, inv_f 0 (by omega) hI⟩
theorem op_load (l : Launch) (D : va_G) (cI cS : ClassId) (a b : Nat → Nat) (x : xS) {t : Nat} {E T Kp P F : Nat → Nat → Int32} {S : Nat → Nat → Nat → Int32} {K2 Bf As Q : Nat → Nat → Int32} (hI : lInvA t E Kp P S F K2 Q) (ht : t < 512) (w1 : Int32) : ∃ (r : Int32) (E1 Kp1 P1 : Nat → Nat → Int32) (S1 : Nat → Nat → Nat → Int32) (F1 K1 Q1 : Nat → Nat → Int32), vMet l D (vT cI cS) yX3_load cX3_load 4 (some .int) 2 41 (cW cI cS a) v0 [.ref (a 0), .int w1] (E, T, Kp, P, S, F) (cPost (some (.int r)) E1 Kp1 P1 S1 F1) ∧ vMet l D (vT cI cS) yX4_load cX4_load 3 (some .int) 2 41 (mW cI b) v0 [.ref (b 0), .int w1] (E, K2, Bf, As, Q) (mPost (some (.int r)) E1 K1 Q1) ∧ lInvA (t + 1) E1 Kp1 P1 S1 F1 K1 Q1 := by
  obtain ⟨⟨n, hW, hZ, hY⟩, hK, hT, hS, hF⟩ := id hI
  have hC := kX3_load l D cI cS a E T Kp P F S n hW hZ (iWS hI) w1
  have hM := kX4_load l D cI cS b E K2 Bf As Q n hW (60 * t) hY (by omega) (iWQ hI) w1
  by_cases h1 : inB w1 0 3 = true
  · have t4 : ix w1 < 4 := by have := (inB_t 3 rfl (by decide) h1).2; omega
    simp only [if_pos h1, hS.none t4, hS.size t4] at hC hM
    by_cases h0 : S (ix w1) 1 0 = 0
    · simp only [if_pos h0] at hC hM
      exact ⟨_, _, _, _, _, _, _, _, hC, hM, inv_f 5 (by omega) hI⟩
    · simp only [if_neg h0] at hC hM
      have hf : fstN (fun j => !(decide (j < ix (S (ix w1) 1 1)) && inB (numS Q (ix w1) j) 0 999)) 6 = fstN (fun j => !(decide (j < ix (S (ix w1) 1 1)) && inB (S (ix w1) 0 j) 0 999)) 6 := fst_cg (fun j hj => by rw [hS.num t4 (by omega)])
      have h6 := fstN_le (fun j => !(decide (j < ix (S (ix w1) 1 1)) && inB (S (ix w1) 0 j) 0 999)) 6
      have hb : ∀ j, j < fstN (fun j => !(decide (j < ix (S (ix w1) 1 1)) && inB (S (ix w1) 0 j) 0 999)) 6 → bd (S (ix w1) 0 j) 999 := fun j hj => by
        have q := fst_first hj
        rw [Bool.not_eq_false', Bool.and_eq_true_iff] at q
        obtain ⟨e1, e2⟩ := inB_t 999 rfl (by decide) q.2
        exact ⟨_, e2, e1⟩
      rw [hf] at hM
      revert hC hM h6 hb
      generalize fstN (fun j => !(decide (j < ix (S (ix w1) 1 1)) && inB (S (ix w1) 0 j) 0 999)) 6 = m
      intro hC hM h6 hb
      rw [ld_cg (fun j hj => hS.num t4 (by omega))] at hM
      exact ⟨_, _, _, _, _, _, _, _, hC, hM, inv_E hI (iE_up (n1 := n) (Wf_ld hW hb) hZ hY ⟨congrFun (ldE_9 E _ m) 2, congrFun (ldE_9 E _ m) 4⟩)⟩
  · simp only [if_neg h1] at hC hM
    exact ⟨_, _, _, _, _, _, _, _, hC, hM, inv_f 0 (by omega) hI⟩
theorem op_judge (l : Launch) (D : va_G) (cI cS : ClassId) (a b : Nat → Nat) (x : xS) {t : Nat} {E T Kp P F : Nat → Nat → Int32} {S : Nat → Nat → Nat → Int32} {K2 Bf As Q : Nat → Nat → Int32} (hI : lInvA t E Kp P S F K2 Q) (ht : t < 512) (w1 : Int32) : ∃ (r : Int32) (E1 Kp1 P1 : Nat → Nat → Int32) (S1 : Nat → Nat → Nat → Int32) (F1 K1 Q1 : Nat → Nat → Int32), vMet l D (vT cI cS) yX3_judge cX3_judge 3 (some .int) 2 42 (cW cI cS a) v0 [.ref (a 0), .int w1] (E, T, Kp, P, S, F) (cPost (some (.int r)) E1 Kp1 P1 S1 F1) ∧ vMet l D (vT cI cS) yX4_judge cX4_judge 3 (some .int) 2 41 (mW cI b) v0 [.ref (b 0), .int w1] (E, K2, Bf, As, Q) (mPost (some (.int r)) E1 K1 Q1) ∧ lInvA (t + 1) E1 Kp1 P1 S1 F1 K1 Q1 := by
  obtain ⟨⟨n, hW, hZ, hY⟩, hK, hT, hS, hF⟩ := id hI
  have hC := kX3_judge l D cI cS a E T Kp P F S n hW hZ (iWS hI) w1
  have hM := kX4_judge l D cI cS b E K2 Bf As Q n hW (60 * t) hY (by omega) (iWQ hI) w1
  by_cases h1 : inB w1 0 3 = true
  · have t4 : ix w1 < 4 := by have := (inB_t 3 rfl (by decide) h1).2; omega
    simp only [if_pos h1, hS.none t4, hS.size t4] at hC hM
    by_cases h0 : S (ix w1) 1 0 = 0
    · simp only [if_pos h0] at hC hM
      exact ⟨_, _, _, _, _, _, _, _, hC, hM, inv_f 5 (by omega) hI⟩
    · simp only [if_neg h0] at hC hM
      have hf : fstN (fun j => !(decide (j < n) && decide (numS Q (ix w1) j = E 5 j))) (ix (S (ix w1) 1 1)) = fstN (fun j => !(decide (j < n) && decide (S (ix w1) 0 j = E 5 j))) (ix (S (ix w1) 1 1)) := fst_cg (fun j hj => by rw [hS.num t4 (by have := hS.sizeL t4; omega)])
      rw [hf] at hM
      exact ⟨_, _, _, _, _, _, _, _, hC, hM, inv_0 hI⟩
  · simp only [if_neg h1] at hC hM
    exact ⟨_, _, _, _, _, _, _, _, hC, hM, inv_f 0 (by omega) hI⟩
theorem op_sheet (l : Launch) (D : va_G) (cI cS : ClassId) (a b : Nat → Nat) (x : xS) {t : Nat} {E T Kp P F : Nat → Nat → Int32} {S : Nat → Nat → Nat → Int32} {K2 Bf As Q : Nat → Nat → Int32} (hI : lInvA t E Kp P S F K2 Q) (ht : t < 512) (w1 w2 w3 : Int32) : ∃ (r : Int32) (E1 Kp1 P1 : Nat → Nat → Int32) (S1 : Nat → Nat → Nat → Int32) (F1 K1 Q1 : Nat → Nat → Int32), vMet l D (vT cI cS) yX3_sheet cX3_sheet 5 (some .int) 2 41 (cW cI cS a) v0 [.ref (a 0), .int w1, .int w2, .int w3] (E, T, Kp, P, S, F) (cPost (some (.int r)) E1 Kp1 P1 S1 F1) ∧ vMet l D (vT cI cS) yX4_sheet cX4_sheet 5 (some .int) 1 21 (mW cI b) v0 [.ref (b 0), .int w1, .int w2, .int w3] (E, K2, Bf, As, Q) (mPost (some (.int r)) E1 K1 Q1) ∧ lInvA (t + 1) E1 Kp1 P1 S1 F1 K1 Q1 := by
  obtain ⟨⟨n, hW, hZ, hY⟩, hK, hT, hS, hF⟩ := id hI
  have hC := kX3_sheet l D cI cS a E T Kp P F S n hW hZ (iWS hI) w1 w2 w3
  have hM := kX4_sheet l D cI cS b E K2 Bf As Q n hW (60 * t) hY (by omega) (iWQ hI) w1 w2 w3
  cases hc : (inB w1 0 3 && bitB w2) with
  | false =>
    rw [hc] at hC hM
    simp only [cond_false] at hC hM
    exact ⟨_, _, _, _, _, _, _, _, hC, hM, inv_f 0 (by omega) hI⟩
  | true =>
    rw [hc] at hC hM
    obtain ⟨c1, c2⟩ := Bool.and_eq_true_iff.mp hc
    have t4 : ix w1 < 4 := by have := (inB_t 3 rfl (by decide) c1).2; omega
    by_cases h : w3 < 0
    · simp only [cond_true, if_pos h] at hC hM
      exact ⟨_, _, _, _, _, _, _, _, hC, hM, inv_f 6 (by omega) hI⟩
    · simp only [cond_true, if_neg h] at hC hM
      by_cases h2 : 40 < w3
      · simp only [cond_true, if_pos h2] at hC hM
        exact ⟨_, _, _, _, _, _, _, _, hC, hM, inv_f 0 (by omega) hI⟩
      · simp only [cond_true, if_neg h2] at hC hM
        have e : shtQ Q (ix w1) w2 w3 = shtQ Q (ix w1) w2 w3 := rfl
        exact ⟨_, _, _, _, _, _, _, _, hC, hM, inv_S hI (sht_0 Q _ _ _) (sht_1 Q _ _ _) (sht_6 Q _ _ _) (iS_sheet hS t4 c2 h h2)⟩
theorem op_write (l : Launch) (D : va_G) (cI cS : ClassId) (a b : Nat → Nat) (x : xS) {t : Nat} {E T Kp P F : Nat → Nat → Int32} {S : Nat → Nat → Nat → Int32} {K2 Bf As Q : Nat → Nat → Int32} (hI : lInvA t E Kp P S F K2 Q) (ht : t < 512) (w1 w2 w3 : Int32) : ∃ (r : Int32) (E1 Kp1 P1 : Nat → Nat → Int32) (S1 : Nat → Nat → Nat → Int32) (F1 K1 Q1 : Nat → Nat → Int32), vMet l D (vT cI cS) yX3_write cX3_write 4 (some .int) 2 41 (cW cI cS a) v0 [.ref (a 0), .int w1, .int w2, .int w3] (E, T, Kp, P, S, F) (cPost (some (.int r)) E1 Kp1 P1 S1 F1) ∧ vMet l D (vT cI cS) yX4_write cX4_write 4 (some .int) 1 25 (mW cI b) v0 [.ref (b 0), .int w1, .int w2, .int w3] (E, K2, Bf, As, Q) (mPost (some (.int r)) E1 K1 Q1) ∧ lInvA (t + 1) E1 Kp1 P1 S1 F1 K1 Q1 := by
  obtain ⟨⟨n, hW, hZ, hY⟩, hK, hT, hS, hF⟩ := id hI
  have hC := kX3_write l D cI cS a E T Kp P F S n hW hZ (iWS hI) w1 w2 w3
  have hM := kX4_write l D cI cS b E K2 Bf As Q n hW (60 * t) hY (by omega) (iWQ hI) w1 w2 w3
  by_cases h1 : inB w1 0 3 = true
  · have t4 : ix w1 < 4 := by have := (inB_t 3 rfl (by decide) h1).2; omega
    simp only [if_pos h1, hS.none t4, hS.size t4] at hC hM
    by_cases h0 : S (ix w1) 1 0 = 0
    · simp only [if_pos h0] at hC hM
      exact ⟨_, _, _, _, _, _, _, _, hC, hM, inv_f 5 (by omega) hI⟩
    · simp only [if_neg h0] at hC hM
      by_cases h2 : inB w2 0 (S (ix w1) 1 1 - 1) = true
      · simp only [cond_true, if_pos h2] at hC hM
        have hi : ix w2 < 40 := by
          have q := inS_t (iWS hI _ t4) h2
          have := hS.sizeL t4
          omega
        exact ⟨_, _, _, _, _, _, _, _, hC, hM, inv_S hI rfl rfl rfl (iS_write hS t4 h0 hi)⟩
      · simp only [cond_true, if_neg h2] at hC hM
        exact ⟨_, _, _, _, _, _, _, _, hC, hM, inv_f 0 (by omega) hI⟩
  · simp only [if_neg h1] at hC hM
    exact ⟨_, _, _, _, _, _, _, _, hC, hM, inv_f 0 (by omega) hI⟩
theorem op_copy (l : Launch) (D : va_G) (cI cS : ClassId) (a b : Nat → Nat) (x : xS) {t : Nat} {E T Kp P F : Nat → Nat → Int32} {S : Nat → Nat → Nat → Int32} {K2 Bf As Q : Nat → Nat → Int32} (hI : lInvA t E Kp P S F K2 Q) (ht : t < 512) (w1 w2 w3 w4 w5 : Int32) : ∃ (r : Int32) (E1 Kp1 P1 : Nat → Nat → Int32) (S1 : Nat → Nat → Nat → Int32) (F1 K1 Q1 : Nat → Nat → Int32), vMet l D (vT cI cS) yX3_copy cX3_copy 8 (some .int) 2 41 (cW cI cS a) v0 [.ref (a 0), .int w1, .int w2, .int w3, .int w4, .int w5] (E, T, Kp, P, S, F) (cPost (some (.int r)) E1 Kp1 P1 S1 F1) ∧ vMet l D (vT cI cS) yX4_copy cX4_copy 10 (some .int) 1 21 (mW cI b) v0 [.ref (b 0), .int w1, .int w2, .int w3, .int w4, .int w5] (E, K2, Bf, As, Q) (mPost (some (.int r)) E1 K1 Q1) ∧ lInvA (t + 1) E1 Kp1 P1 S1 F1 K1 Q1 := by
  obtain ⟨⟨n, hW, hZ, hY⟩, hK, hT, hS, hF⟩ := id hI
  have hC := kX3_copy l D cI cS a E T Kp P F S n hW hZ (iWS hI) w1 w2 w3 w4 w5
  have hM := kX4_copy l D cI cS b E K2 Bf As Q n hW (60 * t) hY (by omega) (iWQ hI) w1 w2 w3 w4 w5
  cases hc : (inB w1 0 3 && inB w3 0 3) with
  | false =>
    rw [hc] at hC hM
    simp only [cond_false] at hC hM
    exact ⟨_, _, _, _, _, _, _, _, hC, hM, inv_f 0 (by omega) hI⟩
  | true =>
    rw [hc] at hC hM
    obtain ⟨c1, c2⟩ := Bool.and_eq_true_iff.mp hc
    have t4 : ix w1 < 4 := by have := (inB_t 3 rfl (by decide) c1).2; omega
    have u4 : ix w3 < 4 := by have := (inB_t 3 rfl (by decide) c2).2; omega
    simp only [cond_true, hS.none t4, hS.none u4, cop_eq hS t4 u4] at hC hM
    by_cases h1 : S (ix w1) 1 0 = 0
    · simp only [if_pos h1] at hC hM
      exact ⟨_, _, _, _, _, _, _, _, hC, hM, inv_f 5 (by omega) hI⟩
    · simp only [if_neg h1] at hC hM
      by_cases h2 : S (ix w3) 1 0 = 0
      · simp only [if_pos h2] at hC hM
        exact ⟨_, _, _, _, _, _, _, _, hC, hM, inv_f 5 (by omega) hI⟩
      · simp only [if_neg h2, hS.bits t4 h1, hS.bits u4 h2] at hC hM
        by_cases h3 : S (ix w1) 1 0 = S (ix w3) 1 0
        · simp only [if_pos h3] at hC hM
          by_cases h4 : (hasB (S (ix w1) 1 1) w2 w5 && hasB (S (ix w3) 1 1) w4 w5) = true
          · simp only [if_pos h4] at hC hM
            obtain ⟨d1, d2⟩ := Bool.and_eq_true_iff.mp h4
            have q1 := (has_t (iWS hI _ t4) d1).2.2
            have q2 := (has_t (iWS hI _ u4) d2).2.2
            have s1 := hS.sizeL t4
            have s2 := hS.sizeL u4
            exact ⟨_, _, _, _, _, _, _, _, hC, hM, inv_S hI rfl rfl rfl (iS_copy hS t4 u4 (by omega) (by omega))⟩
          · simp only [if_neg h4] at hC hM
            exact ⟨_, _, _, _, _, _, _, _, hC, hM, inv_f 0 (by omega) hI⟩
        · simp only [if_neg h3] at hC hM
          exact ⟨_, _, _, _, _, _, _, _, hC, hM, inv_f 2 (by omega) hI⟩
theorem op_feed (l : Launch) (D : va_G) (cI cS : ClassId) (a b : Nat → Nat) (x : xS) {t : Nat} {E T Kp P F : Nat → Nat → Int32} {S : Nat → Nat → Nat → Int32} {K2 Bf As Q : Nat → Nat → Int32} (hI : lInvA t E Kp P S F K2 Q) (ht : t < 512) (w1 w2 : Int32) : ∃ (r : Int32) (E1 Kp1 P1 : Nat → Nat → Int32) (S1 : Nat → Nat → Nat → Int32) (F1 K1 Q1 : Nat → Nat → Int32), vMet l D (vT cI cS) yX3_feed cX3_feed 4 (some .int) 1 21 (cW cI cS a) v0 [.ref (a 0), .int w1, .int w2] (E, T, Kp, P, S, F) (cPost (some (.int r)) E1 Kp1 P1 S1 F1) ∧ vMet l D (vT cI cS) yX4_feed cX4_feed 4 (some .int) 1 25 (mW cI b) v0 [.ref (b 0), .int w1, .int w2] (E, K2, Bf, As, Q) (mPost (some (.int r)) E1 K1 Q1) ∧ lInvA (t + 1) E1 Kp1 P1 S1 F1 K1 Q1 := by
  obtain ⟨⟨n, hW, hZ, hY⟩, hK, hT, hS, hF⟩ := id hI
  have hC := kX3_feed l D cI cS a E T Kp P F S n hW hZ (iWP hI) w1 w2
  have hM := kX4_feed l D cI cS b E K2 Bf As Q n hW (60 * t) hY (by omega) (iWQ hI) w1 w2
  cases hc : (inB w2 1 4) with
  | false =>
    rw [hc] at hC hM
    simp only [cond_false] at hC hM
    exact ⟨_, _, _, _, _, _, _, _, hC, hM, inv_f 0 (by omega) hI⟩
  | true =>
    rw [hc] at hC hM
    rw [hT.2.1] at hC
    by_cases h : 120 < ix (Q 6 1) + ix w2
    · simp only [cond_true, if_pos h] at hC hM
      exact ⟨_, _, _, _, _, _, _, _, hC, hM, inv_f 1 (by omega) hI⟩
    · simp only [cond_true, if_neg h] at hC hM
      obtain ⟨q, b0, b2, b3, b4, b6⟩ := iT_feed w1 (ix w2) (ix (Q 6 1)) P Q hT (Nat.le_of_not_lt h)
      revert hC hM q b0 b2 b3 b4 b6
      generalize fdC w1 (ix w2) (ix (Q 6 1)) P = P1
      generalize fdS w1 (ix w2) (ix (Q 6 1)) Q = Q1
      intro hC hM q b0 b2 b3 b4 b6
      refine ⟨_, _, _, _, _, _, _, _, hC, hM, ⟨hI.1.mono (by omega), ?_, q, ?_, ?_⟩⟩
      · unfold iK
        rw [b6]
        exact hI.2.1.mono (by omega)
      · unfold iS
        rw [b2, b3, b4]
        exact hS
      · unfold iF
        rw [b0]
        exact hF
theorem op_text (l : Launch) (D : va_G) (cI cS : ClassId) (a b : Nat → Nat) (x : xS) {t : Nat} {E T Kp P F : Nat → Nat → Int32} {S : Nat → Nat → Nat → Int32} {K2 Bf As Q : Nat → Nat → Int32} (hI : lInvA t E Kp P S F K2 Q) (ht : t < 512) : ∃ (r : Int32) (E1 Kp1 P1 : Nat → Nat → Int32) (S1 : Nat → Nat → Nat → Int32) (F1 K1 Q1 : Nat → Nat → Int32), vMet l D (vT cI cS) yX3_text cX3_text 2 (some .int) 9 198 (cW cI cS a) (exA x) [.ref (a 0)] (E, T, Kp, P, S, F) (cPost (some (.int r)) E1 Kp1 P1 S1 F1) ∧ vMet l D (vT cI cS) yX4_text cX4_text 3 (some .int) 5 114 (mW cI b) v0 [.ref (b 0)] (E, K2, Bf, As, Q) (mPost (some (.int r)) E1 K1 Q1) ∧ lInvA (t + 1) E1 Kp1 P1 S1 F1 K1 Q1 := by
  obtain ⟨⟨n, hW, hZ, hY⟩, hK, hT, hS, hF⟩ := id hI
  have hC := kX3_text l D cI cS a x E T Kp P F S n hW hZ (iWP hI) 
  have hM := kX4_text l D cI cS b E K2 Bf As Q n hW (60 * t) hY (by omega) (iWQ hI) 
  rw [hT.1, hT.2.1] at hC
  exact ⟨_, _, _, _, _, _, _, _, hC, hM, ⟨iE_text hW hZ hY _ _, hI.2.1.mono (by omega), ⟨hT.1, rfl, ⟨0, by omega, rfl⟩, hT.2.2.2⟩, hS, hF⟩⟩
