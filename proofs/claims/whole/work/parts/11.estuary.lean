set_option maxHeartbeats 300000 in
set_option maxRecDepth 100000 in
theorem kX0_isFull (l : Launch) (D : va_G) (cI cS : ClassId) (a : Nat → Nat) (E : Nat → Nat → Int32) (n : Nat) (hW : Wf E n) : vDet l D (vT cI cS) yX0_isFull cX0_isFull 1 (some .boolean) 0 0 (eW cI a) [.ref (a 0)] E (some (.int (bI (decide (8 ≤ n))))) (E) := by
  refine vMet_of (by decide) rfl ?_
  intro K hl hD hnL hret h hR hEx
  subst hl hD
  show V K (eW cI a E) 0 [(0, .ref (a 0))] []
  have hn8 := hW.1
  refine v_aload_n h pX0_isFull_0 0 rfl 0 rfl rfl (v_get h pX0_isFull_0 1 fX0_39 0 rfl rfl rfl (v_top (w := .int (nI n)) (congrArg Value.int hW.2.1) (v_bipush h pX0_isFull_0 2 rfl kb_8 ?_)))
  refine v_ncmp_lt (a := n) (b := 8) (tgt := 13) h pX0_isFull_0 3 rfl rfl (by omega) (by omega) (fun c1 => ?_) (fun c1 => ?_)
  · skip
    refine v_iconst h pX0_isFull_0 6 rfl ki_0 ?_
    exact v_zret h pX0_isFull_0 7 (Or.inl rfl) hR hret rfl (E) rfl ⟨vI (by first | (rw [show decide (8 ≤ n) = true from decide_eq_true (by omega)]; rfl) | (rw [show decide (8 ≤ n) = false from decide_eq_false (by omega)]; rfl)), rfl⟩
  · skip
    refine v_iconst h pX0_isFull_0 4 rfl ki_1 (v_goto (tgt := 14) h pX0_isFull_0 5 rfl rfl ?_)
    exact v_zret h pX0_isFull_0 7 (Or.inr rfl) hR hret rfl (E) rfl ⟨vI (by first | (rw [show decide (8 ≤ n) = true from decide_eq_true (by omega)]; rfl) | (rw [show decide (8 ≤ n) = false from decide_eq_false (by omega)]; rfl)), rfl⟩
set_option maxHeartbeats 300000 in
set_option maxRecDepth 100000 in
theorem kX0_isTold (l : Launch) (D : va_G) (cI cS : ClassId) (a : Nat → Nat) (E : Nat → Nat → Int32) (i : Nat) (hi : i < 8) : vDet l D (vT cI cS) yX0_isTold cX0_isTold 2 (some .boolean) 0 0 (eW cI a) [.ref (a 0), .int (nI i)] E (some (.int (bI (toldS E i)))) (E) := by
  refine vMet_of (by decide) rfl ?_
  intro K hl hD hnL hret h hR hEx
  subst hl hD
  show V K (eW cI a E) 0 [(0, .ref (a 0)), (1, .int (nI i))] []
  refine v_aload_n h pX0_isTold_0 0 rfl 0 rfl rfl (v_get h pX0_isTold_0 1 fX0_24 0 rfl rfl rfl (v_iload_n h pX0_isTold_0 2 rfl 1 rfl rfl (v_iald h pX0_isTold_0 3 i 5 0 rfl rfl rfl rfl rfl (by omega) ?_)))
  refine v_if_ne (tgt := 13) h pX0_isTold_0 4 rfl rfl (fun c1 => ?_) (fun c1 => ?_)
  · skip
    refine v_iconst h pX0_isTold_0 7 rfl ki_0 ?_
    exact v_zret h pX0_isTold_0 8 (Or.inl rfl) hR hret rfl (E) rfl ⟨vI (by simp [toldS, bI, c1, -Int32.not_lt]), rfl⟩
  · skip
    refine v_iconst h pX0_isTold_0 5 rfl ki_1 (v_goto (tgt := 14) h pX0_isTold_0 6 rfl rfl ?_)
    exact v_zret h pX0_isTold_0 8 (Or.inr rfl) hR hret rfl (E) rfl ⟨vI (by simp [toldS, bI, c1, -Int32.not_lt]), rfl⟩
set_option maxHeartbeats 300000 in
set_option maxRecDepth 100000 in
theorem kX0_takes (l : Launch) (D : va_G) (cI cS : ClassId) (a : Nat → Nat) (E : Nat → Nat → Int32) (i : Nat) (hi : i < 8) : vDet l D (vT cI cS) yX0_takes cX0_takes 5 (some .int) 1 14 (eW cI a) [.ref (a 0), .int (nI i)] E (some (.int (takesS E i))) (E) := by
  refine vMet_of (by decide) rfl ?_
  intro K hl hD hnL hret h hR hEx
  subst hl hD
  show V K (eW cI a E) 0 [(0, .ref (a 0)), (1, .int (nI i))] []
  refine v_bipush h pX0_takes_0 0 rfl kb_6 (v_istore_n h pX0_takes_0 1 (lv' := [(2, .int 6), (0, .ref (a 0)), (1, .int (nI i))]) rfl rfl hnL rfl rfl (v_iload_n h pX0_takes_0 2 rfl 0 rfl rfl (v_aload_n h pX0_takes_0 3 rfl 1 rfl rfl (v_get h pX0_takes_0 4 fX0_24 0 rfl rfl rfl (v_iload_n h pX0_takes_0 5 rfl 2 rfl rfl ?_)))))
  refine v_iald h pX0_takes_0 6 i 5 0 rfl rfl rfl rfl rfl (by omega) (v_bipush h pX0_takes_0 7 rfl kb_10 (v_idiv h pX0_takes_0 8 rfl (by decide) (v_iadd h pX0_takes_0 9 rfl (v_istore_n h pX0_takes_0 10 (lv' := [(3, .int (6 + ((E 4 i) / 10))), (2, .int 6), (0, .ref (a 0)), (1, .int (nI i))]) rfl rfl hnL rfl rfl (v_iload_n h pX0_takes_0 11 rfl 1 rfl rfl ?_)))))
  refine v_iconst h pX0_takes_0 12 rfl ki_2 (v_idiv h pX0_takes_0 13 rfl (by decide) (v_iconst h pX0_takes_0 14 rfl ki_1 (v_isub h pX0_takes_0 15 rfl (v_istore h pX0_takes_0 16 (lv' := [(4, .int ((6 / 2) - 1)), (3, .int (6 + ((E 4 i) / 10))), (2, .int 6), (0, .ref (a 0)), (1, .int (nI i))]) rfl hnL rfl rfl (v_aload_n h pX0_takes_0 17 rfl 3 rfl rfl ?_)))))
  refine v_get h pX0_takes_0 18 fX0_18 0 rfl rfl rfl (v_iload_n h pX0_takes_0 19 rfl 4 rfl rfl (v_iald h pX0_takes_0 20 i 3 0 rfl rfl rfl rfl rfl (by omega) ?_))
  by_cases c1 : E 2 i = 1
  · skip
    refine v_tin (tgt := 68) h pX0_takes_0 21 c1 rfl (by decide) (by decide) rfl rfl (v_iload_n h pX0_takes_0 22 rfl 1 rfl rfl ?_)
    exact v_iret h pX0_takes_0 23 hR hret rfl (E) rfl ⟨vI (by first | (simp only [takesS, c1, if_true, if_false, reduceIte, not_true_eq_false, not_false_eq_true]; done) | (simp [takesS, c1] <;> rfl) | (simp [takesS, c1] <;> decide)), rfl⟩
  by_cases c2 : E 2 i = 2
  · skip
    refine v_tin (tgt := 74) h pX0_takes_0 21 c2 rfl (by decide) (by decide) rfl rfl (v_iload_n h pX0_takes_0 28 rfl 2 rfl rfl (v_iconst h pX0_takes_0 29 rfl ki_2 (v_idiv h pX0_takes_0 30 rfl (by decide) ?_)))
    exact v_iret h pX0_takes_0 31 hR hret rfl (E) rfl ⟨vI (by first | (simp only [takesS, c1, c2, if_true, if_false, reduceIte, not_true_eq_false, not_false_eq_true]; done) | (simp [takesS, c1, c2] <;> rfl) | (simp [takesS, c1, c2] <;> decide)), rfl⟩
  by_cases c3 : E 2 i = 3
  · skip
    refine v_tin (tgt := 78) h pX0_takes_0 21 c3 rfl (by decide) (by decide) rfl rfl (v_iload h pX0_takes_1 0 rfl 0 rfl ?_)
    exact v_iret h pX0_takes_1 1 hR hret rfl (E) rfl ⟨vI (by first | (simp only [takesS, c1, c2, c3, if_true, if_false, reduceIte, not_true_eq_false, not_false_eq_true]; done) | (simp [takesS, c1, c2, c3] <;> rfl) | (simp [takesS, c1, c2, c3] <;> decide)), rfl⟩
  by_cases c4 : E 2 i = 4
  · skip
    refine v_tin (tgt := 81) h pX0_takes_0 21 c4 rfl (by decide) (by decide) rfl rfl (v_aload_n h pX0_takes_1 2 rfl 3 rfl rfl (v_get h pX0_takes_1 3 fX0_30 0 rfl rfl rfl (v_iload_n h pX0_takes_1 4 rfl 4 rfl rfl (v_iald h pX0_takes_1 5 i 7 0 rfl rfl rfl rfl rfl (by omega) (v_iconst h pX0_takes_1 6 rfl ki_2 ?_)))))
    refine v_irem2 h pX0_takes_1 7 rfl (by decide) ?_
    refine v_if_ne (tgt := 97) h pX0_takes_1 8 rfl rfl (fun c5 => ?_) (fun c5 => ?_)
    · skip
      refine v_iconst h pX0_takes_1 11 rfl ki_0 ?_
      exact v_iret h pX0_takes_1 12 hR hret rfl (E) rfl ⟨vI (by first | (simp only [takesS, c1, c2, c3, c4, c5, if_true, if_false, reduceIte, not_true_eq_false, not_false_eq_true]; done) | (simp [takesS, c1, c2, c3, c4, c5] <;> rfl) | (simp [takesS, c1, c2, c3, c4, c5] <;> decide)), rfl⟩
    · skip
      refine v_iload h pX0_takes_1 9 rfl 0 rfl (v_goto (tgt := 98) h pX0_takes_1 10 rfl rfl ?_)
      exact v_iret h pX0_takes_1 12 hR hret rfl (E) rfl ⟨vI (by first | (simp only [takesS, c1, c2, c3, c4, c5, if_true, if_false, reduceIte, not_true_eq_false, not_false_eq_true]; done) | (simp [takesS, c1, c2, c3, c4, c5] <;> rfl) | (simp [takesS, c1, c2, c3, c4, c5] <;> decide)), rfl⟩
  by_cases c6 : E 2 i = 5
  · skip
    refine v_tin (tgt := 99) h pX0_takes_0 21 c6 rfl (by decide) (by decide) rfl rfl (v_iload_n h pX0_takes_1 13 rfl 2 rfl rfl (v_bipush h pX0_takes_1 14 rfl kb_9 (v_aload_n h pX0_takes_1 15 rfl 3 rfl rfl (v_get h pX0_takes_1 16 fX0_30 0 rfl rfl rfl (v_iload_n h pX0_takes_1 17 rfl 4 rfl rfl ?_)))))
    refine v_iald h pX0_takes_1 18 i 7 0 rfl rfl rfl rfl rfl (by omega) (v_bipush h pX0_takes_1 19 rfl kb_10 (v_idiv h pX0_takes_1 20 rfl (by decide) (v_mmin2 h pX0_takes_1 21 wm_192 wm_193 wm_194 wm_195 rfl rfl rfl (v_iadd h pX0_takes_1 22 rfl ?_))))
    exact v_iret h pX0_takes_1 23 hR hret rfl (E) rfl ⟨vI (by first | (simp only [takesS, c1, c2, c3, c4, c6, if_true, if_false, reduceIte, not_true_eq_false, not_false_eq_true]; done) | (simp [takesS, c1, c2, c3, c4, c6] <;> rfl) | (simp [takesS, c1, c2, c3, c4, c6] <;> decide)), rfl⟩
  by_cases c7 : E 2 i = 6
  · skip
    refine v_tin (tgt := 70) h pX0_takes_0 21 c7 rfl (by decide) (by decide) rfl rfl (v_iconst h pX0_takes_0 24 rfl ki_2 (v_iload_n h pX0_takes_0 25 rfl 1 rfl rfl (v_imul h pX0_takes_0 26 rfl ?_)))
    exact v_iret h pX0_takes_0 27 hR hret rfl (E) rfl ⟨vI (by first | (simp only [takesS, c1, c2, c3, c4, c6, c7, if_true, if_false, reduceIte, not_true_eq_false, not_false_eq_true]; done) | (simp [takesS, c1, c2, c3, c4, c6, c7] <;> rfl) | (simp [takesS, c1, c2, c3, c4, c6, c7] <;> decide)), rfl⟩
  refine v_tout (tgt := 116) h pX0_takes_0 21 rfl (sw_1_6 c1 c2 c3 c4 c6 c7) rfl (v_iload_n h pX0_takes_1 24 rfl 2 rfl rfl ?_)
  exact v_iret h pX0_takes_1 25 hR hret rfl (E) rfl ⟨vI (by first | (simp only [takesS, c1, c2, c3, c4, c6, c7, if_true, if_false, reduceIte, not_true_eq_false, not_false_eq_true]; done) | (simp [takesS, c1, c2, c3, c4, c6, c7] <;> rfl) | (simp [takesS, c1, c2, c3, c4, c6, c7] <;> decide)), rfl⟩
set_option maxHeartbeats 300000 in
set_option maxRecDepth 100000 in
theorem kX0_needs (l : Launch) (D : va_G) (cI cS : ClassId) (a : Nat → Nat) (E : Nat → Nat → Int32) (i : Nat) (hi : i < 8) (n : Nat) (hW : Wf E n) : vDet l D (vT cI cS) yX0_needs cX0_needs 3 (some .int) 1 13 (eW cI a) [.ref (a 0), .int (nI i)] E (some (.int (needsS E i))) (E) := by
  refine vMet_of (by decide) rfl ?_
  intro K hl hD hnL hret h hR hEx
  subst hl hD
  show V K (eW cI a E) 0 [(0, .ref (a 0)), (1, .int (nI i))] []
  have hb := hW.homeL hi
  refine v_aload_n h pX0_needs_0 0 rfl 0 rfl rfl (v_get h pX0_needs_0 1 fX0_24 0 rfl rfl rfl (v_iload_n h pX0_needs_0 2 rfl 1 rfl rfl (v_iald h pX0_needs_0 3 i 5 0 rfl rfl rfl rfl rfl (by omega) (v_istore_n h pX0_needs_0 4 (lv' := [(2, .int (E 4 i)), (0, .ref (a 0)), (1, .int (nI i))]) rfl rfl hnL rfl rfl (v_aload_n h pX0_needs_0 5 rfl 1 rfl rfl ?_)))))
  refine v_get h pX0_needs_0 6 fX0_18 0 rfl rfl rfl (v_iload_n h pX0_needs_0 7 rfl 2 rfl rfl (v_iald h pX0_needs_0 8 i 3 0 rfl rfl rfl rfl rfl (by omega) ?_))
  by_cases c1 : E 2 i = 1
  · skip
    refine v_tin (tgt := 52) h pX0_needs_0 9 c1 rfl (by decide) (by decide) rfl rfl (v_iconst h pX0_needs_0 10 rfl ki_2 (v_iload_n h pX0_needs_0 11 rfl 0 rfl rfl (v_imul h pX0_needs_0 12 rfl ?_)))
    exact v_iret h pX0_needs_0 13 hR hret rfl (E) rfl ⟨vI (by simp [needsS, c1]), rfl⟩
  by_cases c2 : E 2 i = 2
  · skip
    refine v_tin (tgt := 63) h pX0_needs_0 9 c2 rfl (by decide) (by decide) rfl rfl (v_iload_n h pX0_needs_0 20 rfl 0 rfl rfl (v_iconst h pX0_needs_0 21 rfl ki_2 (v_idiv h pX0_needs_0 22 rfl (by decide) ?_)))
    exact v_iret h pX0_needs_0 23 hR hret rfl (E) rfl ⟨vI (by simp [needsS, c1, c2]), rfl⟩
  by_cases c3 : E 2 i = 3
  · skip
    refine v_tin (tgt := 67) h pX0_needs_0 9 c3 rfl (by decide) (by decide) rfl rfl (v_iconst h pX0_needs_0 24 rfl ki_0 (v_iload_n h pX0_needs_0 25 rfl 0 rfl rfl (v_iconst h pX0_needs_0 26 rfl ki_2 (v_idiv h pX0_needs_0 27 rfl (by decide) (v_aload_n h pX0_needs_0 28 rfl 1 rfl rfl ?_)))))
    refine v_get h pX0_needs_0 29 fX0_15 0 rfl rfl rfl (v_aload_n h pX0_needs_0 30 rfl 1 rfl rfl (v_get h pX0_needs_0 31 fX0_21 0 rfl rfl rfl (v_iload_n h pX0_needs_1 0 rfl 2 rfl rfl (v_iald h pX0_needs_1 1 i 4 0 rfl rfl rfl rfl rfl (by omega) (v_top (w := .int (nI (ix (E 3 i)))) (congrArg Value.int (hW.home (by omega))) ?_)))))
    refine v_iald h pX0_needs_1 2 (ix (E 3 i)) 2 0 rfl rfl rfl rfl rfl (by omega) (v_isub h pX0_needs_1 3 rfl (v_mmax2 h pX0_needs_1 4 wm_200 wm_201 wm_194 wm_202 rfl rfl rfl ?_))
    exact v_iret h pX0_needs_1 5 hR hret rfl (E) rfl ⟨vI (by simp [needsS, c1, c2, c3]), rfl⟩
  by_cases c4 : E 2 i = 4
  · skip
    refine v_tin (tgt := 67) h pX0_needs_0 9 c4 rfl (by decide) (by decide) rfl rfl (v_iconst h pX0_needs_0 24 rfl ki_0 (v_iload_n h pX0_needs_0 25 rfl 0 rfl rfl (v_iconst h pX0_needs_0 26 rfl ki_2 (v_idiv h pX0_needs_0 27 rfl (by decide) (v_aload_n h pX0_needs_0 28 rfl 1 rfl rfl ?_)))))
    refine v_get h pX0_needs_0 29 fX0_15 0 rfl rfl rfl (v_aload_n h pX0_needs_0 30 rfl 1 rfl rfl (v_get h pX0_needs_0 31 fX0_21 0 rfl rfl rfl (v_iload_n h pX0_needs_1 0 rfl 2 rfl rfl (v_iald h pX0_needs_1 1 i 4 0 rfl rfl rfl rfl rfl (by omega) (v_top (w := .int (nI (ix (E 3 i)))) (congrArg Value.int (hW.home (by omega))) ?_)))))
    refine v_iald h pX0_needs_1 2 (ix (E 3 i)) 2 0 rfl rfl rfl rfl rfl (by omega) (v_isub h pX0_needs_1 3 rfl (v_mmax2 h pX0_needs_1 4 wm_200 wm_201 wm_194 wm_202 rfl rfl rfl ?_))
    exact v_iret h pX0_needs_1 5 hR hret rfl (E) rfl ⟨vI (by simp [needsS, c1, c2, c3, c4]), rfl⟩
  by_cases c5 : E 2 i = 5
  · skip
    refine v_tin (tgt := 87) h pX0_needs_0 9 c5 rfl (by decide) (by decide) rfl rfl (v_iconst h pX0_needs_1 6 rfl ki_0 (v_iload_n h pX0_needs_1 7 rfl 0 rfl rfl (v_iconst h pX0_needs_1 8 rfl ki_5 (v_isub h pX0_needs_1 9 rfl (v_mmax2 h pX0_needs_1 10 wm_200 wm_201 wm_194 wm_202 rfl rfl rfl ?_)))))
    exact v_iret h pX0_needs_1 11 hR hret rfl (E) rfl ⟨vI (by simp [needsS, c1, c2, c3, c4, c5]), rfl⟩
  by_cases c6 : E 2 i = 6
  · skip
    refine v_tin (tgt := 56) h pX0_needs_0 9 c6 rfl (by decide) (by decide) rfl rfl (v_iconst h pX0_needs_0 14 rfl ki_2 (v_iload_n h pX0_needs_0 15 rfl 0 rfl rfl (v_imul h pX0_needs_0 16 rfl (v_bipush h pX0_needs_0 17 rfl kb_10 (v_iadd h pX0_needs_0 18 rfl ?_)))))
    exact v_iret h pX0_needs_0 19 hR hret rfl (E) rfl ⟨vI (by simp [needsS, c1, c2, c3, c4, c5, c6]), rfl⟩
  refine v_tout (tgt := 95) h pX0_needs_0 9 rfl (sw_1_6 c1 c2 c3 c4 c5 c6) rfl (v_iload_n h pX0_needs_1 12 rfl 0 rfl rfl ?_)
  exact v_iret h pX0_needs_1 13 hR hret rfl (E) rfl ⟨vI (by simp [needsS, c1, c2, c3, c4, c5, c6]), rfl⟩
set_option maxHeartbeats 300000 in
set_option maxRecDepth 100000 in
theorem kX0_opens (l : Launch) (D : va_G) (cI cS : ClassId) (a : Nat → Nat) (E : Nat → Nat → Int32) (i : Nat) (hi : i < 8) (n : Nat) (hW : Wf E n) : vDet l D (vT cI cS) yX0_opens cX0_opens 3 (some .boolean) 0 0 (eW cI a) [.ref (a 0), .int (nI i)] E (some (.int (bI (opensS E i)))) (E) := by
  refine vMet_of (by decide) rfl ?_
  intro K hl hD hnL hret h hR hEx
  subst hl hD
  show V K (eW cI a E) 0 [(0, .ref (a 0)), (1, .int (nI i))] []
  have hb := hW.homeL hi
  refine v_aload_n h pX0_opens_0 0 rfl 0 rfl rfl (v_get h pX0_opens_0 1 fX0_15 0 rfl rfl rfl (v_aload_n h pX0_opens_0 2 rfl 0 rfl rfl (v_get h pX0_opens_0 3 fX0_21 0 rfl rfl rfl (v_iload_n h pX0_opens_0 4 rfl 1 rfl rfl (v_iald h pX0_opens_0 5 i 4 0 rfl rfl rfl rfl rfl (by omega) ?_)))))
  refine v_top (w := .int (nI (ix (E 3 i)))) (congrArg Value.int (hW.home (by omega))) (v_iald h pX0_opens_0 6 (ix (E 3 i)) 2 0 rfl rfl rfl rfl rfl (by omega) (v_iconst h pX0_opens_0 7 rfl ki_3 ?_))
  refine v_icmp_ge2 (tgt := 19) h pX0_opens_0 8 rfl rfl (fun c1 => ?_) (fun c1 => ?_)
  · skip
    refine v_iconst h pX0_opens_0 11 rfl ki_0 (v_istore_n h pX0_opens_0 12 (lv' := [(2, .int 0), (0, .ref (a 0)), (1, .int (nI i))]) rfl rfl hnL rfl rfl (v_aload_n h pX0_opens_0 13 rfl 1 rfl rfl (v_get h pX0_opens_0 14 fX0_18 0 rfl rfl rfl (v_iload_n h pX0_opens_0 15 rfl 2 rfl rfl (v_iald h pX0_opens_0 16 i 3 0 rfl rfl rfl rfl rfl (by omega) ?_)))))
    by_cases c2 : E 2 i = 1
    · skip
      refine v_tin (tgt := 64) h pX0_opens_0 17 c2 rfl (by decide) (by decide) rfl rfl (v_iload_n h pX0_opens_0 18 rfl 0 rfl rfl ?_)
      refine v_if_eq (tgt := 83) h pX0_opens_0 19 rfl rfl (fun c3 => ?_) (fun c3 => absurd c3 (by decide))
      refine v_iconst h pX0_opens_0 28 rfl ki_0 ?_
      exact v_zret h pX0_opens_0 29 (Or.inl rfl) hR hret rfl (E) rfl ⟨vI (by simp [opensS, warmS, bI, c1, c2, -Int32.not_lt]), rfl⟩
    by_cases c4 : E 2 i = 2
    · skip
      refine v_tin (tgt := 105) h pX0_opens_0 17 c4 rfl (by decide) (by decide) rfl rfl (v_iload_n h pX0_opens_1 12 rfl 0 rfl rfl ?_)
      exact v_zret h pX0_opens_1 13 (Or.inl rfl) hR hret rfl (E) rfl ⟨vI (by simp [opensS, warmS, bI, c1, c2, c4, -Int32.not_lt]), rfl⟩
    by_cases c5 : E 2 i = 3
    · skip
      refine v_tin (tgt := 87) h pX0_opens_0 17 c5 rfl (by decide) (by decide) rfl rfl (v_iconst h pX0_opens_1 0 rfl ki_1 ?_)
      exact v_zret h pX0_opens_1 1 (Or.inr rfl) hR hret rfl (E) rfl ⟨vI (by simp [opensS, warmS, bI, c1, c2, c4, c5, -Int32.not_lt]), rfl⟩
    by_cases c6 : E 2 i = 4
    · skip
      refine v_tin (tgt := 89) h pX0_opens_0 17 c6 rfl (by decide) (by decide) rfl rfl (v_aload_n h pX0_opens_1 2 rfl 1 rfl rfl (v_get h pX0_opens_1 3 fX0_46 0 rfl rfl rfl (v_iconst h pX0_opens_1 4 rfl ki_3 (v_irem2 h pX0_opens_1 5 rfl (by decide) (v_iconst h pX0_opens_1 6 rfl ki_2 ?_)))))
      refine v_icmp_ne (tgt := 103) h pX0_opens_1 7 rfl rfl (fun c7 => ?_) (fun c7 => ?_)
      · skip
        refine v_iconst h pX0_opens_1 10 rfl ki_0 ?_
        exact v_zret h pX0_opens_1 11 (Or.inl rfl) hR hret rfl (E) rfl ⟨vI (by simp [opensS, warmS, bI, c1, c2, c4, c5, c6, c7, -Int32.not_lt]), rfl⟩
      · skip
        refine v_iconst h pX0_opens_1 8 rfl ki_1 (v_goto (tgt := 104) h pX0_opens_1 9 rfl rfl ?_)
        exact v_zret h pX0_opens_1 11 (Or.inr rfl) hR hret rfl (E) rfl ⟨vI (by simp [opensS, warmS, bI, c1, c2, c4, c5, c6, c7, -Int32.not_lt]), rfl⟩
    by_cases c8 : E 2 i = 5
    · skip
      refine v_tin (tgt := 105) h pX0_opens_0 17 c8 rfl (by decide) (by decide) rfl rfl (v_iload_n h pX0_opens_1 12 rfl 0 rfl rfl ?_)
      exact v_zret h pX0_opens_1 13 (Or.inl rfl) hR hret rfl (E) rfl ⟨vI (by simp [opensS, warmS, bI, c1, c2, c4, c5, c6, c8, -Int32.not_lt]), rfl⟩
    by_cases c9 : E 2 i = 6
    · skip
      refine v_tin (tgt := 85) h pX0_opens_0 17 c9 rfl (by decide) (by decide) rfl rfl (v_iconst h pX0_opens_0 30 rfl ki_0 ?_)
      exact v_zret h pX0_opens_0 31 (Or.inl rfl) hR hret rfl (E) rfl ⟨vI (by simp [opensS, warmS, bI, c1, c2, c4, c5, c6, c8, c9, -Int32.not_lt]), rfl⟩
    refine v_tout (tgt := 105) h pX0_opens_0 17 rfl (sw_1_6 c2 c4 c5 c6 c8 c9) rfl (v_iload_n h pX0_opens_1 12 rfl 0 rfl rfl ?_)
    exact v_zret h pX0_opens_1 13 (Or.inl rfl) hR hret rfl (E) rfl ⟨vI (by simp [opensS, warmS, bI, c1, c2, c4, c5, c6, c8, c9, -Int32.not_lt]), rfl⟩
  · skip
    refine v_iconst h pX0_opens_0 9 rfl ki_1 (v_goto (tgt := 20) h pX0_opens_0 10 rfl rfl (v_istore_n h pX0_opens_0 12 (lv' := [(2, .int 1), (0, .ref (a 0)), (1, .int (nI i))]) rfl rfl hnL rfl rfl (v_aload_n h pX0_opens_0 13 rfl 1 rfl rfl (v_get h pX0_opens_0 14 fX0_18 0 rfl rfl rfl (v_iload_n h pX0_opens_0 15 rfl 2 rfl rfl ?_)))))
    refine v_iald h pX0_opens_0 16 i 3 0 rfl rfl rfl rfl rfl (by omega) ?_
    by_cases c10 : E 2 i = 1
    · skip
      refine v_tin (tgt := 64) h pX0_opens_0 17 c10 rfl (by decide) (by decide) rfl rfl (v_iload_n h pX0_opens_0 18 rfl 0 rfl rfl ?_)
      refine v_if_eq (tgt := 83) h pX0_opens_0 19 rfl rfl (fun c11 => absurd c11 (by decide)) (fun c11 => ?_)
      refine v_aload_n h pX0_opens_0 20 rfl 1 rfl rfl (v_get h pX0_opens_0 21 fX0_24 0 rfl rfl rfl (v_iload_n h pX0_opens_0 22 rfl 2 rfl rfl (v_iald h pX0_opens_0 23 i 5 0 rfl rfl rfl rfl rfl (by omega) (v_bipush h pX0_opens_0 24 rfl kb_50 ?_))))
      refine v_icmp_gt (tgt := 83) h pX0_opens_0 25 rfl rfl (fun c12 => ?_) (fun c12 => ?_)
      · skip
        refine v_iconst h pX0_opens_0 28 rfl ki_0 ?_
        exact v_zret h pX0_opens_0 29 (Or.inl rfl) hR hret rfl (E) rfl ⟨vI (by simp [opensS, warmS, bI, c1, c10, c12, -Int32.not_lt]), rfl⟩
      · skip
        refine v_iconst h pX0_opens_0 26 rfl ki_1 (v_goto (tgt := 84) h pX0_opens_0 27 rfl rfl ?_)
        exact v_zret h pX0_opens_0 29 (Or.inr rfl) hR hret rfl (E) rfl ⟨vI (by simp [opensS, warmS, bI, c1, c10, c12, -Int32.not_lt]), rfl⟩
    by_cases c13 : E 2 i = 2
    · skip
      refine v_tin (tgt := 105) h pX0_opens_0 17 c13 rfl (by decide) (by decide) rfl rfl (v_iload_n h pX0_opens_1 12 rfl 0 rfl rfl ?_)
      exact v_zret h pX0_opens_1 13 (Or.inr rfl) hR hret rfl (E) rfl ⟨vI (by simp [opensS, warmS, bI, c1, c10, c13, -Int32.not_lt]), rfl⟩
    by_cases c14 : E 2 i = 3
    · skip
      refine v_tin (tgt := 87) h pX0_opens_0 17 c14 rfl (by decide) (by decide) rfl rfl (v_iconst h pX0_opens_1 0 rfl ki_1 ?_)
      exact v_zret h pX0_opens_1 1 (Or.inr rfl) hR hret rfl (E) rfl ⟨vI (by simp [opensS, warmS, bI, c1, c10, c13, c14, -Int32.not_lt]), rfl⟩
    by_cases c15 : E 2 i = 4
    · skip
      refine v_tin (tgt := 89) h pX0_opens_0 17 c15 rfl (by decide) (by decide) rfl rfl (v_aload_n h pX0_opens_1 2 rfl 1 rfl rfl (v_get h pX0_opens_1 3 fX0_46 0 rfl rfl rfl (v_iconst h pX0_opens_1 4 rfl ki_3 (v_irem2 h pX0_opens_1 5 rfl (by decide) (v_iconst h pX0_opens_1 6 rfl ki_2 ?_)))))
      refine v_icmp_ne (tgt := 103) h pX0_opens_1 7 rfl rfl (fun c16 => ?_) (fun c16 => ?_)
      · skip
        refine v_iconst h pX0_opens_1 10 rfl ki_0 ?_
        exact v_zret h pX0_opens_1 11 (Or.inl rfl) hR hret rfl (E) rfl ⟨vI (by simp [opensS, warmS, bI, c1, c10, c13, c14, c15, c16, -Int32.not_lt]), rfl⟩
      · skip
        refine v_iconst h pX0_opens_1 8 rfl ki_1 (v_goto (tgt := 104) h pX0_opens_1 9 rfl rfl ?_)
        exact v_zret h pX0_opens_1 11 (Or.inr rfl) hR hret rfl (E) rfl ⟨vI (by simp [opensS, warmS, bI, c1, c10, c13, c14, c15, c16, -Int32.not_lt]), rfl⟩
    by_cases c17 : E 2 i = 5
    · skip
      refine v_tin (tgt := 105) h pX0_opens_0 17 c17 rfl (by decide) (by decide) rfl rfl (v_iload_n h pX0_opens_1 12 rfl 0 rfl rfl ?_)
      exact v_zret h pX0_opens_1 13 (Or.inr rfl) hR hret rfl (E) rfl ⟨vI (by simp [opensS, warmS, bI, c1, c10, c13, c14, c15, c17, -Int32.not_lt]), rfl⟩
    by_cases c18 : E 2 i = 6
    · skip
      refine v_tin (tgt := 85) h pX0_opens_0 17 c18 rfl (by decide) (by decide) rfl rfl (v_iconst h pX0_opens_0 30 rfl ki_0 ?_)
      exact v_zret h pX0_opens_0 31 (Or.inl rfl) hR hret rfl (E) rfl ⟨vI (by simp [opensS, warmS, bI, c1, c10, c13, c14, c15, c17, c18, -Int32.not_lt]), rfl⟩
    refine v_tout (tgt := 105) h pX0_opens_0 17 rfl (sw_1_6 c10 c13 c14 c15 c17 c18) rfl (v_iload_n h pX0_opens_1 12 rfl 0 rfl rfl ?_)
    exact v_zret h pX0_opens_1 13 (Or.inr rfl) hR hret rfl (E) rfl ⟨vI (by simp [opensS, warmS, bI, c1, c10, c13, c14, c15, c17, c18, -Int32.not_lt]), rfl⟩
set_option maxHeartbeats 300000 in
set_option maxRecDepth 100000 in
theorem kX0_worthOf (l : Launch) (D : va_G) (cI cS : ClassId) (a : Nat → Nat) (E : Nat → Nat → Int32) (i : Nat) (hi : i < 8) : vDet l D (vT cI cS) yX0_worthOf cX0_worthOf 4 (some .int) 1 21 (eW cI a) [.ref (a 0), .int (nI i)] E (some (.int (worthS E i))) (E) := by
  refine vMet_of (by decide) rfl ?_
  intro K hl hD hnL hret h hR hEx
  subst hl hD
  show V K (eW cI a E) 0 [(0, .ref (a 0)), (1, .int (nI i))] []
  refine v_aload_n h pX0_worthOf_0 0 rfl 0 rfl rfl (v_iload_n h pX0_worthOf_0 1 rfl 1 rfl rfl ?_)
  refine v_callV h pX0_worthOf_0 2 mX0_78 (As := [.int (nI i)]) (st := []) (kX0_isTold _ _ cI cS a E i (by omega)) v0B v0C (vEmb_rf _ _) 0 rfl rfl rfl rfl rfl rfl rfl (vDet_k ?_)
  show V K (eW cI a E) 5 [(0, .ref (a 0)), (1, .int (nI i))] [.int (bI (toldS E i))]
  refine v_bif_eq (tgt := 10) h pX0_worthOf_0 3 rfl rfl (fun c1 => ?_) (fun c1 => ?_)
  · skip
    refine v_aload_n h pX0_worthOf_0 6 rfl 0 rfl rfl (v_get h pX0_worthOf_0 7 fX0_27 0 rfl rfl rfl (v_iload_n h pX0_worthOf_0 8 rfl 1 rfl rfl (v_iald h pX0_worthOf_0 9 i 6 0 rfl rfl rfl rfl rfl (by omega) (v_istore_n h pX0_worthOf_0 10 (lv' := [(2, .int (E 5 i)), (0, .ref (a 0)), (1, .int (nI i))]) rfl rfl hnL rfl rfl (v_iload_n h pX0_worthOf_0 11 rfl 0 rfl rfl ?_)))))
    refine v_aload_n h pX0_worthOf_0 12 rfl 1 rfl rfl (v_get h pX0_worthOf_0 13 fX0_24 0 rfl rfl rfl (v_iload_n h pX0_worthOf_0 14 rfl 2 rfl rfl (v_iald h pX0_worthOf_0 15 i 5 0 rfl rfl rfl rfl rfl (by omega) (v_iadd h pX0_worthOf_0 16 rfl (v_istore_n h pX0_worthOf_0 17 (lv' := [(3, .int ((E 5 i) + (E 4 i))), (2, .int (E 5 i)), (0, .ref (a 0)), (1, .int (nI i))]) rfl rfl hnL rfl rfl ?_)))))
    refine v_aload_n h pX0_worthOf_0 18 rfl 2 rfl rfl (v_get h pX0_worthOf_0 19 fX0_18 0 rfl rfl rfl (v_iload_n h pX0_worthOf_0 20 rfl 3 rfl rfl (v_iald h pX0_worthOf_0 21 i 3 0 rfl rfl rfl rfl rfl (by omega) ?_)))
    by_cases c2 : E 2 i = 1
    · skip
      refine v_tin (tgt := 72) h pX0_worthOf_0 22 c2 rfl (by decide) (by decide) rfl rfl (v_iload_n h pX0_worthOf_0 23 rfl 0 rfl rfl ?_)
      exact v_iret h pX0_worthOf_0 24 hR hret rfl (E) rfl ⟨vI (by simp [worthS, c1, c2]), rfl⟩
    by_cases c3 : E 2 i = 2
    · skip
      refine v_tin (tgt := 90) h pX0_worthOf_0 22 c3 rfl (by decide) (by decide) rfl rfl (v_iload_n h pX0_worthOf_1 4 rfl 1 rfl rfl (v_iconst h pX0_worthOf_1 5 rfl ki_2 (v_idiv h pX0_worthOf_1 6 rfl (by decide) ?_)))
      exact v_iret h pX0_worthOf_1 7 hR hret rfl (E) rfl ⟨vI (by simp [worthS, c1, c2, c3]), rfl⟩
    by_cases c4 : E 2 i = 3
    · skip
      refine v_tin (tgt := 90) h pX0_worthOf_0 22 c4 rfl (by decide) (by decide) rfl rfl (v_iload_n h pX0_worthOf_1 4 rfl 1 rfl rfl (v_iconst h pX0_worthOf_1 5 rfl ki_2 (v_idiv h pX0_worthOf_1 6 rfl (by decide) ?_)))
      exact v_iret h pX0_worthOf_1 7 hR hret rfl (E) rfl ⟨vI (by simp [worthS, c1, c2, c3, c4]), rfl⟩
    by_cases c5 : E 2 i = 4
    · skip
      refine v_tin (tgt := 90) h pX0_worthOf_0 22 c5 rfl (by decide) (by decide) rfl rfl (v_iload_n h pX0_worthOf_1 4 rfl 1 rfl rfl (v_iconst h pX0_worthOf_1 5 rfl ki_2 (v_idiv h pX0_worthOf_1 6 rfl (by decide) ?_)))
      exact v_iret h pX0_worthOf_1 7 hR hret rfl (E) rfl ⟨vI (by simp [worthS, c1, c2, c3, c4, c5]), rfl⟩
    by_cases c6 : E 2 i = 5
    · skip
      refine v_tin (tgt := 94) h pX0_worthOf_0 22 c6 rfl (by decide) (by decide) rfl rfl (v_iconst h pX0_worthOf_1 8 rfl ki_3 (v_iload_n h pX0_worthOf_1 9 rfl 1 rfl rfl (v_imul h pX0_worthOf_1 10 rfl ?_)))
      exact v_iret h pX0_worthOf_1 11 hR hret rfl (E) rfl ⟨vI (by simp [worthS, c1, c2, c3, c4, c5, c6]), rfl⟩
    by_cases c7 : E 2 i = 6
    · skip
      refine v_tin (tgt := 74) h pX0_worthOf_0 22 c7 rfl (by decide) (by decide) rfl rfl (v_iconst h pX0_worthOf_0 25 rfl ki_0 (v_iload_n h pX0_worthOf_0 26 rfl 0 rfl rfl (v_bipush h pX0_worthOf_0 27 rfl kb_10 (v_aload_n h pX0_worthOf_0 28 rfl 2 rfl rfl (v_get h pX0_worthOf_0 29 fX0_33 0 rfl rfl rfl ?_)))))
      refine v_iload_n h pX0_worthOf_0 30 rfl 3 rfl rfl (v_iald h pX0_worthOf_0 31 i 8 0 rfl rfl rfl rfl rfl (by omega) (v_imul h pX0_worthOf_1 0 rfl (v_isub h pX0_worthOf_1 1 rfl (v_mmax2 h pX0_worthOf_1 2 wm_200 wm_201 wm_194 wm_202 rfl rfl rfl ?_))))
      exact v_iret h pX0_worthOf_1 3 hR hret rfl (E) rfl ⟨vI (by simp [worthS, c1, c2, c3, c4, c5, c6, c7]), rfl⟩
    refine v_tout (tgt := 98) h pX0_worthOf_0 22 rfl (sw_1_6 c2 c3 c4 c5 c6 c7) rfl (v_iload_n h pX0_worthOf_1 12 rfl 1 rfl rfl ?_)
    exact v_iret h pX0_worthOf_1 13 hR hret rfl (E) rfl ⟨vI (by simp [worthS, c1, c2, c3, c4, c5, c6, c7]), rfl⟩
  · skip
    refine v_iconst h pX0_worthOf_0 4 rfl ki_0 ?_
    exact v_iret h pX0_worthOf_0 5 hR hret rfl (E) rfl ⟨vI (by simp [worthS, c1]), rfl⟩
set_option maxHeartbeats 300000 in
set_option maxRecDepth 100000 in
theorem kX0_isHidden (l : Launch) (D : va_G) (cI cS : ClassId) (a : Nat → Nat) (E : Nat → Nat → Int32) (i : Nat) (hi : i < 8) (n : Nat) (hW : Wf E n) : vDet l D (vT cI cS) yX0_isHidden cX0_isHidden 2 (some .boolean) 2 35 (eW cI a) [.ref (a 0), .int (nI i)] E (some (.int (bI (hiddenS E i)))) (E) := by
  refine vMet_of (by decide) rfl ?_
  intro K hl hD hnL hret h hR hEx
  subst hl hD
  show V K (eW cI a E) 0 [(0, .ref (a 0)), (1, .int (nI i))] []
  refine v_aload_n h pX0_isHidden_0 0 rfl 0 rfl rfl (v_iload_n h pX0_isHidden_0 1 rfl 1 rfl rfl ?_)
  refine v_callV h pX0_isHidden_0 2 mX0_78 (As := [.int (nI i)]) (st := []) (kX0_isTold _ _ cI cS a E i (by omega)) v0B v0C (vEmb_rf _ _) 0 rfl rfl rfl rfl rfl rfl rfl (vDet_k ?_)
  show V K (eW cI a E) 5 [(0, .ref (a 0)), (1, .int (nI i))] [.int (bI (toldS E i))]
  refine v_bif_ne (tgt := 26) h pX0_isHidden_0 3 rfl rfl (fun c1 => ?_) (fun c1 => ?_)
  · skip
    refine v_iconst h pX0_isHidden_0 14 rfl ki_0 ?_
    exact v_zret h pX0_isHidden_0 15 (Or.inl rfl) hR hret rfl (E) rfl ⟨vI (by simp [hiddenS, bI, c1, -Int32.not_lt]), rfl⟩
  · skip
    refine v_aload_n h pX0_isHidden_0 4 rfl 0 rfl rfl (v_get h pX0_isHidden_0 5 fX0_27 0 rfl rfl rfl (v_iload_n h pX0_isHidden_0 6 rfl 1 rfl rfl (v_iald h pX0_isHidden_0 7 i 6 0 rfl rfl rfl rfl rfl (by omega) (v_aload_n h pX0_isHidden_0 8 rfl 0 rfl rfl (v_iload_n h pX0_isHidden_0 9 rfl 1 rfl rfl ?_)))))
    refine v_callV h pX0_isHidden_0 10 mX0_82 (As := [.int (nI i)]) (st := [.int (E 5 i)]) (kX0_needs _ _ cI cS a E i (by omega) n hW) v0B v0C (vEmb_rf _ _) 0 rfl rfl rfl rfl rfl rfl rfl (vDet_k ?_)
    show V K (eW cI a E) 19 [(0, .ref (a 0)), (1, .int (nI i))] [.int (needsS E i), .int (E 5 i)]
    refine v_icmp_lt (tgt := 26) h pX0_isHidden_0 11 rfl rfl (fun c2 => ?_) (fun c2 => ?_)
    · skip
      refine v_iconst h pX0_isHidden_0 14 rfl ki_0 ?_
      exact v_zret h pX0_isHidden_0 15 (Or.inl rfl) hR hret rfl (E) rfl ⟨vI (by simp [hiddenS, bI, c1, c2, -Int32.not_lt]), rfl⟩
    · skip
      refine v_iconst h pX0_isHidden_0 12 rfl ki_1 (v_goto (tgt := 27) h pX0_isHidden_0 13 rfl rfl ?_)
      exact v_zret h pX0_isHidden_0 15 (Or.inr rfl) hR hret rfl (E) rfl ⟨vI (by simp [hiddenS, bI, c1, c2, -Int32.not_lt]), rfl⟩
set_option maxHeartbeats 300000 in
set_option maxRecDepth 100000 in
theorem kX0_clearOyster (l : Launch) (D : va_G) (cI cS : ClassId) (a : Nat → Nat) (E : Nat → Nat → Int32) (i : Nat) (hi : i < 8) : vDet l D (vT cI cS) yX0_clearOyster cX0_clearOyster 2 none 0 0 (eW cI a) [.ref (a 0), .int (nI i)] E (none) (clearS E i) := by
  refine vMet_of (by decide) rfl ?_
  intro K hl hD hnL hret h hR hEx
  subst hl hD
  show V K (eW cI a E) 0 [(0, .ref (a 0)), (1, .int (nI i))] []
  refine v_aload_n h pX0_clearOyster_0 0 rfl 0 rfl rfl (v_get h pX0_clearOyster_0 1 fX0_24 0 rfl rfl rfl (v_iload_n h pX0_clearOyster_0 2 rfl 1 rfl rfl (v_iconst h pX0_clearOyster_0 3 rfl ki_0 (v_iast h pX0_clearOyster_0 4 i 5 0 (ws' := eW cI a (up E 4 i 0)) rfl rfl rfl rfl rfl (by omega) eW_s4 (v_aload_n h pX0_clearOyster_0 5 rfl 0 rfl rfl ?_)))))
  refine v_get h pX0_clearOyster_0 6 fX0_27 0 rfl rfl rfl (v_iload_n h pX0_clearOyster_0 7 rfl 1 rfl rfl (v_iconst h pX0_clearOyster_0 8 rfl ki_0 (v_iast h pX0_clearOyster_0 9 i 6 0 (ws' := eW cI a (up (up E 4 i 0) 5 i 0)) rfl rfl rfl rfl rfl (by omega) eW_s5 (v_aload_n h pX0_clearOyster_0 10 rfl 0 rfl rfl (v_get h pX0_clearOyster_0 11 fX0_30 0 rfl rfl rfl ?_)))))
  refine v_iload_n h pX0_clearOyster_0 12 rfl 1 rfl rfl (v_iconst h pX0_clearOyster_0 13 rfl ki_0 (v_iast h pX0_clearOyster_0 14 i 7 0 (ws' := eW cI a (up (up (up E 4 i 0) 5 i 0) 6 i 0)) rfl rfl rfl rfl rfl (by omega) eW_s6 (v_aload_n h pX0_clearOyster_0 15 rfl 0 rfl rfl (v_get h pX0_clearOyster_0 16 fX0_33 0 rfl rfl rfl (v_iload_n h pX0_clearOyster_0 17 rfl 1 rfl rfl ?_)))))
  refine v_iconst h pX0_clearOyster_0 18 rfl ki_0 (v_iast h pX0_clearOyster_0 19 i 8 0 (ws' := eW cI a (up (up (up (up E 4 i 0) 5 i 0) 6 i 0) 7 i 0)) rfl rfl rfl rfl rfl (by omega) eW_s7 ?_)
  exact v_vret h pX0_clearOyster_0 20 hR hret rfl (up (up (up (up E 4 i 0) 5 i 0) 6 i 0) 7 i 0) rfl ⟨rfl, rfl⟩
set_option maxHeartbeats 300000 in
set_option maxRecDepth 100000 in
theorem kX0_rowOf (l : Launch) (D : va_G) (cI cS : ClassId) (a : Nat → Nat) (E : Nat → Nat → Int32) (w : Int32) : vDet l D (vT cI cS) yX0_rowOf cX0_rowOf 2 (some (.array .int)) 0 0 (eW cI a) [.ref (a 0), .int w] E (some (.ref (a (rowA w)))) (E) := by
  refine vMet_of (by decide) rfl ?_
  intro K hl hD hnL hret h hR hEx
  subst hl hD
  show V K (eW cI a E) 0 [(0, .ref (a 0)), (1, .int w)] []
  refine v_iload_n h pX0_rowOf_0 0 rfl 1 rfl rfl ?_
  by_cases c1 : w = 0
  · skip
    refine v_tin (tgt := 36) h pX0_rowOf_0 1 c1 rfl (by decide) (by decide) rfl rfl (v_aload_n h pX0_rowOf_0 2 rfl 0 rfl rfl (v_get h pX0_rowOf_0 3 fX0_18 0 rfl rfl rfl ?_))
    exact v_aret h pX0_rowOf_0 4 (Or.inr ⟨_, rfl⟩) hR hret rfl (E) rfl ⟨vRf (by simp [rowA, c1]), rfl⟩
  by_cases c2 : w = 1
  · skip
    refine v_tin (tgt := 41) h pX0_rowOf_0 1 c2 rfl (by decide) (by decide) rfl rfl (v_aload_n h pX0_rowOf_0 5 rfl 0 rfl rfl (v_get h pX0_rowOf_0 6 fX0_21 0 rfl rfl rfl ?_))
    exact v_aret h pX0_rowOf_0 7 (Or.inr ⟨_, rfl⟩) hR hret rfl (E) rfl ⟨vRf (by simp [rowA, c1, c2]), rfl⟩
  by_cases c3 : w = 2
  · skip
    refine v_tin (tgt := 46) h pX0_rowOf_0 1 c3 rfl (by decide) (by decide) rfl rfl (v_aload_n h pX0_rowOf_0 8 rfl 0 rfl rfl (v_get h pX0_rowOf_0 9 fX0_24 0 rfl rfl rfl ?_))
    exact v_aret h pX0_rowOf_0 10 (Or.inr ⟨_, rfl⟩) hR hret rfl (E) rfl ⟨vRf (by simp [rowA, c1, c2, c3]), rfl⟩
  by_cases c4 : w = 3
  · skip
    refine v_tin (tgt := 51) h pX0_rowOf_0 1 c4 rfl (by decide) (by decide) rfl rfl (v_aload_n h pX0_rowOf_0 11 rfl 0 rfl rfl (v_get h pX0_rowOf_0 12 fX0_27 0 rfl rfl rfl ?_))
    exact v_aret h pX0_rowOf_0 13 (Or.inr ⟨_, rfl⟩) hR hret rfl (E) rfl ⟨vRf (by simp [rowA, c1, c2, c3, c4]), rfl⟩
  by_cases c5 : w = 4
  · skip
    refine v_tin (tgt := 56) h pX0_rowOf_0 1 c5 rfl (by decide) (by decide) rfl rfl (v_aload_n h pX0_rowOf_0 14 rfl 0 rfl rfl (v_get h pX0_rowOf_0 15 fX0_30 0 rfl rfl rfl ?_))
    exact v_aret h pX0_rowOf_0 16 (Or.inr ⟨_, rfl⟩) hR hret rfl (E) rfl ⟨vRf (by simp [rowA, c1, c2, c3, c4, c5]), rfl⟩
  refine v_tout (tgt := 61) h pX0_rowOf_0 1 rfl (sw_0_4 c1 c2 c3 c4 c5) rfl (v_aload_n h pX0_rowOf_0 17 rfl 0 rfl rfl (v_get h pX0_rowOf_0 18 fX0_33 0 rfl rfl rfl ?_))
  exact v_aret h pX0_rowOf_0 19 (Or.inr ⟨_, rfl⟩) hR hret rfl (E) rfl ⟨vRf (by simp [rowA, c1, c2, c3, c4, c5]), rfl⟩
set_option maxHeartbeats 300000 in
set_option maxRecDepth 100000 in
theorem kX0_draw (l : Launch) (D : va_G) (cI cS : ClassId) (a : Nat → Nat) (E : Nat → Nat → Int32)  : vDet l D (vT cI cS) yX0_draw cX0_draw 1 (some .int) 0 0 (eW cI a) [.ref (a 0)] E (some (.int (ush8 (drawZ (E 9 3))))) (up E 9 3 (drawZ (E 9 3))) := by
  refine vMet_of (by decide) rfl ?_
  intro K hl hD hnL hret h hR hEx
  subst hl hD
  show V K (eW cI a E) 0 [(0, .ref (a 0))] []
  refine v_aload_n h pX0_draw_0 0 rfl 0 rfl rfl (v_aload_n h pX0_draw_0 1 rfl 0 rfl rfl (v_get h pX0_draw_0 2 fX0_49 0 rfl rfl rfl (v_ldc h pX0_draw_0 3 wm_626 rfl (v_imul h pX0_draw_0 4 rfl (v_sipush h pX0_draw_0 5 rfl ks_12345 ?_)))))
  refine v_iadd h pX0_draw_0 6 rfl (v_puti h pX0_draw_0 7 gX0_49 0 (ws' := eW cI a (up E 9 3 (((E 9 3) * 1103515245) + 12345))) rfl rfl rfl eW_p3 (v_aload_n h pX0_draw_0 8 rfl 0 rfl rfl (v_get h pX0_draw_0 9 fX0_49 0 rfl rfl rfl (v_bipush h pX0_draw_0 10 rfl kb_8 (v_iushr h pX0_draw_0 11 rfl ?_)))))
  exact v_iret h pX0_draw_0 12 hR hret rfl (up E 9 3 (((E 9 3) * 1103515245) + 12345)) rfl ⟨vI (by rfl), rfl⟩
set_option maxHeartbeats 300000 in
set_option maxRecDepth 100000 in
theorem kX0_toldSet (l : Launch) (D : va_G) (cI cS : ClassId) (a : Nat → Nat) (E : Nat → Nat → Int32) (n : Nat) (hW : Wf E n) : vDet l D (vT cI cS) yX0_toldSet cX0_toldSet 3 (some .int) 1 21 (eW cI a) [.ref (a 0)] E (some (.int (setS (toldS E) n))) (E) := by
  refine vMet_of (by decide) rfl ?_
  intro K hl hD hnL hret h hR hEx
  subst hl hD
  show V K (eW cI a E) 0 [(0, .ref (a 0))] []
  have hn8 := hW.1
  refine v_iconst h pX0_toldSet_0 0 rfl ki_0 (v_istore_n h pX0_toldSet_0 1 (lv' := [(1, .int 0), (0, .ref (a 0))]) rfl rfl hnL rfl rfl (v_iconst h pX0_toldSet_0 2 rfl ki_0 (v_istore_n h pX0_toldSet_0 3 (lv' := [(2, .int 0), (1, .int 0), (0, .ref (a 0))]) rfl rfl hnL rfl rfl ?_)))
  refine v_lv [2, 1, 0] (lv' := [(0, .ref (a 0)), (1, .int 0), (2, .int 0)]) rfl ?_
  have L1 : ∀ (m i1 : Nat), i1 ≤ n → n + 1 ≤ i1 + m → V K (eW cI a E) 4 [(0, .ref (a 0)), (1, .int (setS (toldS E) i1)), (2, .int (nI i1))] [] := by
    intro m
    induction m with
    | zero => exact fun i1 h1 h2 => absurd h2 (by omega)
    | succ m ih1 =>
      intro i1 hle1 hlt1
      refine v_iload_n h pX0_toldSet_0 4 rfl 2 rfl rfl (v_aload_n h pX0_toldSet_0 5 rfl 0 rfl rfl (v_get h pX0_toldSet_0 6 fX0_39 0 rfl rfl rfl (v_top (w := .int (nI n)) (congrArg Value.int hW.2.1) ?_)))
      refine v_ncmp_ge (a := i1) (b := n) (tgt := 32) h pX0_toldSet_0 7 rfl rfl (by omega) (by omega) (fun c2 => ?_) (fun c2 => ?_)
      · skip
        obtain rfl : n = i1 := by omega
        refine v_iload_n h pX0_toldSet_0 20 rfl 1 rfl rfl ?_
        exact v_iret h pX0_toldSet_0 21 hR hret rfl (E) rfl ⟨vI rfl, rfl⟩
      · skip
        refine v_aload_n h pX0_toldSet_0 8 rfl 0 rfl rfl (v_iload_n h pX0_toldSet_0 9 rfl 2 rfl rfl ?_)
        refine v_callV h pX0_toldSet_0 10 mX0_78 (As := [.int (nI i1)]) (st := []) (kX0_isTold _ _ cI cS a E i1 (by omega)) v0B v0C (vEmb_rf _ _) 0 rfl rfl rfl rfl rfl rfl rfl (vDet_k ?_)
        show V K (eW cI a E) 17 [(0, .ref (a 0)), (1, .int (setS (toldS E) i1)), (2, .int (nI i1))] [.int (bI (toldS E i1))]
        refine v_bif_eq (tgt := 26) h pX0_toldSet_0 11 rfl rfl (fun c3 => ?_) (fun c3 => ?_)
        · skip
          refine v_iinc h pX0_toldSet_0 18 (v := nI (i1 + 1)) (lv' := [(2, .int (nI (i1 + 1))), (0, .ref (a 0)), (1, .int (setS (toldS E) i1))]) rfl 2 rfl hnL rfl rfl (nI_1 i1) (v_goto (tgt := 4) h pX0_toldSet_0 19 rfl rfl (v_lv [1, 2, 0] (lv' := [(0, .ref (a 0)), (1, .int (setS (toldS E) i1)), (2, .int (nI (i1 + 1)))]) rfl (v_eql (congrArg (fun z : Int32 => ([(0, .ref (a 0)), (1, .int z), (2, .int (nI (i1 + 1)))] : List (Nat × Value))) (by simp [setS, c2, c3] : setS (toldS E) i1 = setS (toldS E) (i1 + 1))) ?_)))
          exact ih1 (i1 + 1) (by omega) (by omega)
        · skip
          refine v_iload_n h pX0_toldSet_0 12 rfl 1 rfl rfl (v_iconst h pX0_toldSet_0 13 rfl ki_1 (v_iload_n h pX0_toldSet_0 14 rfl 2 rfl rfl (v_ishl h pX0_toldSet_0 15 rfl (v_ior h pX0_toldSet_0 16 rfl (v_istore_n h pX0_toldSet_0 17 (lv' := [(1, .int ((setS (toldS E) i1) ||| (1 <<< ((nI i1) &&& 31)))), (0, .ref (a 0)), (2, .int (nI i1))]) rfl rfl hnL rfl rfl ?_)))))
          refine v_iinc h pX0_toldSet_0 18 (v := nI (i1 + 1)) (lv' := [(2, .int (nI (i1 + 1))), (1, .int ((setS (toldS E) i1) ||| (1 <<< ((nI i1) &&& 31)))), (0, .ref (a 0))]) rfl 2 rfl hnL rfl rfl (nI_1 i1) (v_goto (tgt := 4) h pX0_toldSet_0 19 rfl rfl (v_lv [2, 1, 0] (lv' := [(0, .ref (a 0)), (1, .int ((setS (toldS E) i1) ||| (1 <<< ((nI i1) &&& 31)))), (2, .int (nI (i1 + 1)))]) rfl (v_eql (congrArg (fun z : Int32 => ([(0, .ref (a 0)), (1, .int z), (2, .int (nI (i1 + 1)))] : List (Nat × Value))) (by simp [setS, c2, c3] : (setS (toldS E) i1) ||| (1 <<< ((nI i1) &&& 31)) = setS (toldS E) (i1 + 1))) ?_)))
          exact ih1 (i1 + 1) (by omega) (by omega)
  exact L1 (n + 1) 0 (by omega) (by omega)
set_option maxHeartbeats 300000 in
set_option maxRecDepth 100000 in
theorem kX0_hiddenSet (l : Launch) (D : va_G) (cI cS : ClassId) (a : Nat → Nat) (E : Nat → Nat → Int32) (n : Nat) (hW : Wf E n) : vDet l D (vT cI cS) yX0_hiddenSet cX0_hiddenSet 3 (some .int) 3 56 (eW cI a) [.ref (a 0)] E (some (.int (setS (hiddenS E) n))) (E) := by
  refine vMet_of (by decide) rfl ?_
  intro K hl hD hnL hret h hR hEx
  subst hl hD
  show V K (eW cI a E) 0 [(0, .ref (a 0))] []
  have hn8 := hW.1
  refine v_iconst h pX0_hiddenSet_0 0 rfl ki_0 (v_istore_n h pX0_hiddenSet_0 1 (lv' := [(1, .int 0), (0, .ref (a 0))]) rfl rfl hnL rfl rfl (v_iconst h pX0_hiddenSet_0 2 rfl ki_0 (v_istore_n h pX0_hiddenSet_0 3 (lv' := [(2, .int 0), (1, .int 0), (0, .ref (a 0))]) rfl rfl hnL rfl rfl ?_)))
  refine v_lv [2, 1, 0] (lv' := [(0, .ref (a 0)), (1, .int 0), (2, .int 0)]) rfl ?_
  have L1 : ∀ (m i1 : Nat), i1 ≤ n → n + 1 ≤ i1 + m → V K (eW cI a E) 4 [(0, .ref (a 0)), (1, .int (setS (hiddenS E) i1)), (2, .int (nI i1))] [] := by
    intro m
    induction m with
    | zero => exact fun i1 h1 h2 => absurd h2 (by omega)
    | succ m ih1 =>
      intro i1 hle1 hlt1
      refine v_iload_n h pX0_hiddenSet_0 4 rfl 2 rfl rfl (v_aload_n h pX0_hiddenSet_0 5 rfl 0 rfl rfl (v_get h pX0_hiddenSet_0 6 fX0_39 0 rfl rfl rfl (v_top (w := .int (nI n)) (congrArg Value.int hW.2.1) ?_)))
      refine v_ncmp_ge (a := i1) (b := n) (tgt := 32) h pX0_hiddenSet_0 7 rfl rfl (by omega) (by omega) (fun c2 => ?_) (fun c2 => ?_)
      · skip
        obtain rfl : n = i1 := by omega
        refine v_iload_n h pX0_hiddenSet_0 20 rfl 1 rfl rfl ?_
        exact v_iret h pX0_hiddenSet_0 21 hR hret rfl (E) rfl ⟨vI rfl, rfl⟩
      · skip
        refine v_aload_n h pX0_hiddenSet_0 8 rfl 0 rfl rfl (v_iload_n h pX0_hiddenSet_0 9 rfl 2 rfl rfl ?_)
        refine v_callV h pX0_hiddenSet_0 10 mX0_92 (As := [.int (nI i1)]) (st := []) (kX0_isHidden _ _ cI cS a E i1 (by omega) n hW) v0B v0C (vEmb_rf _ _) 0 rfl rfl rfl rfl rfl rfl rfl (vDet_k ?_)
        show V K (eW cI a E) 17 [(0, .ref (a 0)), (1, .int (setS (hiddenS E) i1)), (2, .int (nI i1))] [.int (bI (hiddenS E i1))]
        refine v_bif_eq (tgt := 26) h pX0_hiddenSet_0 11 rfl rfl (fun c3 => ?_) (fun c3 => ?_)
        · skip
          refine v_iinc h pX0_hiddenSet_0 18 (v := nI (i1 + 1)) (lv' := [(2, .int (nI (i1 + 1))), (0, .ref (a 0)), (1, .int (setS (hiddenS E) i1))]) rfl 2 rfl hnL rfl rfl (nI_1 i1) (v_goto (tgt := 4) h pX0_hiddenSet_0 19 rfl rfl (v_lv [1, 2, 0] (lv' := [(0, .ref (a 0)), (1, .int (setS (hiddenS E) i1)), (2, .int (nI (i1 + 1)))]) rfl (v_eql (congrArg (fun z : Int32 => ([(0, .ref (a 0)), (1, .int z), (2, .int (nI (i1 + 1)))] : List (Nat × Value))) (by simp [setS, c2, c3] : setS (hiddenS E) i1 = setS (hiddenS E) (i1 + 1))) ?_)))
          exact ih1 (i1 + 1) (by omega) (by omega)
        · skip
          refine v_iload_n h pX0_hiddenSet_0 12 rfl 1 rfl rfl (v_iconst h pX0_hiddenSet_0 13 rfl ki_1 (v_iload_n h pX0_hiddenSet_0 14 rfl 2 rfl rfl (v_ishl h pX0_hiddenSet_0 15 rfl (v_ior h pX0_hiddenSet_0 16 rfl (v_istore_n h pX0_hiddenSet_0 17 (lv' := [(1, .int ((setS (hiddenS E) i1) ||| (1 <<< ((nI i1) &&& 31)))), (0, .ref (a 0)), (2, .int (nI i1))]) rfl rfl hnL rfl rfl ?_)))))
          refine v_iinc h pX0_hiddenSet_0 18 (v := nI (i1 + 1)) (lv' := [(2, .int (nI (i1 + 1))), (1, .int ((setS (hiddenS E) i1) ||| (1 <<< ((nI i1) &&& 31)))), (0, .ref (a 0))]) rfl 2 rfl hnL rfl rfl (nI_1 i1) (v_goto (tgt := 4) h pX0_hiddenSet_0 19 rfl rfl (v_lv [2, 1, 0] (lv' := [(0, .ref (a 0)), (1, .int ((setS (hiddenS E) i1) ||| (1 <<< ((nI i1) &&& 31)))), (2, .int (nI (i1 + 1)))]) rfl (v_eql (congrArg (fun z : Int32 => ([(0, .ref (a 0)), (1, .int z), (2, .int (nI (i1 + 1)))] : List (Nat × Value))) (by simp [setS, c2, c3] : (setS (hiddenS E) i1) ||| (1 <<< ((nI i1) &&& 31)) = setS (hiddenS E) (i1 + 1))) ?_)))
          exact ih1 (i1 + 1) (by omega) (by omega)
  exact L1 (n + 1) 0 (by omega) (by omega)
set_option maxHeartbeats 300000 in
set_option maxRecDepth 100000 in
theorem kX0_setIn (l : Launch) (D : va_G) (cI cS : ClassId) (a : Nat → Nat) (E : Nat → Nat → Int32) (n : Nat) (hW : Wf E n) (b : Int32) : vDet l D (vT cI cS) yX0_setIn cX0_setIn 4 (some .int) 0 0 (eW cI a) [.ref (a 0), .int b] E (some (.int (setS (fun j => decide (E 3 j = b)) n))) (E) := by
  refine vMet_of (by decide) rfl ?_
  intro K hl hD hnL hret h hR hEx
  subst hl hD
  show V K (eW cI a E) 0 [(0, .ref (a 0)), (1, .int b)] []
  have hn8 := hW.1
  refine v_iconst h pX0_setIn_0 0 rfl ki_0 (v_istore_n h pX0_setIn_0 1 (lv' := [(2, .int 0), (0, .ref (a 0)), (1, .int b)]) rfl rfl hnL rfl rfl (v_iconst h pX0_setIn_0 2 rfl ki_0 (v_istore_n h pX0_setIn_0 3 (lv' := [(3, .int 0), (2, .int 0), (0, .ref (a 0)), (1, .int b)]) rfl rfl hnL rfl rfl ?_)))
  refine v_lv [2, 3, 1, 0] (lv' := [(0, .ref (a 0)), (1, .int b), (2, .int 0), (3, .int 0)]) rfl ?_
  have L1 : ∀ (m i1 : Nat), i1 ≤ n → n + 1 ≤ i1 + m → V K (eW cI a E) 4 [(0, .ref (a 0)), (1, .int b), (2, .int (setS (fun j => decide (E 3 j = b)) i1)), (3, .int (nI i1))] [] := by
    intro m
    induction m with
    | zero => exact fun i1 h1 h2 => absurd h2 (by omega)
    | succ m ih1 =>
      intro i1 hle1 hlt1
      refine v_iload_n h pX0_setIn_0 4 rfl 3 rfl rfl (v_aload_n h pX0_setIn_0 5 rfl 0 rfl rfl (v_get h pX0_setIn_0 6 fX0_39 0 rfl rfl rfl (v_top (w := .int (nI n)) (congrArg Value.int hW.2.1) ?_)))
      refine v_ncmp_ge (a := i1) (b := n) (tgt := 34) h pX0_setIn_0 7 rfl rfl (by omega) (by omega) (fun c2 => ?_) (fun c2 => ?_)
      · skip
        obtain rfl : n = i1 := by omega
        refine v_iload_n h pX0_setIn_0 22 rfl 2 rfl rfl ?_
        exact v_iret h pX0_setIn_0 23 hR hret rfl (E) rfl ⟨vI rfl, rfl⟩
      · skip
        refine v_aload_n h pX0_setIn_0 8 rfl 0 rfl rfl (v_get h pX0_setIn_0 9 fX0_21 0 rfl rfl rfl (v_iload_n h pX0_setIn_0 10 rfl 3 rfl rfl (v_iald h pX0_setIn_0 11 i1 4 0 rfl rfl rfl rfl rfl (by omega) (v_iload_n h pX0_setIn_0 12 rfl 1 rfl rfl ?_))))
        refine v_icmp_ne (tgt := 28) h pX0_setIn_0 13 rfl rfl (fun c3 => ?_) (fun c3 => ?_)
        · skip
          refine v_iinc h pX0_setIn_0 20 (v := nI (i1 + 1)) (lv' := [(3, .int (nI (i1 + 1))), (0, .ref (a 0)), (1, .int b), (2, .int (setS (fun j => decide (E 3 j = b)) i1))]) rfl 3 rfl hnL rfl rfl (nI_1 i1) (v_goto (tgt := 4) h pX0_setIn_0 21 rfl rfl (v_lv [1, 2, 3, 0] (lv' := [(0, .ref (a 0)), (1, .int b), (2, .int (setS (fun j => decide (E 3 j = b)) i1)), (3, .int (nI (i1 + 1)))]) rfl (v_eql (congrArg (fun z : Int32 => ([(0, .ref (a 0)), (1, .int b), (2, .int z), (3, .int (nI (i1 + 1)))] : List (Nat × Value))) (by simp [setS, c2, c3] : setS (fun j => decide (E 3 j = b)) i1 = setS (fun j => decide (E 3 j = b)) (i1 + 1))) ?_)))
          exact ih1 (i1 + 1) (by omega) (by omega)
        · skip
          refine v_iload_n h pX0_setIn_0 14 rfl 2 rfl rfl (v_iconst h pX0_setIn_0 15 rfl ki_1 (v_iload_n h pX0_setIn_0 16 rfl 3 rfl rfl (v_ishl h pX0_setIn_0 17 rfl (v_ior h pX0_setIn_0 18 rfl (v_istore_n h pX0_setIn_0 19 (lv' := [(2, .int ((setS (fun j => decide (E 3 j = b)) i1) ||| (1 <<< ((nI i1) &&& 31)))), (0, .ref (a 0)), (1, .int b), (3, .int (nI i1))]) rfl rfl hnL rfl rfl ?_)))))
          refine v_iinc h pX0_setIn_0 20 (v := nI (i1 + 1)) (lv' := [(3, .int (nI (i1 + 1))), (2, .int ((setS (fun j => decide (E 3 j = b)) i1) ||| (1 <<< ((nI i1) &&& 31)))), (0, .ref (a 0)), (1, .int b)]) rfl 3 rfl hnL rfl rfl (nI_1 i1) (v_goto (tgt := 4) h pX0_setIn_0 21 rfl rfl (v_lv [2, 3, 1, 0] (lv' := [(0, .ref (a 0)), (1, .int b), (2, .int ((setS (fun j => decide (E 3 j = b)) i1) ||| (1 <<< ((nI i1) &&& 31)))), (3, .int (nI (i1 + 1)))]) rfl (v_eql (congrArg (fun z : Int32 => ([(0, .ref (a 0)), (1, .int b), (2, .int z), (3, .int (nI (i1 + 1)))] : List (Nat × Value))) (by simp [setS, c2, c3] : (setS (fun j => decide (E 3 j = b)) i1) ||| (1 <<< ((nI i1) &&& 31)) = setS (fun j => decide (E 3 j = b)) (i1 + 1))) ?_)))
          exact ih1 (i1 + 1) (by omega) (by omega)
  exact L1 (n + 1) 0 (by omega) (by omega)
set_option maxHeartbeats 300000 in
set_option maxRecDepth 100000 in
theorem kX0_sumOf (l : Launch) (D : va_G) (cI cS : ClassId) (a : Nat → Nat) (E : Nat → Nat → Int32) (n : Nat) (hW : Wf E n) (r : Nat) (hr1 : 2 ≤ r) (hr2 : r ≤ 7) : vDet l D (vT cI cS) yX0_sumOf cX0_sumOf 4 (some .int) 0 0 (eW cI a) [.ref (a 0), .ref (a (r + 1))] E (some (.int (sumS (E r) n))) (E) := by
  refine vMet_of (by decide) rfl ?_
  intro K hl hD hnL hret h hR hEx
  subst hl hD
  show V K (eW cI a E) 0 [(0, .ref (a 0)), (1, .ref (a (r + 1)))] []
  have hn8 := hW.1
  refine v_iconst h pX0_sumOf_0 0 rfl ki_0 (v_istore_n h pX0_sumOf_0 1 (lv' := [(2, .int 0), (0, .ref (a 0)), (1, .ref (a (r + 1)))]) rfl rfl hnL rfl rfl (v_iconst h pX0_sumOf_0 2 rfl ki_0 (v_istore_n h pX0_sumOf_0 3 (lv' := [(3, .int 0), (2, .int 0), (0, .ref (a 0)), (1, .ref (a (r + 1)))]) rfl rfl hnL rfl rfl ?_)))
  refine v_lv [2, 3, 1, 0] (lv' := [(0, .ref (a 0)), (1, .ref (a (r + 1))), (2, .int 0), (3, .int 0)]) rfl ?_
  have L1 : ∀ (m i1 : Nat), i1 ≤ n → n + 1 ≤ i1 + m → V K (eW cI a E) 4 [(0, .ref (a 0)), (1, .ref (a (r + 1))), (2, .int (sumS (E r) i1)), (3, .int (nI i1))] [] := by
    intro m
    induction m with
    | zero => exact fun i1 h1 h2 => absurd h2 (by omega)
    | succ m ih1 =>
      intro i1 hle1 hlt1
      refine v_iload_n h pX0_sumOf_0 4 rfl 3 rfl rfl (v_aload_n h pX0_sumOf_0 5 rfl 0 rfl rfl (v_get h pX0_sumOf_0 6 fX0_39 0 rfl rfl rfl (v_top (w := .int (nI n)) (congrArg Value.int hW.2.1) ?_)))
      refine v_ncmp_ge (a := i1) (b := n) (tgt := 24) h pX0_sumOf_0 7 rfl rfl (by omega) (by omega) (fun c2 => ?_) (fun c2 => ?_)
      · skip
        obtain rfl : n = i1 := by omega
        refine v_iload_n h pX0_sumOf_0 16 rfl 2 rfl rfl ?_
        exact v_iret h pX0_sumOf_0 17 hR hret rfl (E) rfl ⟨vI rfl, rfl⟩
      · skip
        refine v_iload_n h pX0_sumOf_0 8 rfl 2 rfl rfl (v_aload_n h pX0_sumOf_0 9 rfl 1 rfl rfl (v_iload_n h pX0_sumOf_0 10 rfl 3 rfl rfl (v_iald h pX0_sumOf_0 11 i1 (r + 1) 0 rfl (eW_row8 cI a _ hr1 hr2) rfl rfl rfl (by omega) (v_iadd h pX0_sumOf_0 12 rfl (v_istore_n h pX0_sumOf_0 13 (lv' := [(2, .int ((sumS (E r) i1) + (E r i1))), (0, .ref (a 0)), (1, .ref (a (r + 1))), (3, .int (nI i1))]) rfl rfl hnL rfl rfl ?_)))))
        refine v_iinc h pX0_sumOf_0 14 (v := nI (i1 + 1)) (lv' := [(3, .int (nI (i1 + 1))), (2, .int ((sumS (E r) i1) + (E r i1))), (0, .ref (a 0)), (1, .ref (a (r + 1)))]) rfl 3 rfl hnL rfl rfl (nI_1 i1) (v_goto (tgt := 4) h pX0_sumOf_0 15 rfl rfl (v_lv [2, 3, 1, 0] (lv' := [(0, .ref (a 0)), (1, .ref (a (r + 1))), (2, .int ((sumS (E r) i1) + (E r i1))), (3, .int (nI (i1 + 1)))]) rfl ?_))
        exact ih1 (i1 + 1) (by omega) (by omega)
  exact L1 (n + 1) 0 (by omega) (by omega)
set_option maxHeartbeats 300000 in
set_option maxRecDepth 100000 in
theorem kX0_worthTogether (l : Launch) (D : va_G) (cI cS : ClassId) (a : Nat → Nat) (E : Nat → Nat → Int32) (n : Nat) (hW : Wf E n) : vDet l D (vT cI cS) yX0_worthTogether cX0_worthTogether 3 (some .int) 2 44 (eW cI a) [.ref (a 0)] E (some (.int (sumS (worthS E) n))) (E) := by
  refine vMet_of (by decide) rfl ?_
  intro K hl hD hnL hret h hR hEx
  subst hl hD
  show V K (eW cI a E) 0 [(0, .ref (a 0))] []
  have hn8 := hW.1
  refine v_iconst h pX0_worthTogether_0 0 rfl ki_0 (v_istore_n h pX0_worthTogether_0 1 (lv' := [(1, .int 0), (0, .ref (a 0))]) rfl rfl hnL rfl rfl (v_iconst h pX0_worthTogether_0 2 rfl ki_0 (v_istore_n h pX0_worthTogether_0 3 (lv' := [(2, .int 0), (1, .int 0), (0, .ref (a 0))]) rfl rfl hnL rfl rfl ?_)))
  refine v_lv [2, 1, 0] (lv' := [(0, .ref (a 0)), (1, .int 0), (2, .int 0)]) rfl ?_
  have L1 : ∀ (m i1 : Nat), i1 ≤ n → n + 1 ≤ i1 + m → V K (eW cI a E) 4 [(0, .ref (a 0)), (1, .int (sumS (worthS E) i1)), (2, .int (nI i1))] [] := by
    intro m
    induction m with
    | zero => exact fun i1 h1 h2 => absurd h2 (by omega)
    | succ m ih1 =>
      intro i1 hle1 hlt1
      refine v_iload_n h pX0_worthTogether_0 4 rfl 2 rfl rfl (v_aload_n h pX0_worthTogether_0 5 rfl 0 rfl rfl (v_get h pX0_worthTogether_0 6 fX0_39 0 rfl rfl rfl (v_top (w := .int (nI n)) (congrArg Value.int hW.2.1) ?_)))
      refine v_ncmp_ge (a := i1) (b := n) (tgt := 26) h pX0_worthTogether_0 7 rfl rfl (by omega) (by omega) (fun c2 => ?_) (fun c2 => ?_)
      · skip
        obtain rfl : n = i1 := by omega
        refine v_iload_n h pX0_worthTogether_0 16 rfl 1 rfl rfl ?_
        exact v_iret h pX0_worthTogether_0 17 hR hret rfl (E) rfl ⟨vI rfl, rfl⟩
      · skip
        refine v_iload_n h pX0_worthTogether_0 8 rfl 1 rfl rfl (v_aload_n h pX0_worthTogether_0 9 rfl 0 rfl rfl (v_iload_n h pX0_worthTogether_0 10 rfl 2 rfl rfl ?_))
        refine v_callV h pX0_worthTogether_0 11 mX0_103 (As := [.int (nI i1)]) (st := [.int (sumS (worthS E) i1)]) (kX0_worthOf _ _ cI cS a E i1 (by omega)) v0B v0C (vEmb_rf _ _) 0 rfl rfl rfl rfl rfl rfl rfl (vDet_k ?_)
        show V K (eW cI a E) 18 [(0, .ref (a 0)), (1, .int (sumS (worthS E) i1)), (2, .int (nI i1))] [.int (worthS E i1), .int (sumS (worthS E) i1)]
        refine v_iadd h pX0_worthTogether_0 12 rfl (v_istore_n h pX0_worthTogether_0 13 (lv' := [(1, .int ((sumS (worthS E) i1) + (worthS E i1))), (0, .ref (a 0)), (2, .int (nI i1))]) rfl rfl hnL rfl rfl (v_iinc h pX0_worthTogether_0 14 (v := nI (i1 + 1)) (lv' := [(2, .int (nI (i1 + 1))), (1, .int ((sumS (worthS E) i1) + (worthS E i1))), (0, .ref (a 0))]) rfl 2 rfl hnL rfl rfl (nI_1 i1) (v_goto (tgt := 4) h pX0_worthTogether_0 15 rfl rfl (v_lv [2, 1, 0] (lv' := [(0, .ref (a 0)), (1, .int ((sumS (worthS E) i1) + (worthS E i1))), (2, .int (nI (i1 + 1)))]) rfl ?_))))
        exact ih1 (i1 + 1) (by omega) (by omega)
  exact L1 (n + 1) 0 (by omega) (by omega)
set_option maxHeartbeats 300000 in
set_option maxRecDepth 100000 in
theorem kX0_nacreTogether (l : Launch) (D : va_G) (cI cS : ClassId) (a : Nat → Nat) (E : Nat → Nat → Int32)  : vDet l D (vT cI cS) yX0_nacreTogether cX0_nacreTogether 3 (some .int) 0 0 (eW cI a) [.ref (a 0)] E (some (.int (sumS (E 0) 6))) (E) := by
  refine vMet_of (by decide) rfl ?_
  intro K hl hD hnL hret h hR hEx
  subst hl hD
  show V K (eW cI a E) 0 [(0, .ref (a 0))] []
  refine v_iconst h pX0_nacreTogether_0 0 rfl ki_0 (v_istore_n h pX0_nacreTogether_0 1 (lv' := [(1, .int 0), (0, .ref (a 0))]) rfl rfl hnL rfl rfl (v_iconst h pX0_nacreTogether_0 2 rfl ki_0 (v_istore_n h pX0_nacreTogether_0 3 (lv' := [(2, .int 0), (1, .int 0), (0, .ref (a 0))]) rfl rfl hnL rfl rfl ?_)))
  refine v_lv [2, 1, 0] (lv' := [(0, .ref (a 0)), (1, .int 0), (2, .int 0)]) rfl ?_
  have L1 : ∀ (m i1 : Nat), i1 ≤ 6 → 6 + 1 ≤ i1 + m → V K (eW cI a E) 4 [(0, .ref (a 0)), (1, .int (sumS (E 0) i1)), (2, .int (nI i1))] [] := by
    intro m
    induction m with
    | zero => exact fun i1 h1 h2 => absurd h2 (by omega)
    | succ m ih1 =>
      intro i1 hle1 hlt1
      refine v_iload_n h pX0_nacreTogether_0 4 rfl 2 rfl rfl (v_bipush h pX0_nacreTogether_0 5 rfl kb_6 ?_)
      refine v_ncmp_ge (a := i1) (b := 6) (tgt := 25) h pX0_nacreTogether_0 6 rfl rfl (by omega) (by omega) (fun c2 => ?_) (fun c2 => ?_)
      · skip
        obtain rfl : 6 = i1 := by omega
        refine v_iload_n h pX0_nacreTogether_0 16 rfl 1 rfl rfl ?_
        exact v_iret h pX0_nacreTogether_0 17 hR hret rfl (E) rfl ⟨vI rfl, rfl⟩
      · skip
        refine v_iload_n h pX0_nacreTogether_0 7 rfl 1 rfl rfl (v_aload_n h pX0_nacreTogether_0 8 rfl 0 rfl rfl (v_get h pX0_nacreTogether_0 9 fX0_9 0 rfl rfl rfl (v_iload_n h pX0_nacreTogether_0 10 rfl 2 rfl rfl (v_iald h pX0_nacreTogether_0 11 i1 1 0 rfl rfl rfl rfl rfl (by omega) (v_iadd h pX0_nacreTogether_0 12 rfl ?_)))))
        refine v_istore_n h pX0_nacreTogether_0 13 (lv' := [(1, .int ((sumS (E 0) i1) + (E 0 i1))), (0, .ref (a 0)), (2, .int (nI i1))]) rfl rfl hnL rfl rfl (v_iinc h pX0_nacreTogether_0 14 (v := nI (i1 + 1)) (lv' := [(2, .int (nI (i1 + 1))), (1, .int ((sumS (E 0) i1) + (E 0 i1))), (0, .ref (a 0))]) rfl 2 rfl hnL rfl rfl (nI_1 i1) (v_goto (tgt := 4) h pX0_nacreTogether_0 15 rfl rfl (v_lv [2, 1, 0] (lv' := [(0, .ref (a 0)), (1, .int ((sumS (E 0) i1) + (E 0 i1))), (2, .int (nI (i1 + 1)))]) rfl ?_)))
        exact ih1 (i1 + 1) (by omega) (by omega)
  exact L1 (6 + 1) 0 (by omega) (by omega)
set_option maxHeartbeats 300000 in
set_option maxRecDepth 100000 in
theorem kX0_spotsHolding (l : Launch) (D : va_G) (cI cS : ClassId) (a : Nat → Nat) (E : Nat → Nat → Int32)  : vDet l D (vT cI cS) yX0_spotsHolding cX0_spotsHolding 3 (some .int) 0 0 (eW cI a) [.ref (a 0)] E (some (.int (cntS (fun k => !decide (E 8 k = -1)) 10))) (E) := by
  refine vMet_of (by decide) rfl ?_
  intro K hl hD hnL hret h hR hEx
  subst hl hD
  show V K (eW cI a E) 0 [(0, .ref (a 0))] []
  refine v_iconst h pX0_spotsHolding_0 0 rfl ki_0 (v_istore_n h pX0_spotsHolding_0 1 (lv' := [(1, .int 0), (0, .ref (a 0))]) rfl rfl hnL rfl rfl (v_iconst h pX0_spotsHolding_0 2 rfl ki_0 (v_istore_n h pX0_spotsHolding_0 3 (lv' := [(2, .int 0), (1, .int 0), (0, .ref (a 0))]) rfl rfl hnL rfl rfl ?_)))
  refine v_lv [2, 1, 0] (lv' := [(0, .ref (a 0)), (1, .int 0), (2, .int 0)]) rfl ?_
  have L1 : ∀ (m i1 : Nat), i1 ≤ 10 → 10 + 1 ≤ i1 + m → V K (eW cI a E) 4 [(0, .ref (a 0)), (1, .int (cntS (fun k => !decide (E 8 k = -1)) i1)), (2, .int (nI i1))] [] := by
    intro m
    induction m with
    | zero => exact fun i1 h1 h2 => absurd h2 (by omega)
    | succ m ih1 =>
      intro i1 hle1 hlt1
      refine v_iload_n h pX0_spotsHolding_0 4 rfl 2 rfl rfl (v_bipush h pX0_spotsHolding_0 5 rfl kb_10 ?_)
      refine v_ncmp_ge (a := i1) (b := 10) (tgt := 29) h pX0_spotsHolding_0 6 rfl rfl (by omega) (by omega) (fun c2 => ?_) (fun c2 => ?_)
      · skip
        obtain rfl : 10 = i1 := by omega
        refine v_iload_n h pX0_spotsHolding_0 16 rfl 1 rfl rfl ?_
        exact v_iret h pX0_spotsHolding_0 17 hR hret rfl (E) rfl ⟨vI rfl, rfl⟩
      · skip
        refine v_aload_n h pX0_spotsHolding_0 7 rfl 0 rfl rfl (v_get h pX0_spotsHolding_0 8 fX0_36 0 rfl rfl rfl (v_iload_n h pX0_spotsHolding_0 9 rfl 2 rfl rfl (v_iald h pX0_spotsHolding_0 10 i1 9 0 rfl rfl rfl rfl rfl (by omega) (v_iconst h pX0_spotsHolding_0 11 rfl ki_m1 ?_))))
        refine v_icmp_eq (tgt := 23) h pX0_spotsHolding_0 12 rfl rfl (fun c3 => ?_) (fun c3 => ?_)
        · skip
          refine v_iinc h pX0_spotsHolding_0 14 (v := nI (i1 + 1)) (lv' := [(2, .int (nI (i1 + 1))), (0, .ref (a 0)), (1, .int (cntS (fun k => !decide (E 8 k = -1)) i1))]) rfl 2 rfl hnL rfl rfl (nI_1 i1) (v_goto (tgt := 4) h pX0_spotsHolding_0 15 rfl rfl (v_lv [1, 2, 0] (lv' := [(0, .ref (a 0)), (1, .int (cntS (fun k => !decide (E 8 k = -1)) i1)), (2, .int (nI (i1 + 1)))]) rfl (v_eql (congrArg (fun z : Int32 => ([(0, .ref (a 0)), (1, .int z), (2, .int (nI (i1 + 1)))] : List (Nat × Value))) (by simp [cntS, c2, c3] : cntS (fun k => !decide (E 8 k = -1)) i1 = cntS (fun k => !decide (E 8 k = -1)) (i1 + 1))) ?_)))
          exact ih1 (i1 + 1) (by omega) (by omega)
        · skip
          refine v_iinc h pX0_spotsHolding_0 13 (v := (cntS (fun k => !decide (E 8 k = -1)) i1) + 1) (lv' := [(1, .int ((cntS (fun k => !decide (E 8 k = -1)) i1) + 1)), (0, .ref (a 0)), (2, .int (nI i1))]) rfl 1 rfl hnL rfl rfl rfl (v_iinc h pX0_spotsHolding_0 14 (v := nI (i1 + 1)) (lv' := [(2, .int (nI (i1 + 1))), (1, .int ((cntS (fun k => !decide (E 8 k = -1)) i1) + 1)), (0, .ref (a 0))]) rfl 2 rfl hnL rfl rfl (nI_1 i1) (v_goto (tgt := 4) h pX0_spotsHolding_0 15 rfl rfl (v_lv [2, 1, 0] (lv' := [(0, .ref (a 0)), (1, .int ((cntS (fun k => !decide (E 8 k = -1)) i1) + 1)), (2, .int (nI (i1 + 1)))]) rfl (v_eql (congrArg (fun z : Int32 => ([(0, .ref (a 0)), (1, .int z), (2, .int (nI (i1 + 1)))] : List (Nat × Value))) (by simp [cntS, c2, c3] : (cntS (fun k => !decide (E 8 k = -1)) i1) + 1 = cntS (fun k => !decide (E 8 k = -1)) (i1 + 1))) ?_))))
          exact ih1 (i1 + 1) (by omega) (by omega)
  exact L1 (10 + 1) 0 (by omega) (by omega)
set_option maxHeartbeats 300000 in
set_option maxRecDepth 100000 in
theorem kX0_growLayers (l : Launch) (D : va_G) (cI cS : ClassId) (a : Nat → Nat) (E : Nat → Nat → Int32) (i : Nat) (hi : i < 8) (n : Nat) (hW : Wf E n) : vDet l D (vT cI cS) yX0_growLayers cX0_growLayers 4 none 2 38 (eW cI a) [.ref (a 0), .int (nI i)] E (none) (growS E i) := by
  refine vMet_of (by decide) rfl ?_
  intro K hl hD hnL hret h hR hEx
  subst hl hD
  show V K (eW cI a E) 0 [(0, .ref (a 0)), (1, .int (nI i))] []
  have hb := hW.homeL hi
  refine v_aload_n h pX0_growLayers_0 0 rfl 0 rfl rfl (v_get h pX0_growLayers_0 1 fX0_21 0 rfl rfl rfl (v_iload_n h pX0_growLayers_0 2 rfl 1 rfl rfl (v_iald h pX0_growLayers_0 3 i 4 0 rfl rfl rfl rfl rfl (by omega) (v_top (w := .int (nI (ix (E 3 i)))) (congrArg Value.int (hW.home (by omega))) (v_istore_n h pX0_growLayers_0 4 (lv' := [(2, .int (nI (ix (E 3 i)))), (0, .ref (a 0)), (1, .int (nI i))]) rfl rfl hnL rfl rfl ?_)))))
  refine v_aload_n h pX0_growLayers_0 5 rfl 1 rfl rfl (v_iload_n h pX0_growLayers_0 6 rfl 2 rfl rfl ?_)
  refine v_callV h pX0_growLayers_0 7 mX0_99 (As := [.int (nI i)]) (st := []) (kX0_takes _ _ cI cS a E i (by omega)) v0B v0C (vEmb_rf _ _) 0 rfl rfl rfl rfl rfl rfl rfl (vDet_k ?_)
  show V K (eW cI a E) 12 [(2, .int (nI (ix (E 3 i)))), (0, .ref (a 0)), (1, .int (nI i))] [.int (takesS E i)]
  refine v_aload_n h pX0_growLayers_0 8 rfl 1 rfl rfl (v_get h pX0_growLayers_0 9 fX0_9 0 rfl rfl rfl (v_iload_n h pX0_growLayers_0 10 rfl 0 rfl rfl (v_iald h pX0_growLayers_0 11 (ix (E 3 i)) 1 0 rfl rfl rfl rfl rfl (by omega) (v_mmin2 h pX0_growLayers_0 12 wm_192 wm_193 wm_194 wm_195 rfl rfl rfl (v_istore_n h pX0_growLayers_0 13 (lv' := [(3, .int (mn (takesS E i) (E 0 (ix (E 3 i))))), (2, .int (nI (ix (E 3 i)))), (0, .ref (a 0)), (1, .int (nI i))]) rfl rfl hnL rfl rfl ?_)))))
  refine v_aload_n h pX0_growLayers_0 14 rfl 2 rfl rfl (v_get h pX0_growLayers_0 15 fX0_9 0 rfl rfl rfl (v_iload_n h pX0_growLayers_0 16 rfl 1 rfl rfl (v_dup2 h pX0_growLayers_0 17 rfl rfl rfl (v_iald h pX0_growLayers_0 18 (ix (E 3 i)) 1 0 rfl rfl rfl rfl rfl (by omega) (v_iload_n h pX0_growLayers_0 19 rfl 0 rfl rfl ?_)))))
  refine v_isub h pX0_growLayers_0 20 rfl (v_iast h pX0_growLayers_0 21 (ix (E 3 i)) 1 0 (ws' := eW cI a (up E 0 (ix (E 3 i)) ((E 0 (ix (E 3 i))) - (mn (takesS E i) (E 0 (ix (E 3 i))))))) rfl rfl rfl rfl rfl (by omega) eW_s0 (v_aload_n h pX0_growLayers_0 22 rfl 2 rfl rfl (v_get h pX0_growLayers_0 23 fX0_27 0 rfl rfl rfl (v_iload_n h pX0_growLayers_0 24 rfl 3 rfl rfl (v_sipush h pX0_growLayers_0 25 rfl ks_999 ?_)))))
  refine v_aload_n h pX0_growLayers_0 26 rfl 2 rfl rfl (v_get h pX0_growLayers_0 27 fX0_27 0 rfl rfl rfl (v_iload_n h pX0_growLayers_0 28 rfl 3 rfl rfl (v_iald h pX0_growLayers_0 29 i 6 0 rfl rfl rfl rfl rfl (by omega) (v_top (w := .int (E 5 i)) rfl (v_iload_n h pX0_growLayers_0 30 rfl 0 rfl rfl ?_)))))
  refine v_iadd h pX0_growLayers_0 31 rfl (v_mmin2 h pX0_growLayers_1 0 wm_192 wm_193 wm_194 wm_195 rfl rfl rfl (v_iast h pX0_growLayers_1 1 i 6 0 (ws' := eW cI a (up (up E 0 (ix (E 3 i)) ((E 0 (ix (E 3 i))) - (mn (takesS E i) (E 0 (ix (E 3 i)))))) 5 i (mn 999 ((E 5 i) + (mn (takesS E i) (E 0 (ix (E 3 i)))))))) rfl rfl rfl rfl rfl (by omega) eW_s5 ?_))
  exact v_vret h pX0_growLayers_1 2 hR hret rfl (up (up E 0 (ix (E 3 i)) ((E 0 (ix (E 3 i))) - (mn (takesS E i) (E 0 (ix (E 3 i)))))) 5 i (mn 999 ((E 5 i) + (mn (takesS E i) (E 0 (ix (E 3 i))))))) rfl ⟨rfl, rfl⟩
set_option maxHeartbeats 300000 in
set_option maxRecDepth 100000 in
theorem kX0_passYear (l : Launch) (D : va_G) (cI cS : ClassId) (a : Nat → Nat) (E : Nat → Nat → Int32) (n : Nat) (hW : Wf E n) : vDet l D (vT cI cS) yX0_passYear cX0_passYear 2 none 3 61 (eW cI a) [.ref (a 0)] E (none) (yearS n (E 9 4) E) := by
  refine vMet_of (by decide) rfl ?_
  intro K hl hD hnL hret h hR hEx
  subst hl hD
  show V K (eW cI a E) 0 [(0, .ref (a 0))] []
  have hn8 := hW.1
  refine v_iconst h pX0_passYear_0 0 rfl ki_0 (v_istore_n h pX0_passYear_0 1 (lv' := [(1, .int 0), (0, .ref (a 0))]) rfl rfl hnL rfl rfl ?_)
  refine v_lv [1, 0] (lv' := [(0, .ref (a 0)), (1, .int 0)]) rfl ?_
  have L1 : ∀ (m i1 : Nat), i1 ≤ n → n + 1 ≤ i1 + m → V K (eW cI a (growN (E 9 4) E i1)) 2 [(0, .ref (a 0)), (1, .int (nI i1))] [] := by
    intro m
    induction m with
    | zero => exact fun i1 h1 h2 => absurd h2 (by omega)
    | succ m ih1 =>
      intro i1 hle1 hlt1
      have hWSA : Wf (growN (E 9 4) E i1) n := (Wf_growN hW (E 9 4) i1 (by omega))
      generalize hSA : growN (E 9 4) E i1 = SA at hWSA ⊢
      have h9SA : SA 9 4 = E 9 4 := by rw [← hSA]; exact congrFun (growN_9 _ _ _) 4
      refine v_iload_n h pX0_passYear_0 2 rfl 1 rfl rfl (v_aload_n h pX0_passYear_0 3 rfl 0 rfl rfl (v_get h pX0_passYear_0 4 fX0_39 0 rfl rfl rfl (v_top (w := .int (nI n)) (congrArg Value.int hWSA.2.1) ?_)))
      refine v_ncmp_ge (a := i1) (b := n) (tgt := 40) h pX0_passYear_0 5 rfl rfl (by omega) (by omega) (fun c3 => ?_) (fun c3 => ?_)
      · skip
        obtain rfl : n = i1 := by omega
        refine v_iconst h pX0_passYear_0 22 rfl ki_0 (v_istore_n h pX0_passYear_0 23 (lv' := [(1, .int 0), (0, .ref (a 0))]) rfl rfl hnL rfl rfl ?_)
        refine v_lv [1, 0] (lv' := [(0, .ref (a 0)), (1, .int 0)]) rfl ?_
        have L4 : ∀ (m i4 : Nat), i4 ≤ n → n + 1 ≤ i4 + m → V K (eW cI a (showN SA i4)) 42 [(0, .ref (a 0)), (1, .int (nI i4))] [] := by
          intro m
          induction m with
          | zero => exact fun i4 h1 h2 => absurd h2 (by omega)
          | succ m ih4 =>
            intro i4 hle4 hlt4
            have hWSB : Wf (showN SA i4) n := (Wf_showN hWSA i4 (by omega))
            generalize hSB : showN SA i4 = SB at hWSB ⊢
            refine v_iload_n h pX0_passYear_0 24 rfl 1 rfl rfl (v_aload_n h pX0_passYear_0 25 rfl 0 rfl rfl (v_get h pX0_passYear_0 26 fX0_39 0 rfl rfl rfl (v_top (w := .int (nI n)) (congrArg Value.int hWSB.2.1) ?_)))
            refine v_ncmp_ge (a := i4) (b := n) (tgt := 119) h pX0_passYear_0 27 rfl rfl (by omega) (by omega) (fun c6 => ?_) (fun c6 => ?_)
            · skip
              obtain rfl : n = i4 := by omega
              refine v_iconst h pX0_passYear_2 2 rfl ki_0 (v_istore_n h pX0_passYear_2 3 (lv' := [(1, .int 0), (0, .ref (a 0))]) rfl rfl hnL rfl rfl ?_)
              refine v_lv [1, 0] (lv' := [(0, .ref (a 0)), (1, .int 0)]) rfl ?_
              have L7 : ∀ (m i7 : Nat), i7 ≤ n → n + 1 ≤ i7 + m → V K (eW cI a (ageN SB i7)) 121 [(0, .ref (a 0)), (1, .int (nI i7))] [] := by
                intro m
                induction m with
                | zero => exact fun i7 h1 h2 => absurd h2 (by omega)
                | succ m ih7 =>
                  intro i7 hle7 hlt7
                  have hWSC : Wf (ageN SB i7) n := (Wf_ageN hWSB i7 (by omega))
                  generalize hSC : ageN SB i7 = SC at hWSC ⊢
                  refine v_iload_n h pX0_passYear_2 4 rfl 1 rfl rfl (v_aload_n h pX0_passYear_2 5 rfl 0 rfl rfl (v_get h pX0_passYear_2 6 fX0_39 0 rfl rfl rfl (v_top (w := .int (nI n)) (congrArg Value.int hWSC.2.1) ?_)))
                  refine v_ncmp_ge (a := i7) (b := n) (tgt := 155) h pX0_passYear_2 7 rfl rfl (by omega) (by omega) (fun c9 => ?_) (fun c9 => ?_)
                  · skip
                    obtain rfl : n = i7 := by omega
                    refine v_iconst h pX0_passYear_2 22 rfl ki_0 (v_istore_n h pX0_passYear_2 23 (lv' := [(1, .int 0), (0, .ref (a 0))]) rfl rfl hnL rfl rfl ?_)
                    refine v_lv [1, 0] (lv' := [(0, .ref (a 0)), (1, .int 0)]) rfl ?_
                    have L10 : ∀ (m i10 : Nat), i10 ≤ 6 → 6 + 1 ≤ i10 + m → V K (eW cI a (nacN SC i10)) 157 [(0, .ref (a 0)), (1, .int (nI i10))] [] := by
                      intro m
                      induction m with
                      | zero => exact fun i10 h1 h2 => absurd h2 (by omega)
                      | succ m ih10 =>
                        intro i10 hle10 hlt10
                        generalize hSD : nacN SC i10 = SD
                        refine v_iload_n h pX0_passYear_2 24 rfl 1 rfl rfl (v_bipush h pX0_passYear_2 25 rfl kb_6 ?_)
                        refine v_ncmp_ge (a := i10) (b := 6) (tgt := 192) h pX0_passYear_2 26 rfl rfl (by omega) (by omega) (fun c12 => ?_) (fun c12 => ?_)
                        · skip
                          obtain rfl : 6 = i10 := by omega
                          refine v_aload_n h pX0_passYear_3 10 rfl 0 rfl rfl (v_ldc h pX0_passYear_3 11 wm_290 rfl (v_aload_n h pX0_passYear_3 12 rfl 0 rfl rfl (v_get h pX0_passYear_3 13 fX0_46 0 rfl rfl rfl (v_iconst h pX0_passYear_3 14 rfl ki_1 (v_iadd h pX0_passYear_3 15 rfl ?_)))))
                          refine v_mmin2 h pX0_passYear_3 16 wm_192 wm_193 wm_194 wm_195 rfl rfl rfl (v_puti h pX0_passYear_3 17 gX0_46 0 (ws' := eW cI a (up SD 9 2 (mn 99999 ((SD 9 2) + 1)))) rfl rfl rfl eW_p2 ?_)
                          exact v_vret h pX0_passYear_3 18 hR hret rfl (up SD 9 2 (mn 99999 ((SD 9 2) + 1))) rfl ⟨rfl, (by subst hSD; subst hSC; subst hSB; subst hSA; unfold yearS yr0; rfl)⟩
                        · skip
                          refine v_aload_n h pX0_passYear_2 27 rfl 0 rfl rfl (v_get h pX0_passYear_2 28 fX0_9 0 rfl rfl rfl (v_iload_n h pX0_passYear_2 29 rfl 1 rfl rfl (v_sipush h pX0_passYear_2 30 rfl ks_999 (v_aload_n h pX0_passYear_2 31 rfl 0 rfl rfl (v_get h pX0_passYear_3 0 fX0_9 0 rfl rfl rfl ?_)))))
                          refine v_iload_n h pX0_passYear_3 1 rfl 1 rfl rfl (v_iald h pX0_passYear_3 2 i10 1 0 rfl rfl rfl rfl rfl (by omega) (v_aload_n h pX0_passYear_3 3 rfl 0 rfl rfl (v_get h pX0_passYear_3 4 fX0_43 0 rfl rfl rfl (v_iadd h pX0_passYear_3 5 rfl (v_mmin2 h pX0_passYear_3 6 wm_192 wm_193 wm_194 wm_195 rfl rfl rfl ?_)))))
                          refine v_iast h pX0_passYear_3 7 i10 1 0 (ws' := eW cI a (up SD 0 i10 (mn 999 ((SD 0 i10) + (SD 9 1))))) rfl rfl rfl rfl rfl (by omega) eW_s0 (v_iinc h pX0_passYear_3 8 (v := nI (i10 + 1)) (lv' := [(1, .int (nI (i10 + 1))), (0, .ref (a 0))]) rfl 1 rfl hnL rfl rfl (nI_1 i10) (v_goto (tgt := 157) h pX0_passYear_3 9 rfl rfl (v_lv [1, 0] (lv' := [(0, .ref (a 0)), (1, .int (nI (i10 + 1)))]) rfl (v_eqw (ws' := eW cI a (nacN SC (i10 + 1))) (by rw [nacN, hSD]) ?_))))
                          exact ih10 (i10 + 1) (by omega) (by omega)
                    exact L10 (6 + 1) 0 (by omega) (by omega)
                  · skip
                    refine v_aload_n h pX0_passYear_2 8 rfl 0 rfl rfl (v_get h pX0_passYear_2 9 fX0_30 0 rfl rfl rfl (v_iload_n h pX0_passYear_2 10 rfl 1 rfl rfl (v_sipush h pX0_passYear_2 11 rfl ks_999 (v_aload_n h pX0_passYear_2 12 rfl 0 rfl rfl (v_get h pX0_passYear_2 13 fX0_30 0 rfl rfl rfl ?_)))))
                    refine v_iload_n h pX0_passYear_2 14 rfl 1 rfl rfl (v_iald h pX0_passYear_2 15 i7 7 0 rfl rfl rfl rfl rfl (by omega) (v_iconst h pX0_passYear_2 16 rfl ki_1 (v_iadd h pX0_passYear_2 17 rfl (v_mmin2 h pX0_passYear_2 18 wm_192 wm_193 wm_194 wm_195 rfl rfl rfl (v_iast h pX0_passYear_2 19 i7 7 0 (ws' := eW cI a (up SC 6 i7 (mn 999 ((SC 6 i7) + 1)))) rfl rfl rfl rfl rfl (by omega) eW_s6 ?_)))))
                    refine v_iinc h pX0_passYear_2 20 (v := nI (i7 + 1)) (lv' := [(1, .int (nI (i7 + 1))), (0, .ref (a 0))]) rfl 1 rfl hnL rfl rfl (nI_1 i7) (v_goto (tgt := 121) h pX0_passYear_2 21 rfl rfl (v_lv [1, 0] (lv' := [(0, .ref (a 0)), (1, .int (nI (i7 + 1)))]) rfl (v_eqw (ws' := eW cI a (ageN SB (i7 + 1))) (by rw [ageN, hSC]) ?_)))
                    exact ih7 (i7 + 1) (by omega) (by omega)
              exact L7 (n + 1) 0 (by omega) (by omega)
            · skip
              refine v_aload_n h pX0_passYear_0 28 rfl 0 rfl rfl (v_iload_n h pX0_passYear_0 29 rfl 1 rfl rfl ?_)
              refine v_callV h pX0_passYear_0 30 mX0_78 (As := [.int (nI i4)]) (st := []) (kX0_isTold _ _ cI cS a SB i4 (by omega)) v0B v0C (vEmb_rf _ _) 0 rfl rfl rfl rfl rfl rfl rfl (vDet_k ?_)
              show V K (eW cI a SB) 55 [(0, .ref (a 0)), (1, .int (nI i4))] [.int (bI (toldS SB i4))]
              refine v_bif_ne (tgt := 113) h pX0_passYear_0 31 rfl rfl (fun c13 => ?_) (fun c13 => ?_)
              · skip
                refine v_iinc h pX0_passYear_2 0 (v := nI (i4 + 1)) (lv' := [(1, .int (nI (i4 + 1))), (0, .ref (a 0))]) rfl 1 rfl hnL rfl rfl (nI_1 i4) (v_goto (tgt := 42) h pX0_passYear_2 1 rfl rfl (v_lv [1, 0] (lv' := [(0, .ref (a 0)), (1, .int (nI (i4 + 1)))]) rfl (v_eqw (ws' := eW cI a (showN SA (i4 + 1))) (by rw [showN, hSB]; simp [opsS, showS, c3, c6, c13]) ?_)))
                exact ih4 (i4 + 1) (by omega) (by omega)
              · skip
                refine v_aload_n h pX0_passYear_1 0 rfl 0 rfl rfl (v_iload_n h pX0_passYear_1 1 rfl 1 rfl rfl ?_)
                refine v_callV h pX0_passYear_1 2 mX0_92 (As := [.int (nI i4)]) (st := []) (kX0_isHidden _ _ cI cS a SB i4 (by omega) n hWSB) v0B v0C (vEmb_rf _ _) 0 rfl rfl rfl rfl rfl rfl rfl (vDet_k ?_)
                show V K (eW cI a SB) 63 [(0, .ref (a 0)), (1, .int (nI i4))] [.int (bI (hiddenS SB i4))]
                refine v_bif_ne (tgt := 113) h pX0_passYear_1 3 rfl rfl (fun c14 => ?_) (fun c14 => ?_)
                · skip
                  refine v_iinc h pX0_passYear_2 0 (v := nI (i4 + 1)) (lv' := [(1, .int (nI (i4 + 1))), (0, .ref (a 0))]) rfl 1 rfl hnL rfl rfl (nI_1 i4) (v_goto (tgt := 42) h pX0_passYear_2 1 rfl rfl (v_lv [1, 0] (lv' := [(0, .ref (a 0)), (1, .int (nI (i4 + 1)))]) rfl (v_eqw (ws' := eW cI a (showN SA (i4 + 1))) (by rw [showN, hSB]; simp [opsS, showS, c3, c6, c13, c14]) ?_)))
                  exact ih4 (i4 + 1) (by omega) (by omega)
                · skip
                  refine v_aload_n h pX0_passYear_1 4 rfl 0 rfl rfl (v_iload_n h pX0_passYear_1 5 rfl 1 rfl rfl ?_)
                  refine v_callV h pX0_passYear_1 6 mX0_95 (As := [.int (nI i4)]) (st := []) (kX0_opens _ _ cI cS a SB i4 (by omega) n hWSB) v0B v0C (vEmb_rf _ _) 0 rfl rfl rfl rfl rfl rfl rfl (vDet_k ?_)
                  show V K (eW cI a SB) 71 [(0, .ref (a 0)), (1, .int (nI i4))] [.int (bI (opensS SB i4))]
                  refine v_bif_eq (tgt := 113) h pX0_passYear_1 7 rfl rfl (fun c15 => ?_) (fun c15 => ?_)
                  · skip
                    refine v_iinc h pX0_passYear_2 0 (v := nI (i4 + 1)) (lv' := [(1, .int (nI (i4 + 1))), (0, .ref (a 0))]) rfl 1 rfl hnL rfl rfl (nI_1 i4) (v_goto (tgt := 42) h pX0_passYear_2 1 rfl rfl (v_lv [1, 0] (lv' := [(0, .ref (a 0)), (1, .int (nI (i4 + 1)))]) rfl (v_eqw (ws' := eW cI a (showN SA (i4 + 1))) (by rw [showN, hSB]; simp [opsS, showS, c3, c6, c13, c14, c15]) ?_)))
                    exact ih4 (i4 + 1) (by omega) (by omega)
                  · skip
                    refine v_aload_n h pX0_passYear_1 8 rfl 0 rfl rfl (v_get h pX0_passYear_1 9 fX0_33 0 rfl rfl rfl (v_iload_n h pX0_passYear_1 10 rfl 1 rfl rfl (v_sipush h pX0_passYear_1 11 rfl ks_999 (v_aload_n h pX0_passYear_1 12 rfl 0 rfl rfl (v_get h pX0_passYear_1 13 fX0_33 0 rfl rfl rfl ?_)))))
                    refine v_iload_n h pX0_passYear_1 14 rfl 1 rfl rfl (v_iald h pX0_passYear_1 15 i4 8 0 rfl rfl rfl rfl rfl (by omega) (v_iconst h pX0_passYear_1 16 rfl ki_1 (v_iadd h pX0_passYear_1 17 rfl (v_mmin2 h pX0_passYear_1 18 wm_192 wm_193 wm_194 wm_195 rfl rfl rfl (v_iast h pX0_passYear_1 19 i4 8 0 (ws' := eW cI a (up SB 7 i4 (mn 999 ((SB 7 i4) + 1)))) rfl rfl rfl rfl rfl (by omega) eW_s7 ?_)))))
                    refine v_aload_n h pX0_passYear_1 20 rfl 0 rfl rfl (v_get h pX0_passYear_1 21 fX0_24 0 rfl rfl rfl (v_iload_n h pX0_passYear_1 22 rfl 1 rfl rfl (v_iconst h pX0_passYear_1 23 rfl ki_0 (v_aload_n h pX0_passYear_1 24 rfl 0 rfl rfl (v_get h pX0_passYear_1 25 fX0_24 0 rfl rfl rfl ?_)))))
                    refine v_iload_n h pX0_passYear_1 26 rfl 1 rfl rfl (v_iald h pX0_passYear_1 27 i4 5 0 rfl rfl rfl rfl rfl (by omega) (v_top (w := .int (SB 4 i4)) rfl (v_bipush h pX0_passYear_1 28 rfl kb_7 (v_isub h pX0_passYear_1 29 rfl (v_mmax2 h pX0_passYear_1 30 wm_200 wm_201 wm_194 wm_202 rfl rfl rfl ?_)))))
                    refine v_iast h pX0_passYear_1 31 i4 5 0 (ws' := eW cI a (up (up SB 7 i4 (mn 999 ((SB 7 i4) + 1))) 4 i4 (mx 0 ((SB 4 i4) - 7)))) rfl rfl rfl rfl rfl (by omega) eW_s4 (v_iinc h pX0_passYear_2 0 (v := nI (i4 + 1)) (lv' := [(1, .int (nI (i4 + 1))), (0, .ref (a 0))]) rfl 1 rfl hnL rfl rfl (nI_1 i4) (v_goto (tgt := 42) h pX0_passYear_2 1 rfl rfl (v_lv [1, 0] (lv' := [(0, .ref (a 0)), (1, .int (nI (i4 + 1)))]) rfl (v_eqw (ws' := eW cI a (showN SA (i4 + 1))) (by rw [showN, hSB]; simp [opsS, showS, c3, c6, c13, c14, c15]) ?_))))
                    exact ih4 (i4 + 1) (by omega) (by omega)
        exact L4 (n + 1) 0 (by omega) (by omega)
      · skip
        refine v_aload_n h pX0_passYear_0 6 rfl 0 rfl rfl (v_iload_n h pX0_passYear_0 7 rfl 1 rfl rfl ?_)
        refine v_callV h pX0_passYear_0 8 mX0_78 (As := [.int (nI i1)]) (st := []) (kX0_isTold _ _ cI cS a SA i1 (by omega)) v0B v0C (vEmb_rf _ _) 0 rfl rfl rfl rfl rfl rfl rfl (vDet_k ?_)
        show V K (eW cI a SA) 15 [(0, .ref (a 0)), (1, .int (nI i1))] [.int (bI (toldS SA i1))]
        refine v_bif_ne (tgt := 34) h pX0_passYear_0 9 rfl rfl (fun c16 => ?_) (fun c16 => ?_)
        · skip
          refine v_iinc h pX0_passYear_0 20 (v := nI (i1 + 1)) (lv' := [(1, .int (nI (i1 + 1))), (0, .ref (a 0))]) rfl 1 rfl hnL rfl rfl (nI_1 i1) (v_goto (tgt := 2) h pX0_passYear_0 21 rfl rfl (v_lv [1, 0] (lv' := [(0, .ref (a 0)), (1, .int (nI (i1 + 1)))]) rfl (v_eqw (ws' := eW cI a (growN (E 9 4) E (i1 + 1))) (by rw [growN, hSA]; simp [upB, c3, c16]) ?_)))
          exact ih1 (i1 + 1) (by omega) (by omega)
        · skip
          refine v_aload_n h pX0_passYear_0 10 rfl 0 rfl rfl (v_get h pX0_passYear_0 11 fX0_52 0 rfl rfl rfl (v_top (w := .int (E 9 4)) (congrArg Value.int h9SA) (v_iconst h pX0_passYear_0 12 rfl ki_1 (v_iload_n h pX0_passYear_0 13 rfl 1 rfl rfl (v_ishl h pX0_passYear_0 14 rfl ?_)))))
          refine v_iand h pX0_passYear_0 15 rfl ?_
          refine v_if_ne (tgt := 34) h pX0_passYear_0 16 rfl rfl (fun c17 => ?_) (fun c17 => ?_)
          · skip
            refine v_iinc h pX0_passYear_0 20 (v := nI (i1 + 1)) (lv' := [(1, .int (nI (i1 + 1))), (0, .ref (a 0))]) rfl 1 rfl hnL rfl rfl (nI_1 i1) (v_goto (tgt := 2) h pX0_passYear_0 21 rfl rfl (v_lv [1, 0] (lv' := [(0, .ref (a 0)), (1, .int (nI (i1 + 1)))]) rfl (v_eqw (ws' := eW cI a (growN (E 9 4) E (i1 + 1))) (by rw [growN, hSA]; simp [upB, c3, c16, c17]) ?_)))
            exact ih1 (i1 + 1) (by omega) (by omega)
          · skip
            refine v_aload_n h pX0_passYear_0 17 rfl 0 rfl rfl (v_iload_n h pX0_passYear_0 18 rfl 1 rfl rfl ?_)
            refine v_callV h pX0_passYear_0 19 mX0_89 (As := [.int (nI i1)]) (st := []) (kX0_growLayers _ _ cI cS a SA i1 (by omega) n hWSA) v0B v0C (vEmb_rf _ _) 0 rfl rfl rfl rfl rfl rfl rfl (vDet_k ?_)
            show V K (eW cI a (growS SA i1)) 34 [(0, .ref (a 0)), (1, .int (nI i1))] []
            have hWS18 : Wf (growS SA i1) n := (Wf_grow (i := i1) hWSA (by omega))
            generalize hS18 : growS SA i1 = S18 at hWS18 ⊢
            refine v_iinc h pX0_passYear_0 20 (v := nI (i1 + 1)) (lv' := [(1, .int (nI (i1 + 1))), (0, .ref (a 0))]) rfl 1 rfl hnL rfl rfl (nI_1 i1) (v_goto (tgt := 2) h pX0_passYear_0 21 rfl rfl (v_lv [1, 0] (lv' := [(0, .ref (a 0)), (1, .int (nI (i1 + 1)))]) rfl (v_eqw (ws' := eW cI a (growN (E 9 4) E (i1 + 1))) (by subst hS18; rw [growN, hSA]; simp [upB, c3, c16, c17]) ?_)))
            exact ih1 (i1 + 1) (by omega) (by omega)
  exact L1 (n + 1) 0 (by omega) (by omega)
set_option maxHeartbeats 300000 in
set_option maxRecDepth 100000 in
theorem kX0_passYears (l : Launch) (D : va_G) (cI cS : ClassId) (a : Nat → Nat) (E : Nat → Nat → Int32) (n : Nat) (hW : Wf E n) (k : Nat) (hk : k ≤ 1000) : vDet l D (vT cI cS) yX0_passYears cX0_passYears 3 none 4 82 (eW cI a) [.ref (a 0), .int (nI k)] E (none) (yearsS n (E 9 4) E k) := by
  refine vMet_of (by decide) rfl ?_
  intro K hl hD hnL hret h hR hEx
  subst hl hD
  show V K (eW cI a E) 0 [(0, .ref (a 0)), (1, .int (nI k))] []
  have hn8 := hW.1
  refine v_iconst h pX0_passYears_0 0 rfl ki_0 (v_istore_n h pX0_passYears_0 1 (lv' := [(2, .int 0), (0, .ref (a 0)), (1, .int (nI k))]) rfl rfl hnL rfl rfl ?_)
  refine v_lv [1, 2, 0] (lv' := [(0, .ref (a 0)), (1, .int (nI k)), (2, .int 0)]) rfl ?_
  have L1 : ∀ (m i1 : Nat), i1 ≤ k → k + 1 ≤ i1 + m → V K (eW cI a (yearsS n (E 9 4) E i1)) 2 [(0, .ref (a 0)), (1, .int (nI k)), (2, .int (nI i1))] [] := by
    intro m
    induction m with
    | zero => exact fun i1 h1 h2 => absurd h2 (by omega)
    | succ m ih1 =>
      intro i1 hle1 hlt1
      have hWSA : Wf (yearsS n (E 9 4) E i1) n := (Wf_years hW (E 9 4) i1)
      generalize hSA : yearsS n (E 9 4) E i1 = SA at hWSA ⊢
      refine v_iload_n h pX0_passYears_0 2 rfl 2 rfl rfl (v_iload_n h pX0_passYears_0 3 rfl 1 rfl rfl ?_)
      refine v_ncmp_ge (a := i1) (b := k) (tgt := 17) h pX0_passYears_0 4 rfl rfl (by omega) (by omega) (fun c3 => ?_) (fun c3 => ?_)
      · skip
        obtain rfl : k = i1 := by omega
        exact v_vret h pX0_passYears_0 9 hR hret rfl (SA) rfl ⟨rfl, (by subst hSA; rfl)⟩
      · skip
        refine v_aload_n h pX0_passYears_0 5 rfl 0 rfl rfl ?_
        refine v_callV h pX0_passYears_0 6 mX0_86 (As := []) (st := []) (kX0_passYear _ _ cI cS a SA n hWSA) v0B v0C (vEmb_rf _ _) 0 rfl rfl rfl rfl rfl rfl rfl (vDet_k ?_)
        show V K (eW cI a (yearS n (SA 9 4) SA)) 11 [(0, .ref (a 0)), (1, .int (nI k)), (2, .int (nI i1))] []
        have hWS4 : Wf (yearS n (SA 9 4) SA) n := (Wf_year hWSA _)
        generalize hS4 : yearS n (SA 9 4) SA = S4 at hWS4 ⊢
        refine v_iinc h pX0_passYears_0 7 (v := nI (i1 + 1)) (lv' := [(2, .int (nI (i1 + 1))), (0, .ref (a 0)), (1, .int (nI k))]) rfl 2 rfl hnL rfl rfl (nI_1 i1) (v_goto (tgt := 2) h pX0_passYears_0 8 rfl rfl (v_lv [1, 2, 0] (lv' := [(0, .ref (a 0)), (1, .int (nI k)), (2, .int (nI (i1 + 1)))]) rfl (v_eqw (ws' := eW cI a (yearsS n (E 9 4) E (i1 + 1))) (by subst hS4; rw [yearsS, hSA, ← hSA, yearsS_94]) ?_)))
        exact ih1 (i1 + 1) (by omega) (by omega)
  exact L1 (k + 1) 0 (by omega) (by omega)
set_option maxHeartbeats 300000 in
set_option maxRecDepth 100000 in
theorem kX0_addOyster (l : Launch) (D : va_G) (cI cS : ClassId) (a : Nat → Nat) (E : Nat → Nat → Int32) (n : Nat) (hW : Wf E n) (hn : n < 8) (k b : Int32) : vDet l D (vT cI cS) yX0_addOyster cX0_addOyster 4 (some .int) 1 21 (eW cI a) [.ref (a 0), .int k, .int b] E (some (.int (nI n))) (newS E n k b) := by
  refine vMet_of (by decide) rfl ?_
  intro K hl hD hnL hret h hR hEx
  subst hl hD
  show V K (eW cI a E) 0 [(0, .ref (a 0)), (1, .int k), (2, .int b)] []
  have hn8 := hW.1
  refine v_aload_n h pX0_addOyster_0 0 rfl 0 rfl rfl ?_
  refine v_callV h pX0_addOyster_0 1 mX0_61 (As := []) (st := []) (kX0_isFull _ _ cI cS a E n hW) v0B v0C (vEmb_rf _ _) 0 rfl rfl rfl rfl rfl rfl rfl (vDet_k ?_)
  show V K (eW cI a E) 4 [(0, .ref (a 0)), (1, .int k), (2, .int b)] [.int (bI (decide (8 ≤ n)))]
  refine v_bif_eq (tgt := 9) h pX0_addOyster_0 2 rfl rfl (fun c1 => ?_) (fun c1 => absurd (of_decide_eq_true c1) (by omega))
  refine v_aload_n h pX0_addOyster_0 5 rfl 0 rfl rfl (v_get h pX0_addOyster_0 6 fX0_39 0 rfl rfl rfl (v_top (w := .int (nI n)) (congrArg Value.int hW.2.1) (v_istore_n h pX0_addOyster_0 7 (lv' := [(3, .int (nI n)), (0, .ref (a 0)), (1, .int k), (2, .int b)]) rfl rfl hnL rfl rfl (v_aload_n h pX0_addOyster_0 8 rfl 1 rfl rfl (v_dup h pX0_addOyster_0 9 rfl rfl ?_)))))
  refine v_get h pX0_addOyster_0 10 fX0_39 0 rfl rfl rfl (v_top (w := .int (nI n)) (congrArg Value.int hW.2.1) (v_iconst h pX0_addOyster_0 11 rfl ki_1 (v_iaddn h pX0_addOyster_0 12 n 1 rfl (v_puti h pX0_addOyster_0 13 gX0_39 0 (ws' := eW cI a (up E 9 0 (nI (n + 1)))) rfl rfl rfl eW_p0 (v_aload_n h pX0_addOyster_0 14 rfl 1 rfl rfl ?_)))))
  refine v_iload_n h pX0_addOyster_0 15 rfl 0 rfl rfl ?_
  refine v_callV h pX0_addOyster_0 16 mX0_65 (As := [.int (nI n)]) (st := []) (kX0_clearOyster _ _ cI cS a (up E 9 0 (nI (n + 1))) n (by omega)) v0B v0C (vEmb_rf _ _) 0 rfl rfl rfl rfl rfl rfl rfl (vDet_k ?_)
  show V K (eW cI a (clearS (up E 9 0 (nI (n + 1))) n)) 29 [(3, .int (nI n)), (0, .ref (a 0)), (1, .int k), (2, .int b)] []
  generalize hS2 : clearS (up E 9 0 (nI (n + 1))) n = S2
  refine v_aload_n h pX0_addOyster_0 17 rfl 1 rfl rfl (v_get h pX0_addOyster_0 18 fX0_18 0 rfl rfl rfl (v_iload_n h pX0_addOyster_0 19 rfl 0 rfl rfl (v_iload_n h pX0_addOyster_0 20 rfl 2 rfl rfl (v_iast h pX0_addOyster_0 21 n 3 0 (ws' := eW cI a (up S2 2 n k)) rfl rfl rfl rfl rfl (by omega) eW_s2 (v_aload_n h pX0_addOyster_0 22 rfl 1 rfl rfl ?_)))))
  refine v_get h pX0_addOyster_0 23 fX0_21 0 rfl rfl rfl (v_iload_n h pX0_addOyster_0 24 rfl 0 rfl rfl (v_iload_n h pX0_addOyster_0 25 rfl 3 rfl rfl (v_iast h pX0_addOyster_0 26 n 4 0 (ws' := eW cI a (up (up S2 2 n k) 3 n b)) rfl rfl rfl rfl rfl (by omega) eW_s3 (v_aload_n h pX0_addOyster_0 27 rfl 1 rfl rfl (v_get h pX0_addOyster_0 28 fX0_24 0 rfl rfl rfl ?_)))))
  refine v_iload_n h pX0_addOyster_0 29 rfl 0 rfl rfl (v_bipush h pX0_addOyster_0 30 rfl kb_10 (v_iast h pX0_addOyster_0 31 n 5 0 (ws' := eW cI a (up (up (up S2 2 n k) 3 n b) 4 n 10)) rfl rfl rfl rfl rfl (by omega) eW_s4 (v_iload_n h pX0_addOyster_1 0 rfl 0 rfl rfl ?_)))
  exact v_iret h pX0_addOyster_1 1 hR hret rfl (up (up (up S2 2 n k) 3 n b) 4 n 10) rfl ⟨vI rfl, (by subst hS2; rfl)⟩
set_option maxHeartbeats 300000 in
set_option maxRecDepth 100000 in
theorem kX0_copyFrom (l : Launch) (D : va_G) (cI cS : ClassId) (a b : Nat → Nat) (G : Nat → Nat → Int32) (E : Nat → Nat → Int32)  : vDet l D (vT cI cS) yX0_copyFrom cX0_copyFrom 2 none 1 18 (fun E => eW cI a E ++ eW cI b G) [.ref (a 0), .ref (b 0)] E (none) (G) := by
  refine vMet_of (by decide) rfl ?_
  intro K hl hD hnL hret h hR hEx
  subst hl hD
  show V K (eW cI a E ++ eW cI b G) 0 [(0, .ref (a 0)), (1, .ref (b 0))] []
  refine v_aload_n h pX0_copyFrom_0 0 rfl 1 rfl rfl (v_get h pX0_copyFrom_0 1 fX0_9 10 rfl rfl rfl (v_iconst h pX0_copyFrom_0 2 rfl ki_0 (v_aload_n h pX0_copyFrom_0 3 rfl 0 rfl rfl (v_get h pX0_copyFrom_0 4 fX0_9 0 rfl rfl rfl (v_iconst h pX0_copyFrom_0 5 rfl ki_0 ?_)))))
  refine v_bipush h pX0_copyFrom_0 6 rfl kb_6 (v_copyR h pX0_copyFrom_0 7 wm_371 wm_372 wm_373 wm_374 11 1 0 0 6 (G 0) rfl rfl (ws' := eW cI a (cpR E G 1) ++ eW cI b G) rfl rfl rfl rfl rfl (by omega) (by omega) rfl rfl (fun _ hj => cpy0 hj) rfl rfl (by decide +kernel) (v_aload_n h pX0_copyFrom_0 8 rfl 1 rfl rfl (v_get h pX0_copyFrom_0 9 fX0_15 10 rfl rfl rfl (v_iconst h pX0_copyFrom_0 10 rfl ki_0 (v_aload_n h pX0_copyFrom_0 11 rfl 0 rfl rfl ?_)))))
  refine v_get h pX0_copyFrom_0 12 fX0_15 0 rfl rfl rfl (v_iconst h pX0_copyFrom_0 13 rfl ki_0 (v_bipush h pX0_copyFrom_0 14 rfl kb_6 (v_copyR h pX0_copyFrom_0 15 wm_371 wm_372 wm_373 wm_374 12 2 0 0 6 (G 1) rfl rfl (ws' := eW cI a (cpR E G 2) ++ eW cI b G) rfl rfl rfl rfl rfl (by omega) (by omega) rfl rfl (fun _ hj => cpy0 hj) rfl rfl (by decide +kernel) (v_aload_n h pX0_copyFrom_0 16 rfl 1 rfl rfl (v_get h pX0_copyFrom_0 17 fX0_18 10 rfl rfl rfl ?_)))))
  refine v_iconst h pX0_copyFrom_0 18 rfl ki_0 (v_aload_n h pX0_copyFrom_0 19 rfl 0 rfl rfl (v_get h pX0_copyFrom_0 20 fX0_18 0 rfl rfl rfl (v_iconst h pX0_copyFrom_0 21 rfl ki_0 (v_bipush h pX0_copyFrom_0 22 rfl kb_8 (v_copyR h pX0_copyFrom_0 23 wm_371 wm_372 wm_373 wm_374 13 3 0 0 8 (G 2) rfl rfl (ws' := eW cI a (cpR E G 3) ++ eW cI b G) rfl rfl rfl rfl rfl (by omega) (by omega) rfl rfl (fun _ hj => cpy0 hj) rfl rfl (by decide +kernel) ?_)))))
  refine v_aload_n h pX0_copyFrom_0 24 rfl 1 rfl rfl (v_get h pX0_copyFrom_0 25 fX0_21 10 rfl rfl rfl (v_iconst h pX0_copyFrom_0 26 rfl ki_0 (v_aload_n h pX0_copyFrom_0 27 rfl 0 rfl rfl (v_get h pX0_copyFrom_0 28 fX0_21 0 rfl rfl rfl (v_iconst h pX0_copyFrom_0 29 rfl ki_0 ?_)))))
  refine v_bipush h pX0_copyFrom_0 30 rfl kb_8 (v_copyR h pX0_copyFrom_0 31 wm_371 wm_372 wm_373 wm_374 14 4 0 0 8 (G 3) rfl rfl (ws' := eW cI a (cpR E G 4) ++ eW cI b G) rfl rfl rfl rfl rfl (by omega) (by omega) rfl rfl (fun _ hj => cpy0 hj) rfl rfl (by decide +kernel) (v_aload_n h pX0_copyFrom_1 0 rfl 1 rfl rfl (v_get h pX0_copyFrom_1 1 fX0_24 10 rfl rfl rfl (v_iconst h pX0_copyFrom_1 2 rfl ki_0 (v_aload_n h pX0_copyFrom_1 3 rfl 0 rfl rfl ?_)))))
  refine v_get h pX0_copyFrom_1 4 fX0_24 0 rfl rfl rfl (v_iconst h pX0_copyFrom_1 5 rfl ki_0 (v_bipush h pX0_copyFrom_1 6 rfl kb_8 (v_copyR h pX0_copyFrom_1 7 wm_371 wm_372 wm_373 wm_374 15 5 0 0 8 (G 4) rfl rfl (ws' := eW cI a (cpR E G 5) ++ eW cI b G) rfl rfl rfl rfl rfl (by omega) (by omega) rfl rfl (fun _ hj => cpy0 hj) rfl rfl (by decide +kernel) (v_aload_n h pX0_copyFrom_1 8 rfl 1 rfl rfl (v_get h pX0_copyFrom_1 9 fX0_27 10 rfl rfl rfl ?_)))))
  refine v_iconst h pX0_copyFrom_1 10 rfl ki_0 (v_aload_n h pX0_copyFrom_1 11 rfl 0 rfl rfl (v_get h pX0_copyFrom_1 12 fX0_27 0 rfl rfl rfl (v_iconst h pX0_copyFrom_1 13 rfl ki_0 (v_bipush h pX0_copyFrom_1 14 rfl kb_8 (v_copyR h pX0_copyFrom_1 15 wm_371 wm_372 wm_373 wm_374 16 6 0 0 8 (G 5) rfl rfl (ws' := eW cI a (cpR E G 6) ++ eW cI b G) rfl rfl rfl rfl rfl (by omega) (by omega) rfl rfl (fun _ hj => cpy0 hj) rfl rfl (by decide +kernel) ?_)))))
  refine v_aload_n h pX0_copyFrom_1 16 rfl 1 rfl rfl (v_get h pX0_copyFrom_1 17 fX0_30 10 rfl rfl rfl (v_iconst h pX0_copyFrom_1 18 rfl ki_0 (v_aload_n h pX0_copyFrom_1 19 rfl 0 rfl rfl (v_get h pX0_copyFrom_1 20 fX0_30 0 rfl rfl rfl (v_iconst h pX0_copyFrom_1 21 rfl ki_0 ?_)))))
  refine v_bipush h pX0_copyFrom_1 22 rfl kb_8 (v_copyR h pX0_copyFrom_1 23 wm_371 wm_372 wm_373 wm_374 17 7 0 0 8 (G 6) rfl rfl (ws' := eW cI a (cpR E G 7) ++ eW cI b G) rfl rfl rfl rfl rfl (by omega) (by omega) rfl rfl (fun _ hj => cpy0 hj) rfl rfl (by decide +kernel) (v_aload_n h pX0_copyFrom_1 24 rfl 1 rfl rfl (v_get h pX0_copyFrom_1 25 fX0_33 10 rfl rfl rfl (v_iconst h pX0_copyFrom_1 26 rfl ki_0 (v_aload_n h pX0_copyFrom_1 27 rfl 0 rfl rfl ?_)))))
  refine v_get h pX0_copyFrom_1 28 fX0_33 0 rfl rfl rfl (v_iconst h pX0_copyFrom_1 29 rfl ki_0 (v_bipush h pX0_copyFrom_1 30 rfl kb_8 (v_copyR h pX0_copyFrom_1 31 wm_371 wm_372 wm_373 wm_374 18 8 0 0 8 (G 7) rfl rfl (ws' := eW cI a (cpR E G 8) ++ eW cI b G) rfl rfl rfl rfl rfl (by omega) (by omega) rfl rfl (fun _ hj => cpy0 hj) rfl rfl (by decide +kernel) (v_aload_n h pX0_copyFrom_2 0 rfl 1 rfl rfl (v_get h pX0_copyFrom_2 1 fX0_36 10 rfl rfl rfl ?_)))))
  refine v_iconst h pX0_copyFrom_2 2 rfl ki_0 (v_aload_n h pX0_copyFrom_2 3 rfl 0 rfl rfl (v_get h pX0_copyFrom_2 4 fX0_36 0 rfl rfl rfl (v_iconst h pX0_copyFrom_2 5 rfl ki_0 (v_bipush h pX0_copyFrom_2 6 rfl kb_10 (v_copyR h pX0_copyFrom_2 7 wm_371 wm_372 wm_373 wm_374 19 9 0 0 10 (G 8) rfl rfl (ws' := eW cI a (cpR E G 9) ++ eW cI b G) rfl rfl rfl rfl rfl (by omega) (by omega) rfl rfl (fun _ hj => cpy0 hj) rfl rfl (by decide +kernel) ?_)))))
  refine v_aload_n h pX0_copyFrom_2 8 rfl 0 rfl rfl (v_aload_n h pX0_copyFrom_2 9 rfl 1 rfl rfl (v_get h pX0_copyFrom_2 10 fX0_39 10 rfl rfl rfl (v_puti h pX0_copyFrom_2 11 gX0_39 0 (ws' := eW cI a (up (cpR E G 9) 9 0 (G 9 0)) ++ eW cI b G) rfl rfl rfl rfl (v_aload_n h pX0_copyFrom_2 12 rfl 0 rfl rfl (v_aload_n h pX0_copyFrom_2 13 rfl 1 rfl rfl ?_)))))
  refine v_get h pX0_copyFrom_2 14 fX0_43 10 rfl rfl rfl (v_puti h pX0_copyFrom_2 15 gX0_43 0 (ws' := eW cI a (up (up (cpR E G 9) 9 0 (G 9 0)) 9 1 (G 9 1)) ++ eW cI b G) rfl rfl rfl rfl (v_aload_n h pX0_copyFrom_2 16 rfl 0 rfl rfl (v_aload_n h pX0_copyFrom_2 17 rfl 1 rfl rfl (v_get h pX0_copyFrom_2 18 fX0_46 10 rfl rfl rfl (v_puti h pX0_copyFrom_2 19 gX0_46 0 (ws' := eW cI a (up (up (up (cpR E G 9) 9 0 (G 9 0)) 9 1 (G 9 1)) 9 2 (G 9 2)) ++ eW cI b G) rfl rfl rfl rfl ?_)))))
  refine v_aload_n h pX0_copyFrom_2 20 rfl 0 rfl rfl (v_aload_n h pX0_copyFrom_2 21 rfl 1 rfl rfl (v_get h pX0_copyFrom_2 22 fX0_49 10 rfl rfl rfl (v_puti h pX0_copyFrom_2 23 gX0_49 0 (ws' := eW cI a (up (up (up (up (cpR E G 9) 9 0 (G 9 0)) 9 1 (G 9 1)) 9 2 (G 9 2)) 9 3 (G 9 3)) ++ eW cI b G) rfl rfl rfl rfl (v_aload_n h pX0_copyFrom_2 24 rfl 0 rfl rfl (v_aload_n h pX0_copyFrom_2 25 rfl 1 rfl rfl ?_)))))
  refine v_get h pX0_copyFrom_2 26 fX0_52 10 rfl rfl rfl (v_puti h pX0_copyFrom_2 27 gX0_52 0 (ws' := eW cI a (up (up (up (up (up (cpR E G 9) 9 0 (G 9 0)) 9 1 (G 9 1)) 9 2 (G 9 2)) 9 3 (G 9 3)) 9 4 (G 9 4)) ++ eW cI b G) rfl rfl rfl rfl ?_)
  exact v_vret h pX0_copyFrom_2 28 hR hret rfl (G) rfl ⟨rfl, rfl⟩
