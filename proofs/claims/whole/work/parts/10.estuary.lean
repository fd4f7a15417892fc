set_option maxHeartbeats 4000000 in
set_option maxRecDepth 100000 in
theorem kX0_isFull (l : Launch) (D : va_G) (cI cS : ClassId) (a : Nat → Nat) (E : Nat → Nat → Int32) (n : Nat) (hW : Wf E n) : vDet l D (vT cI cS) yX0_isFull cX0_isFull 1 (some .boolean) 0 0 (eW cI a) [.ref (a 0)] E (some (.int (bI (decide (8 ≤ n))))) (E) := by
  refine vMet_of (by decide) rfl ?_
  intro K hl hD hnL hret h hR hEx
  subst hl hD
  show V K (eW cI a E) 0 [(0, .ref (a 0))] []
  have hn8 := hW.1
  refine v_aload_n h pX0_isFull_0 0 rfl 0 rfl rfl (v_get h pX0_isFull_0 1 fX0_39 0 rfl rfl rfl (v_top (w := .int (nI n)) (congrArg Value.int hW.2.1) (v_bipush h pX0_isFull_0 2 rfl kb_8 ?_)))
  refine v_ncmp_lt (a := n) (b := 8) (tgt := 13) h pX0_isFull_0 3 rfl rfl (by omega) (by omega) (fun c1 => ?_) (fun c1 => ?_)
  · skip
    refine v_iconst h pX0_isFull_0 6 rfl ki_0 ?_
    exact v_zret h pX0_isFull_0 7 (Or.inl rfl) hR hret rfl (E) rfl ⟨vI (by first | (rw [show decide (8 ≤ n) = true from decide_eq_true (by omega)]; rfl) | (rw [show decide (8 ≤ n) = false from decide_eq_false (by omega)]; rfl)), rfl⟩
  · skip
    refine v_iconst h pX0_isFull_0 4 rfl ki_1 (v_goto (tgt := 14) h pX0_isFull_0 5 rfl rfl ?_)
    exact v_zret h pX0_isFull_0 7 (Or.inr rfl) hR hret rfl (E) rfl ⟨vI (by first | (rw [show decide (8 ≤ n) = true from decide_eq_true (by omega)]; rfl) | (rw [show decide (8 ≤ n) = false from decide_eq_false (by omega)]; rfl)), rfl⟩
set_option maxHeartbeats 4000000 in
set_option maxRecDepth 100000 in
theorem kX0_isTold (l : Launch) (D : va_G) (cI cS : ClassId) (a : Nat → Nat) (E : Nat → Nat → Int32) (i : Nat) (hi : i < 8) : vDet l D (vT cI cS) yX0_isTold cX0_isTold 2 (some .boolean) 0 0 (eW cI a) [.ref (a 0), .int (nI i)] E (some (.int (bI (toldS E i)))) (E) := by
  refine vMet_of (by decide) rfl ?_
  intro K hl hD hnL hret h hR hEx
  subst hl hD
  show V K (eW cI a E) 0 [(0, .ref (a 0)), (1, .int (nI i))] []
  refine v_aload_n h pX0_isTold_0 0 rfl 0 rfl rfl (v_get h pX0_isTold_0 1 fX0_24 0 rfl rfl rfl (v_iload_n h pX0_isTold_0 2 rfl 1 rfl rfl (v_iald h pX0_isTold_0 3 i 5 0 rfl rfl rfl rfl rfl (by omega) ?_)))
  refine v_if_ne (tgt := 13) h pX0_isTold_0 4 rfl rfl (fun c1 => ?_) (fun c1 => ?_)
  · skip
    refine v_iconst h pX0_isTold_0 7 rfl ki_0 ?_
    exact v_zret h pX0_isTold_0 8 (Or.inl rfl) hR hret rfl (E) rfl ⟨vI (by simp [toldS, bI, c1, -Int32.not_lt]), rfl⟩
  · skip
    refine v_iconst h pX0_isTold_0 5 rfl ki_1 (v_goto (tgt := 14) h pX0_isTold_0 6 rfl rfl ?_)
    exact v_zret h pX0_isTold_0 8 (Or.inr rfl) hR hret rfl (E) rfl ⟨vI (by simp [toldS, bI, c1, -Int32.not_lt]), rfl⟩
set_option maxHeartbeats 4000000 in
set_option maxRecDepth 100000 in
theorem kX0_takes (l : Launch) (D : va_G) (cI cS : ClassId) (a : Nat → Nat) (E : Nat → Nat → Int32) (i : Nat) (hi : i < 8) : vDet l D (vT cI cS) yX0_takes cX0_takes 5 (some .int) 1 14 (eW cI a) [.ref (a 0), .int (nI i)] E (some (.int (takesS E i))) (E) := by
  refine vMet_of (by decide) rfl ?_
  intro K hl hD hnL hret h hR hEx
  subst hl hD
  show V K (eW cI a E) 0 [(0, .ref (a 0)), (1, .int (nI i))] []
  refine v_bipush h pX0_takes_0 0 rfl kb_6 (v_istore_n h pX0_takes_0 1 (lv' := [(2, .int 6), (0, .ref (a 0)), (1, .int (nI i))]) rfl rfl hnL rfl rfl (v_iload_n h pX0_takes_0 2 rfl 0 rfl rfl (v_aload_n h pX0_takes_0 3 rfl 1 rfl rfl (v_get h pX0_takes_0 4 fX0_24 0 rfl rfl rfl (v_iload_n h pX0_takes_0 5 rfl 2 rfl rfl ?_)))))
  refine v_iald h pX0_takes_0 6 i 5 0 rfl rfl rfl rfl rfl (by omega) (v_bipush h pX0_takes_0 7 rfl kb_10 (v_idiv h pX0_takes_0 8 rfl (by decide) (v_iadd h pX0_takes_0 9 rfl (v_istore_n h pX0_takes_0 10 (lv' := [(3, .int (6 + ((E 4 i) / 10))), (2, .int 6), (0, .ref (a 0)), (1, .int (nI i))]) rfl rfl hnL rfl rfl (v_iload_n h pX0_takes_0 11 rfl 1 rfl rfl ?_)))))
  refine v_iconst h pX0_takes_0 12 rfl ki_2 (v_idiv h pX0_takes_0 13 rfl (by decide) (v_iconst h pX0_takes_0 14 rfl ki_1 (v_isub h pX0_takes_0 15 rfl (v_istore h pX0_takes_0 16 (lv' := [(4, .int ((6 / 2) - 1)), (3, .int (6 + ((E 4 i) / 10))), (2, .int 6), (0, .ref (a 0)), (1, .int (nI i))]) rfl hnL rfl rfl (v_aload_n h pX0_takes_0 17 rfl 3 rfl rfl ?_)))))
  refine v_get h pX0_takes_0 18 fX0_18 0 rfl rfl rfl (v_iload_n h pX0_takes_0 19 rfl 4 rfl rfl (v_iald h pX0_takes_0 20 i 3 0 rfl rfl rfl rfl rfl (by omega) ?_))
  by_cases c1 : E 2 i = 1
  · skip
    refine v_tin (tgt := 68) h pX0_takes_0 21 c1 rfl (by decide) (by decide) rfl rfl (v_iload_n h pX0_takes_0 22 rfl 1 rfl rfl ?_)
    exact v_iret h pX0_takes_0 23 hR hret rfl (E) rfl ⟨vI (by first | (simp only [takesS, c1, if_true, if_false, reduceIte, not_true_eq_false, not_false_eq_true]; done) | (simp [takesS, c1] <;> rfl) | (simp [takesS, c1] <;> decide)), rfl⟩
  by_cases c2 : E 2 i = 2
  · skip
    refine v_tin (tgt := 74) h pX0_takes_0 21 c2 rfl (by decide) (by decide) rfl rfl (v_iload_n h pX0_takes_0 28 rfl 2 rfl rfl (v_iconst h pX0_takes_0 29 rfl ki_2 (v_idiv h pX0_takes_0 30 rfl (by decide) ?_)))
    exact v_iret h pX0_takes_0 31 hR hret rfl (E) rfl ⟨vI (by first | (simp only [takesS, c1, c2, if_true, if_false, reduceIte, not_true_eq_false, not_false_eq_true]; done) | (simp [takesS, c1, c2] <;> rfl) | (simp [takesS, c1, c2] <;> decide)), rfl⟩
  by_cases c3 : E 2 i = 3
  · skip
    refine v_tin (tgt := 78) h pX0_takes_0 21 c3 rfl (by decide) (by decide) rfl rfl (v_iload h pX0_takes_1 0 rfl 0 rfl ?_)
    exact v_iret h pX0_takes_1 1 hR hret rfl (E) rfl ⟨vI (by first | (simp only [takesS, c1, c2, c3, if_true, if_false, reduceIte, not_true_eq_false, not_false_eq_true]; done) | (simp [takesS, c1, c2, c3] <;> rfl) | (simp [takesS, c1, c2, c3] <;> decide)), rfl⟩
  by_cases c4 : E 2 i = 4
  · skip
    refine v_tin (tgt := 81) h pX0_takes_0 21 c4 rfl (by decide) (by decide) rfl rfl (v_aload_n h pX0_takes_1 2 rfl 3 rfl rfl (v_get h pX0_takes_1 3 fX0_30 0 rfl rfl rfl (v_iload_n h pX0_takes_1 4 rfl 4 rfl rfl (v_iald h pX0_takes_1 5 i 7 0 rfl rfl rfl rfl rfl (by omega) (v_iconst h pX0_takes_1 6 rfl ki_2 ?_)))))
    refine v_irem2 h pX0_takes_1 7 rfl (by decide) ?_
    refine v_if_ne (tgt := 97) h pX0_takes_1 8 rfl rfl (fun c5 => ?_) (fun c5 => ?_)
    · skip
      refine v_iconst h pX0_takes_1 11 rfl ki_0 ?_
      exact v_iret h pX0_takes_1 12 hR hret rfl (E) rfl ⟨vI (by first | (simp only [takesS, c1, c2, c3, c4, c5, if_true, if_false, reduceIte, not_true_eq_false, not_false_eq_true]; done) | (simp [takesS, c1, c2, c3, c4, c5] <;> rfl) | (simp [takesS, c1, c2, c3, c4, c5] <;> decide)), rfl⟩
    · skip
      refine v_iload h pX0_takes_1 9 rfl 0 rfl (v_goto (tgt := 98) h pX0_takes_1 10 rfl rfl ?_)
      exact v_iret h pX0_takes_1 12 hR hret rfl (E) rfl ⟨vI (by first | (simp only [takesS, c1, c2, c3, c4, c5, if_true, if_false, reduceIte, not_true_eq_false, not_false_eq_true]; done) | (simp [takesS, c1, c2, c3, c4, c5] <;> rfl) | (simp [takesS, c1, c2, c3, c4, c5] <;> decide)), rfl⟩
  by_cases c6 : E 2 i = 5
  · skip
    refine v_tin (tgt := 99) h pX0_takes_0 21 c6 rfl (by decide) (by decide) rfl rfl (v_iload_n h pX0_takes_1 13 rfl 2 rfl rfl (v_bipush h pX0_takes_1 14 rfl kb_9 (v_aload_n h pX0_takes_1 15 rfl 3 rfl rfl (v_get h pX0_takes_1 16 fX0_30 0 rfl rfl rfl (v_iload_n h pX0_takes_1 17 rfl 4 rfl rfl ?_)))))
    refine v_iald h pX0_takes_1 18 i 7 0 rfl rfl rfl rfl rfl (by omega) (v_bipush h pX0_takes_1 19 rfl kb_10 (v_idiv h pX0_takes_1 20 rfl (by decide) (v_mmin2 h pX0_takes_1 21 wm_192 wm_193 wm_194 wm_195 rfl rfl rfl (v_iadd h pX0_takes_1 22 rfl ?_))))
    exact v_iret h pX0_takes_1 23 hR hret rfl (E) rfl ⟨vI (by first | (simp only [takesS, c1, c2, c3, c4, c6, if_true, if_false, reduceIte, not_true_eq_false, not_false_eq_true]; done) | (simp [takesS, c1, c2, c3, c4, c6] <;> rfl) | (simp [takesS, c1, c2, c3, c4, c6] <;> decide)), rfl⟩
  by_cases c7 : E 2 i = 6
  · skip
    refine v_tin (tgt := 70) h pX0_takes_0 21 c7 rfl (by decide) (by decide) rfl rfl (v_iconst h pX0_takes_0 24 rfl ki_2 (v_iload_n h pX0_takes_0 25 rfl 1 rfl rfl (v_imul h pX0_takes_0 26 rfl ?_)))
    exact v_iret h pX0_takes_0 27 hR hret rfl (E) rfl ⟨vI (by first | (simp only [takesS, c1, c2, c3, c4, c6, c7, if_true, if_false, reduceIte, not_true_eq_false, not_false_eq_true]; done) | (simp [takesS, c1, c2, c3, c4, c6, c7] <;> rfl) | (simp [takesS, c1, c2, c3, c4, c6, c7] <;> decide)), rfl⟩
  refine v_tout (tgt := 116) h pX0_takes_0 21 rfl (sw_1_6 c1 c2 c3 c4 c6 c7) rfl (v_iload_n h pX0_takes_1 24 rfl 2 rfl rfl ?_)
  exact v_iret h pX0_takes_1 25 hR hret rfl (E) rfl ⟨vI (by first | (simp only [takesS, c1, c2, c3, c4, c6, c7, if_true, if_false, reduceIte, not_true_eq_false, not_false_eq_true]; done) | (simp [takesS, c1, c2, c3, c4, c6, c7] <;> rfl) | (simp [takesS, c1, c2, c3, c4, c6, c7] <;> decide)), rfl⟩
set_option maxHeartbeats 4000000 in
set_option maxRecDepth 100000 in
theorem kX0_needs (l : Launch) (D : va_G) (cI cS : ClassId) (a : Nat → Nat) (E : Nat → Nat → Int32) (i : Nat) (hi : i < 8) (n : Nat) (hW : Wf E n) : vDet l D (vT cI cS) yX0_needs cX0_needs 3 (some .int) 1 13 (eW cI a) [.ref (a 0), .int (nI i)] E (some (.int (needsS E i))) (E) := by
  refine vMet_of (by decide) rfl ?_
  intro K hl hD hnL hret h hR hEx
  subst hl hD
  show V K (eW cI a E) 0 [(0, .ref (a 0)), (1, .int (nI i))] []
  have hb := hW.homeL hi
  refine v_aload_n h pX0_needs_0 0 rfl 0 rfl rfl (v_get h pX0_needs_0 1 fX0_24 0 rfl rfl rfl (v_iload_n h pX0_needs_0 2 rfl 1 rfl rfl (v_iald h pX0_needs_0 3 i 5 0 rfl rfl rfl rfl rfl (by omega) (v_istore_n h pX0_needs_0 4 (lv' := [(2, .int (E 4 i)), (0, .ref (a 0)), (1, .int (nI i))]) rfl rfl hnL rfl rfl (v_aload_n h pX0_needs_0 5 rfl 1 rfl rfl ?_)))))
  refine v_get h pX0_needs_0 6 fX0_18 0 rfl rfl rfl (v_iload_n h pX0_needs_0 7 rfl 2 rfl rfl (v_iald h pX0_needs_0 8 i 3 0 rfl rfl rfl rfl rfl (by omega) ?_))
  by_cases c1 : E 2 i = 1
  · skip
    refine v_tin (tgt := 52) h pX0_needs_0 9 c1 rfl (by decide) (by decide) rfl rfl (v_iconst h pX0_needs_0 10 rfl ki_2 (v_iload_n h pX0_needs_0 11 rfl 0 rfl rfl (v_imul h pX0_needs_0 12 rfl ?_)))
    exact v_iret h pX0_needs_0 13 hR hret rfl (E) rfl ⟨vI (by simp [needsS, c1]), rfl⟩
  by_cases c2 : E 2 i = 2
  · skip
    refine v_tin (tgt := 63) h pX0_needs_0 9 c2 rfl (by decide) (by decide) rfl rfl (v_iload_n h pX0_needs_0 20 rfl 0 rfl rfl (v_iconst h pX0_needs_0 21 rfl ki_2 (v_idiv h pX0_needs_0 22 rfl (by decide) ?_)))
    exact v_iret h pX0_needs_0 23 hR hret rfl (E) rfl ⟨vI (by simp [needsS, c1, c2]), rfl⟩
  by_cases c3 : E 2 i = 3
  · skip
    refine v_tin (tgt := 67) h pX0_needs_0 9 c3 rfl (by decide) (by decide) rfl rfl (v_iconst h pX0_needs_0 24 rfl ki_0 (v_iload_n h pX0_needs_0 25 rfl 0 rfl rfl (v_iconst h pX0_needs_0 26 rfl ki_2 (v_idiv h pX0_needs_0 27 rfl (by decide) (v_aload_n h pX0_needs_0 28 rfl 1 rfl rfl ?_)))))
    refine v_get h pX0_needs_0 29 fX0_15 0 rfl rfl rfl (v_aload_n h pX0_needs_0 30 rfl 1 rfl rfl (v_get h pX0_needs_0 31 fX0_21 0 rfl rfl rfl (v_iload_n h pX0_needs_1 0 rfl 2 rfl rfl (v_iald h pX0_needs_1 1 i 4 0 rfl rfl rfl rfl rfl (by omega) (v_top (w := .int (nI (ix (E 3 i)))) (congrArg Value.int (hW.home (by omega))) ?_)))))
    refine v_iald h pX0_needs_1 2 (ix (E 3 i)) 2 0 rfl rfl rfl rfl rfl (by omega) (v_isub h pX0_needs_1 3 rfl (v_mmax2 h pX0_needs_1 4 wm_200 wm_201 wm_194 wm_202 rfl rfl rfl ?_))
    exact v_iret h pX0_needs_1 5 hR hret rfl (E) rfl ⟨vI (by simp [needsS, c1, c2, c3]), rfl⟩
  by_cases c4 : E 2 i = 4
  · skip
    refine v_tin (tgt := 67) h pX0_needs_0 9 c4 rfl (by decide) (by decide) rfl rfl (v_iconst h pX0_needs_0 24 rfl ki_0 (v_iload_n h pX0_needs_0 25 rfl 0 rfl rfl (v_iconst h pX0_needs_0 26 rfl ki_2 (v_idiv h pX0_needs_0 27 rfl (by decide) (v_aload_n h pX0_needs_0 28 rfl 1 rfl rfl ?_)))))
    refine v_get h pX0_needs_0 29 fX0_15 0 rfl rfl rfl (v_aload_n h pX0_needs_0 30 rfl 1 rfl rfl (v_get h pX0_needs_0 31 fX0_21 0 rfl rfl rfl (v_iload_n h pX0_needs_1 0 rfl 2 rfl rfl (v_iald h pX0_needs_1 1 i 4 0 rfl rfl rfl rfl rfl (by omega) (v_top (w := .int (nI (ix (E 3 i)))) (congrArg Value.int (hW.home (by omega))) ?_)))))
    refine v_iald h pX0_needs_1 2 (ix (E 3 i)) 2 0 rfl rfl rfl rfl rfl (by omega) (v_isub h pX0_needs_1 3 rfl (v_mmax2 h pX0_needs_1 4 wm_200 wm_201 wm_194 wm_202 rfl rfl rfl ?_))
    exact v_iret h pX0_needs_1 5 hR hret rfl (E) rfl ⟨vI (by simp [needsS, c1, c2, c3, c4]), rfl⟩
  by_cases c5 : E 2 i = 5
  · skip
    refine v_tin (tgt := 87) h pX0_needs_0 9 c5 rfl (by decide) (by decide) rfl rfl (v_iconst h pX0_needs_1 6 rfl ki_0 (v_iload_n h pX0_needs_1 7 rfl 0 rfl rfl (v_iconst h pX0_needs_1 8 rfl ki_5 (v_isub h pX0_needs_1 9 rfl (v_mmax2 h pX0_needs_1 10 wm_200 wm_201 wm_194 wm_202 rfl rfl rfl ?_)))))
    exact v_iret h pX0_needs_1 11 hR hret rfl (E) rfl ⟨vI (by simp [needsS, c1, c2, c3, c4, c5]), rfl⟩
  by_cases c6 : E 2 i = 6
  · skip
    refine v_tin (tgt := 56) h pX0_needs_0 9 c6 rfl (by decide) (by decide) rfl rfl (v_iconst h pX0_needs_0 14 rfl ki_2 (v_iload_n h pX0_needs_0 15 rfl 0 rfl rfl (v_imul h pX0_needs_0 16 rfl (v_bipush h pX0_needs_0 17 rfl kb_10 (v_iadd h pX0_needs_0 18 rfl ?_)))))
    exact v_iret h pX0_needs_0 19 hR hret rfl (E) rfl ⟨vI (by simp [needsS, c1, c2, c3, c4, c5, c6]), rfl⟩
  refine v_tout (tgt := 95) h pX0_needs_0 9 rfl (sw_1_6 c1 c2 c3 c4 c5 c6) rfl (v_iload_n h pX0_needs_1 12 rfl 0 rfl rfl ?_)
  exact v_iret h pX0_needs_1 13 hR hret rfl (E) rfl ⟨vI (by simp [needsS, c1, c2, c3, c4, c5, c6]), rfl⟩
set_option maxHeartbeats 4000000 in
set_option maxRecDepth 100000 in
theorem kX0_opens (l : Launch) (D : va_G) (cI cS : ClassId) (a : Nat → Nat) (E : Nat → Nat → Int32) (i : Nat) (hi : i < 8) (n : Nat) (hW : Wf E n) : vDet l D (vT cI cS) yX0_opens cX0_opens 3 (some .boolean) 0 0 (eW cI a) [.ref (a 0), .int (nI i)] E (some (.int (bI (opensS E i)))) (E) := by
  refine vMet_of (by decide) rfl ?_
  intro K hl hD hnL hret h hR hEx
  subst hl hD
  show V K (eW cI a E) 0 [(0, .ref (a 0)), (1, .int (nI i))] []
  have hb := hW.homeL hi
  refine v_aload_n h pX0_opens_0 0 rfl 0 rfl rfl (v_get h pX0_opens_0 1 fX0_15 0 rfl rfl rfl (v_aload_n h pX0_opens_0 2 rfl 0 rfl rfl (v_get h pX0_opens_0 3 fX0_21 0 rfl rfl rfl (v_iload_n h pX0_opens_0 4 rfl 1 rfl rfl (v_iald h pX0_opens_0 5 i 4 0 rfl rfl rfl rfl rfl (by omega) ?_)))))
  refine v_top (w := .int (nI (ix (E 3 i)))) (congrArg Value.int (hW.home (by omega))) (v_iald h pX0_opens_0 6 (ix (E 3 i)) 2 0 rfl rfl rfl rfl rfl (by omega) (v_iconst h pX0_opens_0 7 rfl ki_3 ?_))
  refine v_icmp_ge2 (tgt := 19) h pX0_opens_0 8 rfl rfl (fun c1 => ?_) (fun c1 => ?_)
  · skip
    refine v_iconst h pX0_opens_0 11 rfl ki_0 (v_istore_n h pX0_opens_0 12 (lv' := [(2, .int 0), (0, .ref (a 0)), (1, .int (nI i))]) rfl rfl hnL rfl rfl (v_aload_n h pX0_opens_0 13 rfl 1 rfl rfl (v_get h pX0_opens_0 14 fX0_18 0 rfl rfl rfl (v_iload_n h pX0_opens_0 15 rfl 2 rfl rfl (v_iald h pX0_opens_0 16 i 3 0 rfl rfl rfl rfl rfl (by omega) ?_)))))
    by_cases c2 : E 2 i = 1
    · skip
      refine v_tin (tgt := 64) h pX0_opens_0 17 c2 rfl (by decide) (by decide) rfl rfl (v_iload_n h pX0_opens_0 18 rfl 0 rfl rfl ?_)
      refine v_if_eq (tgt := 83) h pX0_opens_0 19 rfl rfl (fun c3 => ?_) (fun c3 => absurd c3 (by decide))
      refine v_iconst h pX0_opens_0 28 rfl ki_0 ?_
      exact v_zret h pX0_opens_0 29 (Or.inl rfl) hR hret rfl (E) rfl ⟨vI (by simp [opensS, warmS, bI, c1, c2, -Int32.not_lt]), rfl⟩
    by_cases c4 : E 2 i = 2
    · skip
      refine v_tin (tgt := 105) h pX0_opens_0 17 c4 rfl (by decide) (by decide) rfl rfl (v_iload_n h pX0_opens_1 12 rfl 0 rfl rfl ?_)
      exact v_zret h pX0_opens_1 13 (Or.inl rfl) hR hret rfl (E) rfl ⟨vI (by simp [opensS, warmS, bI, c1, c2, c4, -Int32.not_lt]), rfl⟩
    by_cases c5 : E 2 i = 3
    · skip
      refine v_tin (tgt := 87) h pX0_opens_0 17 c5 rfl (by decide) (by decide) rfl rfl (v_iconst h pX0_opens_1 0 rfl ki_1 ?_)
      exact v_zret h pX0_opens_1 1 (Or.inr rfl) hR hret rfl (E) rfl ⟨vI (by simp [opensS, warmS, bI, c1, c2, c4, c5, -Int32.not_lt]), rfl⟩
    by_cases c6 : E 2 i = 4
    · skip
      refine v_tin (tgt := 89) h pX0_opens_0 17 c6 rfl (by decide) (by decide) rfl rfl (v_aload_n h pX0_opens_1 2 rfl 1 rfl rfl (v_get h pX0_opens_1 3 fX0_46 0 rfl rfl rfl (v_iconst h pX0_opens_1 4 rfl ki_3 (v_irem2 h pX0_opens_1 5 rfl (by decide) (v_iconst h pX0_opens_1 6 rfl ki_2 ?_)))))
      refine v_icmp_ne (tgt := 103) h pX0_opens_1 7 rfl rfl (fun c7 => ?_) (fun c7 => ?_)
      · skip
        refine v_iconst h pX0_opens_1 10 rfl ki_0 ?_
        exact v_zret h pX0_opens_1 11 (Or.inl rfl) hR hret rfl (E) rfl ⟨vI (by simp [opensS, warmS, bI, c1, c2, c4, c5, c6, c7, -Int32.not_lt]), rfl⟩
      · skip
        refine v_iconst h pX0_opens_1 8 rfl ki_1 (v_goto (tgt := 104) h pX0_opens_1 9 rfl rfl ?_)
        exact v_zret h pX0_opens_1 11 (Or.inr rfl) hR hret rfl (E) rfl ⟨vI (by simp [opensS, warmS, bI, c1, c2, c4, c5, c6, c7, -Int32.not_lt]), rfl⟩
    by_cases c8 : E 2 i = 5
    · skip
      refine v_tin (tgt := 105) h pX0_opens_0 17 c8 rfl (by decide) (by decide) rfl rfl (v_iload_n h pX0_opens_1 12 rfl 0 rfl rfl ?_)
      exact v_zret h pX0_opens_1 13 (Or.inl rfl) hR hret rfl (E) rfl ⟨vI (by simp [opensS, warmS, bI, c1, c2, c4, c5, c6, c8, -Int32.not_lt]), rfl⟩
    by_cases c9 : E 2 i = 6
    · skip
      refine v_tin (tgt := 85) h pX0_opens_0 17 c9 rfl (by decide) (by decide) rfl rfl (v_iconst h pX0_opens_0 30 rfl ki_0 ?_)
      exact v_zret h pX0_opens_0 31 (Or.inl rfl) hR hret rfl (E) rfl ⟨vI (by simp [opensS, warmS, bI, c1, c2, c4, c5, c6, c8, c9, -Int32.not_lt]), rfl⟩
    refine v_tout (tgt := 105) h pX0_opens_0 17 rfl (sw_1_6 c2 c4 c5 c6 c8 c9) rfl (v_iload_n h pX0_opens_1 12 rfl 0 rfl rfl ?_)
    exact v_zret h pX0_opens_1 13 (Or.inl rfl) hR hret rfl (E) rfl ⟨vI (by simp [opensS, warmS, bI, c1, c2, c4, c5, c6, c8, c9, -Int32.not_lt]), rfl⟩
  · skip
    refine v_iconst h pX0_opens_0 9 rfl ki_1 (v_goto (tgt := 20) h pX0_opens_0 10 rfl rfl (v_istore_n h pX0_opens_0 12 (lv' := [(2, .int 1), (0, .ref (a 0)), (1, .int (nI i))]) rfl rfl hnL rfl rfl (v_aload_n h pX0_opens_0 13 rfl 1 rfl rfl (v_get h pX0_opens_0 14 fX0_18 0 rfl rfl rfl (v_iload_n h pX0_opens_0 15 rfl 2 rfl rfl ?_)))))
    refine v_iald h pX0_opens_0 16 i 3 0 rfl rfl rfl rfl rfl (by omega) ?_
    by_cases c10 : E 2 i = 1
    · skip
      refine v_tin (tgt := 64) h pX0_opens_0 17 c10 rfl (by decide) (by decide) rfl rfl (v_iload_n h pX0_opens_0 18 rfl 0 rfl rfl ?_)
      refine v_if_eq (tgt := 83) h pX0_opens_0 19 rfl rfl (fun c11 => absurd c11 (by decide)) (fun c11 => ?_)
      refine v_aload_n h pX0_opens_0 20 rfl 1 rfl rfl (v_get h pX0_opens_0 21 fX0_24 0 rfl rfl rfl (v_iload_n h pX0_opens_0 22 rfl 2 rfl rfl (v_iald h pX0_opens_0 23 i 5 0 rfl rfl rfl rfl rfl (by omega) (v_bipush h pX0_opens_0 24 rfl kb_50 ?_))))
      refine v_icmp_gt (tgt := 83) h pX0_opens_0 25 rfl rfl (fun c12 => ?_) (fun c12 => ?_)
      · skip
        refine v_iconst h pX0_opens_0 28 rfl ki_0 ?_
        exact v_zret h pX0_opens_0 29 (Or.inl rfl) hR hret rfl (E) rfl ⟨vI (by simp [opensS, warmS, bI, c1, c10, c12, -Int32.not_lt]), rfl⟩
      · skip
        refine v_iconst h pX0_opens_0 26 rfl ki_1 (v_goto (tgt := 84) h pX0_opens_0 27 rfl rfl ?_)
        exact v_zret h pX0_opens_0 29 (Or.inr rfl) hR hret rfl (E) rfl ⟨vI (by simp [opensS, warmS, bI, c1, c10, c12, -Int32.not_lt]), rfl⟩
    by_cases c13 : E 2 i = 2
    · skip
      refine v_tin (tgt := 105) h pX0_opens_0 17 c13 rfl (by decide) (by decide) rfl rfl (v_iload_n h pX0_opens_1 12 rfl 0 rfl rfl ?_)
      exact v_zret h pX0_opens_1 13 (Or.inr rfl) hR hret rfl (E) rfl ⟨vI (by simp [opensS, warmS, bI, c1, c10, c13, -Int32.not_lt]), rfl⟩
    by_cases c14 : E 2 i = 3
    · skip
      refine v_tin (tgt := 87) h pX0_opens_0 17 c14 rfl (by decide) (by decide) rfl rfl (v_iconst h pX0_opens_1 0 rfl ki_1 ?_)
      exact v_zret h pX0_opens_1 1 (Or.inr rfl) hR hret rfl (E) rfl ⟨vI (by simp [opensS, warmS, bI, c1, c10, c13, c14, -Int32.not_lt]), rfl⟩
    by_cases c15 : E 2 i = 4
    · skip
      refine v_tin (tgt := 89) h pX0_opens_0 17 c15 rfl (by decide) (by decide) rfl rfl (v_aload_n h pX0_opens_1 2 rfl 1 rfl rfl (v_get h pX0_opens_1 3 fX0_46 0 rfl rfl rfl (v_iconst h pX0_opens_1 4 rfl ki_3 (v_irem2 h pX0_opens_1 5 rfl (by decide) (v_iconst h pX0_opens_1 6 rfl ki_2 ?_)))))
      refine v_icmp_ne (tgt := 103) h pX0_opens_1 7 rfl rfl (fun c16 => ?_) (fun c16 => ?_)
      · skip
        refine v_iconst h pX0_opens_1 10 rfl ki_0 ?_
        exact v_zret h pX0_opens_1 11 (Or.inl rfl) hR hret rfl (E) rfl ⟨vI (by simp [opensS, warmS, bI, c1, c10, c13, c14, c15, c16, -Int32.not_lt]), rfl⟩
      · skip
        refine v_iconst h pX0_opens_1 8 rfl ki_1 (v_goto (tgt := 104) h pX0_opens_1 9 rfl rfl ?_)
        exact v_zret h pX0_opens_1 11 (Or.inr rfl) hR hret rfl (E) rfl ⟨vI (by simp [opensS, warmS, bI, c1, c10, c13, c14, c15, c16, -Int32.not_lt]), rfl⟩
    by_cases c17 : E 2 i = 5
    · skip
      refine v_tin (tgt := 105) h pX0_opens_0 17 c17 rfl (by decide) (by decide) rfl rfl (v_iload_n h pX0_opens_1 12 rfl 0 rfl rfl ?_)
      exact v_zret h pX0_opens_1 13 (Or.inr rfl) hR hret rfl (E) rfl ⟨vI (by simp [opensS, warmS, bI, c1, c10, c13, c14, c15, c17, -Int32.not_lt]), rfl⟩
    by_cases c18 : E 2 i = 6
    · skip
      refine v_tin (tgt := 85) h pX0_opens_0 17 c18 rfl (by decide) (by decide) rfl rfl (v_iconst h pX0_opens_0 30 rfl ki_0 ?_)
      exact v_zret h pX0_opens_0 31 (Or.inl rfl) hR hret rfl (E) rfl ⟨vI (by simp [opensS, warmS, bI, c1, c10, c13, c14, c15, c17, c18, -Int32.not_lt]), rfl⟩
    refine v_tout (tgt := 105) h pX0_opens_0 17 rfl (sw_1_6 c10 c13 c14 c15 c17 c18) rfl (v_iload_n h pX0_opens_1 12 rfl 0 rfl rfl ?_)
    exact v_zret h pX0_opens_1 13 (Or.inr rfl) hR hret rfl (E) rfl ⟨vI (by simp [opensS, warmS, bI, c1, c10, c13, c14, c15, c17, c18, -Int32.not_lt]), rfl⟩
set_option maxHeartbeats 4000000 in
set_option maxRecDepth 100000 in
theorem kX0_worthOf (l : Launch) (D : va_G) (cI cS : ClassId) (a : Nat → Nat) (E : Nat → Nat → Int32) (i : Nat) (hi : i < 8) : vDet l D (vT cI cS) yX0_worthOf cX0_worthOf 4 (some .int) 1 21 (eW cI a) [.ref (a 0), .int (nI i)] E (some (.int (worthS E i))) (E) := by
  refine vMet_of (by decide) rfl ?_
  intro K hl hD hnL hret h hR hEx
  subst hl hD
  show V K (eW cI a E) 0 [(0, .ref (a 0)), (1, .int (nI i))] []
  refine v_aload_n h pX0_worthOf_0 0 rfl 0 rfl rfl (v_iload_n h pX0_worthOf_0 1 rfl 1 rfl rfl ?_)
  refine v_callV h pX0_worthOf_0 2 mX0_78 (As := [.int (nI i)]) (st := []) (kX0_isTold _ _ cI cS a E i (by omega)) v0B v0C (vEmb_rf _ _) 0 rfl rfl rfl rfl rfl rfl rfl (vDet_k ?_)
  show V K (eW cI a E) 5 [(0, .ref (a 0)), (1, .int (nI i))] [.int (bI (toldS E i))]
  refine v_bif_eq (tgt := 10) h pX0_worthOf_0 3 rfl rfl (fun c1 => ?_) (fun c1 => ?_)
  · skip
    refine v_aload_n h pX0_worthOf_0 6 rfl 0 rfl rfl (v_get h pX0_worthOf_0 7 fX0_27 0 rfl rfl rfl (v_iload_n h pX0_worthOf_0 8 rfl 1 rfl rfl (v_iald h pX0_worthOf_0 9 i 6 0 rfl rfl rfl rfl rfl (by omega) (v_istore_n h pX0_worthOf_0 10 (lv' := [(2, .int (E 5 i)), (0, .ref (a 0)), (1, .int (nI i))]) rfl rfl hnL rfl rfl (v_iload_n h pX0_worthOf_0 11 rfl 0 rfl rfl ?_)))))
    refine v_aload_n h pX0_worthOf_0 12 rfl 1 rfl rfl (v_get h pX0_worthOf_0 13 fX0_24 0 rfl rfl rfl (v_iload_n h pX0_worthOf_0 14 rfl 2 rfl rfl (v_iald h pX0_worthOf_0 15 i 5 0 rfl rfl rfl rfl rfl (by omega) (v_iadd h pX0_worthOf_0 16 rfl (v_istore_n h pX0_worthOf_0 17 (lv' := [(3, .int ((E 5 i) + (E 4 i))), (2, .int (E 5 i)), (0, .ref (a 0)), (1, .int (nI i))]) rfl rfl hnL rfl rfl ?_)))))
    refine v_aload_n h pX0_worthOf_0 18 rfl 2 rfl rfl (v_get h pX0_worthOf_0 19 fX0_18 0 rfl rfl rfl (v_iload_n h pX0_worthOf_0 20 rfl 3 rfl rfl (v_iald h pX0_worthOf_0 21 i 3 0 rfl rfl rfl rfl rfl (by omega) ?_)))
    by_cases c2 : E 2 i = 1
    · skip
      refine v_tin (tgt := 72) h pX0_worthOf_0 22 c2 rfl (by decide) (by decide) rfl rfl (v_iload_n h pX0_worthOf_0 23 rfl 0 rfl rfl ?_)
      exact v_iret h pX0_worthOf_0 24 hR hret rfl (E) rfl ⟨vI (by simp [worthS, c1, c2]), rfl⟩
    by_cases c3 : E 2 i = 2
    · skip
      refine v_tin (tgt := 90) h pX0_worthOf_0 22 c3 rfl (by decide) (by decide) rfl rfl (v_iload_n h pX0_worthOf_1 4 rfl 1 rfl rfl (v_iconst h pX0_worthOf_1 5 rfl ki_2 (v_idiv h pX0_worthOf_1 6 rfl (by decide) ?_)))
      exact v_iret h pX0_worthOf_1 7 hR hret rfl (E) rfl ⟨vI (by simp [worthS, c1, c2, c3]), rfl⟩
    by_cases c4 : E 2 i = 3
    · skip
      refine v_tin (tgt := 90) h pX0_worthOf_0 22 c4 rfl (by decide) (by decide) rfl rfl (v_iload_n h pX0_worthOf_1 4 rfl 1 rfl rfl (v_iconst h pX0_worthOf_1 5 rfl ki_2 (v_idiv h pX0_worthOf_1 6 rfl (by decide) ?_)))
      exact v_iret h pX0_worthOf_1 7 hR hret rfl (E) rfl ⟨vI (by simp [worthS, c1, c2, c3, c4]), rfl⟩
    by_cases c5 : E 2 i = 4
    · skip
      refine v_tin (tgt := 90) h pX0_worthOf_0 22 c5 rfl (by decide) (by decide) rfl rfl (v_iload_n h pX0_worthOf_1 4 rfl 1 rfl rfl (v_iconst h pX0_worthOf_1 5 rfl ki_2 (v_idiv h pX0_worthOf_1 6 rfl (by decide) ?_)))
      exact v_iret h pX0_worthOf_1 7 hR hret rfl (E) rfl ⟨vI (by simp [worthS, c1, c2, c3, c4, c5]), rfl⟩
    by_cases c6 : E 2 i = 5
    · skip
      refine v_tin (tgt := 94) h pX0_worthOf_0 22 c6 rfl (by decide) (by decide) rfl rfl (v_iconst h pX0_worthOf_1 8 rfl ki_3 (v_iload_n h pX0_worthOf_1 9 rfl 1 rfl rfl (v_imul h pX0_worthOf_1 10 rfl ?_)))
      exact v_iret h pX0_worthOf_1 11 hR hret rfl (E) rfl ⟨vI (by simp [worthS, c1, c2, c3, c4, c5, c6]), rfl⟩
    by_cases c7 : E 2 i = 6
    · skip
      refine v_tin (tgt := 74) h pX0_worthOf_0 22 c7 rfl (by decide) (by decide) rfl rfl (v_iconst h pX0_worthOf_0 25 rfl ki_0 (v_iload_n h pX0_worthOf_0 26 rfl 0 rfl rfl (v_bipush h pX0_worthOf_0 27 rfl kb_10 (v_aload_n h pX0_worthOf_0 28 rfl 2 rfl rfl (v_get h pX0_worthOf_0 29 fX0_33 0 rfl rfl rfl ?_)))))
      refine v_iload_n h pX0_worthOf_0 30 rfl 3 rfl rfl (v_iald h pX0_worthOf_0 31 i 8 0 rfl rfl rfl rfl rfl (by omega) (v_imul h pX0_worthOf_1 0 rfl (v_isub h pX0_worthOf_1 1 rfl (v_mmax2 h pX0_worthOf_1 2 wm_200 wm_201 wm_194 wm_202 rfl rfl rfl ?_))))
      exact v_iret h pX0_worthOf_1 3 hR hret rfl (E) rfl ⟨vI (by simp [worthS, c1, c2, c3, c4, c5, c6, c7]), rfl⟩
    refine v_tout (tgt := 98) h pX0_worthOf_0 22 rfl (sw_1_6 c2 c3 c4 c5 c6 c7) rfl (v_iload_n h pX0_worthOf_1 12 rfl 1 rfl rfl ?_)
    exact v_iret h pX0_worthOf_1 13 hR hret rfl (E) rfl ⟨vI (by simp [worthS, c1, c2, c3, c4, c5, c6, c7]), rfl⟩
  · skip
    refine v_iconst h pX0_worthOf_0 4 rfl ki_0 ?_
    exact v_iret h pX0_worthOf_0 5 hR hret rfl (E) rfl ⟨vI (by simp [worthS, c1]), rfl⟩
set_option maxHeartbeats 4000000 in
set_option maxRecDepth 100000 in
theorem kX0_isHidden (l : Launch) (D : va_G) (cI cS : ClassId) (a : Nat → Nat) (E : Nat → Nat → Int32) (i : Nat) (hi : i < 8) (n : Nat) (hW : Wf E n) : vDet l D (vT cI cS) yX0_isHidden cX0_isHidden 2 (some .boolean) 2 35 (eW cI a) [.ref (a 0), .int (nI i)] E (some (.int (bI (hiddenS E i)))) (E) := by
  refine vMet_of (by decide) rfl ?_
  intro K hl hD hnL hret h hR hEx
  subst hl hD
  show V K (eW cI a E) 0 [(0, .ref (a 0)), (1, .int (nI i))] []
  refine v_aload_n h pX0_isHidden_0 0 rfl 0 rfl rfl (v_iload_n h pX0_isHidden_0 1 rfl 1 rfl rfl ?_)
  refine v_callV h pX0_isHidden_0 2 mX0_78 (As := [.int (nI i)]) (st := []) (kX0_isTold _ _ cI cS a E i (by omega)) v0B v0C (vEmb_rf _ _) 0 rfl rfl rfl rfl rfl rfl rfl (vDet_k ?_)
  show V K (eW cI a E) 5 [(0, .ref (a 0)), (1, .int (nI i))] [.int (bI (toldS E i))]
  refine v_bif_ne (tgt := 26) h pX0_isHidden_0 3 rfl rfl (fun c1 => ?_) (fun c1 => ?_)
  · skip
    refine v_iconst h pX0_isHidden_0 14 rfl ki_0 ?_
    exact v_zret h pX0_isHidden_0 15 (Or.inl rfl) hR hret rfl (E) rfl ⟨vI (by simp [hiddenS, bI, c1, -Int32.not_lt]), rfl⟩
  · skip
    refine v_aload_n h pX0_isHidden_0 4 rfl 0 rfl rfl (v_get h pX0_isHidden_0 5 fX0_27 0 rfl rfl rfl (v_iload_n h pX0_isHidden_0 6 rfl 1 rfl rfl (v_iald h pX0_isHidden_0 7 i 6 0 rfl rfl rfl rfl rfl (by omega) (v_aload_n h pX0_isHidden_0 8 rfl 0 rfl rfl (v_iload_n h pX0_isHidden_0 9 rfl 1 rfl rfl ?_)))))
    refine v_callV h pX0_isHidden_0 10 mX0_82 (As := [.int (nI i)]) (st := [.int (E 5 i)]) (kX0_needs _ _ cI cS a E i (by omega) n hW) v0B v0C (vEmb_rf _ _) 0 rfl rfl rfl rfl rfl rfl rfl (vDet_k ?_)
    show V K (eW cI a E) 19 [(0, .ref (a 0)), (1, .int (nI i))] [.int (needsS E i), .int (E 5 i)]
    refine v_icmp_lt (tgt := 26) h pX0_isHidden_0 11 rfl rfl (fun c2 => ?_) (fun c2 => ?_)
    · skip
      refine v_iconst h pX0_isHidden_0 14 rfl ki_0 ?_
      exact v_zret h pX0_isHidden_0 15 (Or.inl rfl) hR hret rfl (E) rfl ⟨vI (by simp [hiddenS, bI, c1, c2, -Int32.not_lt]), rfl⟩
    · skip
      refine v_iconst h pX0_isHidden_0 12 rfl ki_1 (v_goto (tgt := 27) h pX0_isHidden_0 13 rfl rfl ?_)
      exact v_zret h pX0_isHidden_0 15 (Or.inr rfl) hR hret rfl (E) rfl ⟨vI (by simp [hiddenS, bI, c1, c2, -Int32.not_lt]), rfl⟩
