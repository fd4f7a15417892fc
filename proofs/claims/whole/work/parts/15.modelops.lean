set_option maxHeartbeats 300000 in
set_option maxRecDepth 100000 in
theorem kX4_now (l : Launch) (D : va_G) (cI cS : ClassId) (b : Nat → Nat) (E Kp Bf As Q : Nat → Nat → Int32) (n : Nat) (hW : Wf E n) (yb : Nat) (hY : bd (E 9 2) yb) (hyb : yb ≤ 99000) (w : Int32) : vMet l D (vT cI cS) yX4_now cX4_now 4 (some .int) 4 87 (mW cI b) v0 [.ref (b 0), .int w] (E, Kp, Bf, As, Q) (mPost (some (.int (nowS E n w))) (E) (Kp) (cond (sel7 w) (Q) (fndS Q 0))) := by
  refine vMet_of (by decide) rfl ?_
  intro K hl hD hnL hret h hR hEx
  subst hl hD
  show V K (mW cI b (E, Kp, Bf, As, Q)) 0 [(0, .ref (b 0)), (1, .int w)] []
  have hn8 := hW.1
  refine v_iconst h pX4_now_0 0 rfl ki_0 (v_istore_n h pX4_now_0 1 (lv' := [(2, .int 0), (0, .ref (b 0)), (1, .int w)]) rfl rfl hnL rfl rfl (v_iload_n h pX4_now_0 2 rfl 2 rfl rfl ?_))
  by_cases c1 : w = 0
  · skip
    refine v_tin (tgt := 44) h pX4_now_0 3 c1 rfl (by decide) (by decide) rfl rfl (v_aload_n h pX4_now_0 4 rfl 1 rfl rfl (v_get h pX4_now_0 5 fX4_7 0 rfl rfl rfl (v_iconst h pX4_now_0 6 rfl ki_1 (v_iald h pX4_now_0 7 1 1 0 rfl rfl rfl rfl rfl (by omega) (v_top (w := .int (E 9 2)) (congrArg Value.int rfl) ?_)))))
    exact v_iret h pX4_now_0 8 hR hret rfl ((E, Kp, Bf, As, Q)) rfl ⟨vI (by simp [nowS, (eq_true c1)]), rfl, rfl, (qR_of (by simp [sel7, (eq_true c1), True]))⟩
  by_cases c2 : w = 1
  · skip
    refine v_tin (tgt := 51) h pX4_now_0 3 c2 rfl (by decide) (by decide) rfl rfl (v_aload_n h pX4_now_0 9 rfl 1 rfl rfl (v_iconst h pX4_now_0 10 rfl ki_3 ?_))
    refine v_callV h pX4_now_0 11 mX4_122 (As := [.int 3]) (st := []) (kX4_sumOf _ _ cI cS b E Kp Bf As Q n hW 3 (by omega)) v0B v0C (vEmb_rf _ _) 0 rfl rfl rfl rfl rfl rfl rfl (vDet_k ?_)
    show V K (mW cI b (E, Kp, Bf, As, Q)) 56 [(2, .int 0), (0, .ref (b 0)), (1, .int w)] [.int (sumS (E 5) n)]
    exact v_iret h pX4_now_0 12 hR hret rfl ((E, Kp, Bf, As, Q)) rfl ⟨vI (by simp [nowS, c1, (eq_true c2)]), rfl, rfl, (qR_of (by simp [sel7, c1, (eq_true c2), True]))⟩
  by_cases c3 : w = 2
  · skip
    refine v_tin (tgt := 57) h pX4_now_0 3 c3 rfl (by decide) (by decide) rfl rfl (v_aload_n h pX4_now_0 13 rfl 1 rfl rfl ?_)
    refine v_callV h pX4_now_0 14 mX4_125 (As := []) (st := []) (kX4_toldOnes _ _ cI cS b E Kp Bf As Q n hW) v0B v0C (vEmb_rf _ _) 0 rfl rfl rfl rfl rfl rfl rfl (vDet_k ?_)
    show V K (mW cI b (E, Kp, Bf, As, Q)) 61 [(2, .int 0), (0, .ref (b 0)), (1, .int w)] [.int (setS (toldS E) n)]
    exact v_iret h pX4_now_0 15 hR hret rfl ((E, Kp, Bf, As, Q)) rfl ⟨vI (by simp [nowS, c1, c2, (eq_true c3)]), rfl, rfl, (qR_of (by simp [sel7, c1, c2, (eq_true c3), True]))⟩
  by_cases c4 : w = 3
  · skip
    refine v_tin (tgt := 62) h pX4_now_0 3 c4 rfl (by decide) (by decide) rfl rfl (v_aload_n h pX4_now_0 16 rfl 1 rfl rfl ?_)
    refine v_callV h pX4_now_0 17 mX4_129 (As := []) (st := []) (kX4_hiddenOnes _ _ cI cS b E Kp Bf As Q n hW) v0B v0C (vEmb_rf _ _) 0 rfl rfl rfl rfl rfl rfl rfl (vDet_k ?_)
    show V K (mW cI b (E, Kp, Bf, As, Q)) 66 [(2, .int 0), (0, .ref (b 0)), (1, .int w)] [.int (setS (hiddenS E) n)]
    exact v_iret h pX4_now_0 18 hR hret rfl ((E, Kp, Bf, As, Q)) rfl ⟨vI (by simp [nowS, c1, c2, c3, (eq_true c4)]), rfl, rfl, (qR_of (by simp [sel7, c1, c2, c3, (eq_true c4), True]))⟩
  by_cases c5 : w = 4
  · skip
    refine v_tin (tgt := 67) h pX4_now_0 3 c5 rfl (by decide) (by decide) rfl rfl (v_iconst h pX4_now_0 19 rfl ki_0 (v_istore_n h pX4_now_0 20 (lv' := [(3, .int 0), (2, .int 0), (0, .ref (b 0)), (1, .int w)]) rfl rfl hnL rfl rfl ?_))
    refine v_lv [2, 3, 1, 0] (lv' := [(0, .ref (b 0)), (1, .int w), (2, .int 0), (3, .int 0)]) rfl ?_
    have L6 : ∀ (m i6 : Nat), i6 ≤ 6 → 6 + 1 ≤ i6 + m → V K (mW cI b (E, Kp, Bf, As, Q)) 69 [(0, .ref (b 0)), (1, .int w), (2, .int (sumS (E 0) i6)), (3, .int (nI i6))] [] := by
      intro m
      induction m with
      | zero => exact fun i6 h1 h2 => absurd h2 (by omega)
      | succ m ih6 =>
        intro i6 hle6 hlt6
        refine v_iload_n h pX4_now_0 21 rfl 3 rfl rfl (v_bipush h pX4_now_0 22 rfl kb_6 ?_)
        refine v_ncmp_ge (a := i6) (b := 6) (tgt := 92) h pX4_now_0 23 rfl rfl (by omega) (by omega) (fun c7 => ?_) (fun c7 => ?_)
        · skip
          obtain rfl : 6 = i6 := by omega
          refine v_iload_n h pX4_now_1 3 rfl 2 rfl rfl ?_
          exact v_iret h pX4_now_1 4 hR hret rfl ((E, Kp, Bf, As, Q)) rfl ⟨vI (by simp [nowS, c1, c2, c3, c4, (eq_true c5), c7]), rfl, rfl, (qR_of (by simp [sel7, c1, c2, c3, c4, (eq_true c5), c7, True]))⟩
        · skip
          refine v_iload_n h pX4_now_0 24 rfl 2 rfl rfl (v_aload_n h pX4_now_0 25 rfl 0 rfl rfl (v_get h pX4_now_0 26 fX4_7 0 rfl rfl rfl (v_iconst h pX4_now_0 27 rfl ki_4 (v_iload_n h pX4_now_0 28 rfl 3 rfl rfl (v_iaddn h pX4_now_0 29 4 i6 rfl ?_)))))
          refine v_iald h pX4_now_0 30 (4 + i6) 1 0 rfl rfl rfl rfl rfl (by omega) (v_top (w := .int (E 0 i6)) (congrArg Value.int (fl_n _ (by omega))) (v_iadd h pX4_now_0 31 rfl (v_istore_n h pX4_now_1 0 (lv' := [(2, .int ((sumS (E 0) i6) + (E 0 i6))), (0, .ref (b 0)), (1, .int w), (3, .int (nI i6))]) rfl rfl hnL rfl rfl (v_iinc h pX4_now_1 1 (v := nI (i6 + 1)) (lv' := [(3, .int (nI (i6 + 1))), (2, .int ((sumS (E 0) i6) + (E 0 i6))), (0, .ref (b 0)), (1, .int w)]) rfl 3 rfl hnL rfl rfl (nI_1 i6) (v_goto (tgt := 69) h pX4_now_1 2 rfl rfl ?_)))))
          refine v_lv [2, 3, 1, 0] (lv' := [(0, .ref (b 0)), (1, .int w), (2, .int ((sumS (E 0) i6) + (E 0 i6))), (3, .int (nI (i6 + 1)))]) rfl ?_
          exact ih6 (i6 + 1) (by omega) (by omega)
    exact L6 (6 + 1) 0 (by omega) (by omega)
  by_cases c8 : w = 5
  · skip
    refine v_tin (tgt := 94) h pX4_now_0 3 c8 rfl (by decide) (by decide) rfl rfl (v_iconst h pX4_now_1 5 rfl ki_0 (v_istore_n h pX4_now_1 6 (lv' := [(3, .int 0), (2, .int 0), (0, .ref (b 0)), (1, .int w)]) rfl rfl hnL rfl rfl ?_))
    refine v_lv [2, 3, 1, 0] (lv' := [(0, .ref (b 0)), (1, .int w), (2, .int 0), (3, .int 0)]) rfl ?_
    have L9 : ∀ (m i9 : Nat), i9 ≤ n → n + 1 ≤ i9 + m → V K (mW cI b (E, Kp, Bf, As, Q)) 96 [(0, .ref (b 0)), (1, .int w), (2, .int (sumS (worthS E) i9)), (3, .int (nI i9))] [] := by
      intro m
      induction m with
      | zero => exact fun i9 h1 h2 => absurd h2 (by omega)
      | succ m ih9 =>
        intro i9 hle9 hlt9
        refine v_iload_n h pX4_now_1 7 rfl 3 rfl rfl (v_aload_n h pX4_now_1 8 rfl 0 rfl rfl (v_get h pX4_now_1 9 fX4_7 0 rfl rfl rfl (v_iconst h pX4_now_1 10 rfl ki_0 (v_iald h pX4_now_1 11 0 1 0 rfl rfl rfl rfl rfl (by omega) (v_top (w := .int (E 9 0)) (congrArg Value.int rfl) ?_)))))
        refine v_top (w := .int (nI n)) (congrArg Value.int hW.2.1) ?_
        refine v_ncmp_ge (a := i9) (b := n) (tgt := 120) h pX4_now_1 12 rfl rfl (by omega) (by omega) (fun c10 => ?_) (fun c10 => ?_)
        · skip
          obtain rfl : n = i9 := by omega
          refine v_iload_n h pX4_now_1 21 rfl 2 rfl rfl ?_
          exact v_iret h pX4_now_1 22 hR hret rfl ((E, Kp, Bf, As, Q)) rfl ⟨vI (by simp [nowS, c1, c2, c3, c4, c5, (eq_true c8), c10]), rfl, rfl, (qR_of (by simp [sel7, c1, c2, c3, c4, c5, (eq_true c8), c10, True]))⟩
        · skip
          refine v_iload_n h pX4_now_1 13 rfl 2 rfl rfl (v_aload_n h pX4_now_1 14 rfl 0 rfl rfl (v_iload_n h pX4_now_1 15 rfl 3 rfl rfl ?_))
          refine v_callV h pX4_now_1 16 mX4_100 (As := [.int (nI i9)]) (st := [.int (sumS (worthS E) i9)]) (kX4_worthOf _ _ cI cS b E Kp Bf As Q i9 (by omega)) v0B v0C (vEmb_rf _ _) 0 rfl rfl rfl rfl rfl rfl rfl (vDet_k ?_)
          show V K (mW cI b (E, Kp, Bf, As, Q)) 112 [(0, .ref (b 0)), (1, .int w), (2, .int (sumS (worthS E) i9)), (3, .int (nI i9))] [.int (worthS E i9), .int (sumS (worthS E) i9)]
          refine v_iadd h pX4_now_1 17 rfl (v_istore_n h pX4_now_1 18 (lv' := [(2, .int ((sumS (worthS E) i9) + (worthS E i9))), (0, .ref (b 0)), (1, .int w), (3, .int (nI i9))]) rfl rfl hnL rfl rfl (v_iinc h pX4_now_1 19 (v := nI (i9 + 1)) (lv' := [(3, .int (nI (i9 + 1))), (2, .int ((sumS (worthS E) i9) + (worthS E i9))), (0, .ref (b 0)), (1, .int w)]) rfl 3 rfl hnL rfl rfl (nI_1 i9) (v_goto (tgt := 96) h pX4_now_1 20 rfl rfl (v_lv [2, 3, 1, 0] (lv' := [(0, .ref (b 0)), (1, .int w), (2, .int ((sumS (worthS E) i9) + (worthS E i9))), (3, .int (nI (i9 + 1)))]) rfl ?_))))
          exact ih9 (i9 + 1) (by omega) (by omega)
    exact L9 (n + 1) 0 (by omega) (by omega)
  by_cases c11 : w = 6
  · skip
    refine v_tin (tgt := 122) h pX4_now_0 3 c11 rfl (by decide) (by decide) rfl rfl (v_aload_n h pX4_now_1 23 rfl 1 rfl rfl (v_iconst h pX4_now_1 24 rfl ki_5 ?_))
    refine v_callV h pX4_now_1 25 mX4_122 (As := [.int 5]) (st := []) (kX4_sumOf _ _ cI cS b E Kp Bf As Q n hW 5 (by omega)) v0B v0C (vEmb_rf _ _) 0 rfl rfl rfl rfl rfl rfl rfl (vDet_k ?_)
    show V K (mW cI b (E, Kp, Bf, As, Q)) 127 [(2, .int 0), (0, .ref (b 0)), (1, .int w)] [.int (sumS (E 7) n)]
    exact v_iret h pX4_now_1 26 hR hret rfl ((E, Kp, Bf, As, Q)) rfl ⟨vI (by simp [nowS, c1, c2, c3, c4, c5, c8, (eq_true c11)]), rfl, rfl, (qR_of (by simp [sel7, c1, c2, c3, c4, c5, c8, (eq_true c11), True]))⟩
  refine v_tout (tgt := 128) h pX4_now_0 3 rfl (sw_0_6 c1 c2 c3 c4 c5 c8 c11) rfl (v_aload_n h pX4_now_1 27 rfl 1 rfl rfl (v_ldc h pX4_now_1 28 wm_104 rfl ?_))
  refine v_callV h pX4_now_1 29 mX4_42 (As := [.int (-1000001)]) (st := []) (kX4_finds _ _ cI cS b E Kp Bf As Q 0 (by decide) (-1000001) (by decide)) v0B v0C (vEmb_rf _ _) 0 rfl rfl rfl rfl rfl rfl rfl (vDet_k ?_)
  show V K (mW cI b (E, Kp, Bf, As, fndS Q 0)) 134 [(2, .int 0), (0, .ref (b 0)), (1, .int w)] [.int (-1000001)]
  generalize hS12 : fndS Q 0 = S12
  exact v_iret h pX4_now_1 30 hR hret rfl ((E, Kp, Bf, As, S12)) rfl ⟨vI (by simp [nowS, c1, c2, c3, c4, c5, c8, c11]), rfl, rfl, (qR_of (by simp [sel7, c1, c2, c3, c4, c5, c8, c11, hS12]))⟩
set_option maxHeartbeats 300000 in
set_option maxRecDepth 100000 in
theorem kX4_many (l : Launch) (D : va_G) (cI cS : ClassId)   (x : Nat) (hx : x < 256) : vDet l D (vT cI cS) yX4_many cX4_many 3 (some .int) 0 0 (fun _ : Unit => ([] : va_W)) [.int (nI x)] () (some (.int (nI (popc x)))) (()) := by
  refine vMet_of (by decide) rfl ?_
  intro K hl hD hnL hret h hR hEx
  subst hl hD
  show V K (([] : va_W)) 0 [(0, .int (nI x))] []
  refine v_iconst h pX4_many_0 0 rfl ki_0 (v_istore_n h pX4_many_0 1 (lv' := [(1, .int 0), (0, .int (nI x))]) rfl rfl hnL rfl rfl (v_iload_n h pX4_many_0 2 rfl 1 rfl rfl (v_istore_n h pX4_many_0 3 (lv' := [(2, .int (nI x)), (1, .int 0), (0, .int (nI x))]) rfl rfl hnL rfl rfl ?_)))
  refine v_lv [2, 1, 0] (lv' := [(0, .int (nI x)), (1, .int 0), (2, .int (nI x))]) rfl ?_
  have LA : ∀ (m l c : Nat), l + 1 ≤ m → l < 256 → c + popc l = popc x → V K (([] : va_W)) 4 [(0, .int (nI x)), (1, .int (nI c)), (2, .int (nI l))] [] := by
    intro m
    induction m with
    | zero => exact fun l c h1 h2 h3 => absurd h1 (by omega)
    | succ m ihA =>
      intro l c h1 h2 h3
      refine v_iload_n h pX4_many_0 4 rfl 2 rfl rfl ?_
      refine v_nif_eq (a := l) (tgt := 20) h pX4_many_0 5 rfl rfl (by omega) (fun c1 => ?_) (fun c1 => ?_)
      · skip
        refine v_iload_n h pX4_many_0 14 rfl 1 rfl rfl ?_
        exact v_iret h pX4_many_0 15 hR hret rfl (()) rfl ⟨vI (by rw [c1] at h3; exact congrArg nI h3), rfl⟩
      · skip
        refine v_iinc h pX4_many_0 6 (v := nI (c + 1)) (lv' := [(1, .int (nI (c + 1))), (0, .int (nI x)), (2, .int (nI l))]) rfl 1 rfl hnL rfl rfl (nI_1 c) (v_iload_n h pX4_many_0 7 rfl 2 rfl rfl (v_iload_n h pX4_many_0 8 rfl 2 rfl rfl (v_iconst h pX4_many_0 9 rfl ki_1 (v_isub h pX4_many_0 10 rfl (v_iand h pX4_many_0 11 rfl ?_)))))
        refine v_top (w := .int (nI (l &&& (l - 1)))) (congrArg Value.int (pop_tab l h2 c1).1) (v_istore_n h pX4_many_0 12 (lv' := [(2, .int (nI (l &&& (l - 1)))), (1, .int (nI (c + 1))), (0, .int (nI x))]) rfl rfl hnL rfl rfl (v_goto (tgt := 4) h pX4_many_0 13 rfl rfl (v_lv [2, 1, 0] (lv' := [(0, .int (nI x)), (1, .int (nI (c + 1))), (2, .int (nI (l &&& (l - 1))))]) rfl ?_)))
        obtain ⟨-, q2, q3⟩ := pop_tab l h2 c1
        exact ihA (l &&& (l - 1)) (c + 1) (by omega) (by omega) (by omega)
  exact LA (x + 1) x 0 (by omega) hx (by omega)
set_option maxHeartbeats 300000 in
set_option maxRecDepth 100000 in
theorem kX4_count (l : Launch) (D : va_G) (cI cS : ClassId) (b : Nat → Nat) (E Kp Bf As Q : Nat → Nat → Int32) (n : Nat) (hW : Wf E n) (yb : Nat) (hY : bd (E 9 2) yb) (hyb : yb ≤ 99000) (w : Int32) : vMet l D (vT cI cS) yX4_count cX4_count 4 (some .int) 3 65 (mW cI b) v0 [.ref (b 0), .int w] (E, Kp, Bf, As, Q) (mPost (some (.int (countS E Q n w))) (E) (Kp) (cond (sel8 w) (Q) (fndS Q 0))) := by
  refine vMet_of (by decide) rfl ?_
  intro K hl hD hnL hret h hR hEx
  subst hl hD
  show V K (mW cI b (E, Kp, Bf, As, Q)) 0 [(0, .ref (b 0)), (1, .int w)] []
  have hn8 := hW.1
  refine v_iconst h pX4_count_0 0 rfl ki_0 (v_istore_n h pX4_count_0 1 (lv' := [(2, .int 0), (0, .ref (b 0)), (1, .int w)]) rfl rfl hnL rfl rfl (v_iload_n h pX4_count_0 2 rfl 2 rfl rfl ?_))
  by_cases c1 : w = 0
  · skip
    refine v_tin (tgt := 48) h pX4_count_0 3 c1 rfl (by decide) (by decide) rfl rfl (v_aload_n h pX4_count_0 4 rfl 1 rfl rfl (v_get h pX4_count_0 5 fX4_7 0 rfl rfl rfl (v_iconst h pX4_count_0 6 rfl ki_1 (v_iald h pX4_count_0 7 1 1 0 rfl rfl rfl rfl rfl (by omega) (v_top (w := .int (E 9 2)) (congrArg Value.int rfl) ?_)))))
    exact v_iret h pX4_count_0 8 hR hret rfl ((E, Kp, Bf, As, Q)) rfl ⟨vI (by simp [countS, (eq_true c1)]), rfl, rfl, (qR_of (by simp [sel8, (eq_true c1), True]))⟩
  by_cases c2 : w = 1
  · skip
    refine v_tin (tgt := 55) h pX4_count_0 3 c2 rfl (by decide) (by decide) rfl rfl (v_aload_n h pX4_count_0 9 rfl 1 rfl rfl (v_get h pX4_count_0 10 fX4_7 0 rfl rfl rfl (v_iconst h pX4_count_0 11 rfl ki_0 (v_iald h pX4_count_0 12 0 1 0 rfl rfl rfl rfl rfl (by omega) (v_top (w := .int (E 9 0)) (congrArg Value.int rfl) ?_)))))
    refine v_top (w := .int (nI n)) (congrArg Value.int hW.2.1) ?_
    exact v_iret h pX4_count_0 13 hR hret rfl ((E, Kp, Bf, As, Q)) rfl ⟨vI (by simp [countS, c1, (eq_true c2)]), rfl, rfl, (qR_of (by simp [sel8, c1, (eq_true c2), True]))⟩
  by_cases c3 : w = 2
  · skip
    refine v_tin (tgt := 62) h pX4_count_0 3 c3 rfl (by decide) (by decide) rfl rfl (v_aload_n h pX4_count_0 14 rfl 1 rfl rfl ?_)
    refine v_callV h pX4_count_0 15 mX4_125 (As := []) (st := []) (kX4_toldOnes _ _ cI cS b E Kp Bf As Q n hW) v0B v0C (vEmb_rf _ _) 0 rfl rfl rfl rfl rfl rfl rfl (vDet_k ?_)
    show V K (mW cI b (E, Kp, Bf, As, Q)) 66 [(2, .int 0), (0, .ref (b 0)), (1, .int w)] [.int (setS (toldS E) n)]
    refine v_top (w := .int (nI (setN (toldS E) n))) (congrArg Value.int (setS_N _ n (by omega))) ?_
    refine v_callS h pX4_count_0 16 mX4_160 (As := [.int (nI (setN (toldS E) n))]) (st := []) (kX4_many _ _ cI cS (setN (toldS E) n) (by first | exact setN_256 _ (by omega) | omega)) v0B v0C (vEmb_u _) rfl rfl rfl rfl rfl (vDet_k ?_)
    show V K (mW cI b (E, Kp, Bf, As, Q)) 69 [(2, .int 0), (0, .ref (b 0)), (1, .int w)] [.int (nI (popc (setN (toldS E) n)))]
    exact v_iret h pX4_count_0 17 hR hret rfl ((E, Kp, Bf, As, Q)) rfl ⟨vI (by simp [countS, c1, c2, (eq_true c3)]), rfl, rfl, (qR_of (by simp [sel8, c1, c2, (eq_true c3), True]))⟩
  by_cases c4 : w = 3
  · skip
    refine v_tin (tgt := 70) h pX4_count_0 3 c4 rfl (by decide) (by decide) rfl rfl (v_aload_n h pX4_count_0 18 rfl 1 rfl rfl (v_iconst h pX4_count_0 19 rfl ki_3 ?_))
    refine v_callV h pX4_count_0 20 mX4_122 (As := [.int 3]) (st := []) (kX4_sumOf _ _ cI cS b E Kp Bf As Q n hW 3 (by omega)) v0B v0C (vEmb_rf _ _) 0 rfl rfl rfl rfl rfl rfl rfl (vDet_k ?_)
    show V K (mW cI b (E, Kp, Bf, As, Q)) 75 [(2, .int 0), (0, .ref (b 0)), (1, .int w)] [.int (sumS (E 5) n)]
    exact v_iret h pX4_count_0 21 hR hret rfl ((E, Kp, Bf, As, Q)) rfl ⟨vI (by simp [countS, c1, c2, c3, (eq_true c4)]), rfl, rfl, (qR_of (by simp [sel8, c1, c2, c3, (eq_true c4), True]))⟩
  by_cases c5 : w = 4
  · skip
    refine v_tin (tgt := 76) h pX4_count_0 3 c5 rfl (by decide) (by decide) rfl rfl (v_aload_n h pX4_count_0 22 rfl 1 rfl rfl (v_iconst h pX4_count_0 23 rfl ki_5 ?_))
    refine v_callV h pX4_count_0 24 mX4_122 (As := [.int 5]) (st := []) (kX4_sumOf _ _ cI cS b E Kp Bf As Q n hW 5 (by omega)) v0B v0C (vEmb_rf _ _) 0 rfl rfl rfl rfl rfl rfl rfl (vDet_k ?_)
    show V K (mW cI b (E, Kp, Bf, As, Q)) 81 [(2, .int 0), (0, .ref (b 0)), (1, .int w)] [.int (sumS (E 7) n)]
    exact v_iret h pX4_count_0 25 hR hret rfl ((E, Kp, Bf, As, Q)) rfl ⟨vI (by simp [countS, c1, c2, c3, c4, (eq_true c5)]), rfl, rfl, (qR_of (by simp [sel8, c1, c2, c3, c4, (eq_true c5), True]))⟩
  by_cases c6 : w = 5
  · skip
    refine v_tin (tgt := 82) h pX4_count_0 3 c6 rfl (by decide) (by decide) rfl rfl (v_aload_n h pX4_count_0 26 rfl 1 rfl rfl (v_get h pX4_count_0 27 fX4_193 0 rfl rfl rfl ?_))
    exact v_iret h pX4_count_0 28 hR hret rfl ((E, Kp, Bf, As, Q)) rfl ⟨vI (by simp [countS, c1, c2, c3, c4, c5, (eq_true c6)]), rfl, rfl, (qR_of (by simp [sel8, c1, c2, c3, c4, c5, (eq_true c6), True]))⟩
  by_cases c7 : w = 6
  · skip
    refine v_tin (tgt := 87) h pX4_count_0 3 c7 rfl (by decide) (by decide) rfl rfl (v_aload_n h pX4_count_0 29 rfl 1 rfl rfl (v_get h pX4_count_0 30 fX4_7 0 rfl rfl rfl (v_iconst h pX4_count_0 31 rfl ki_2 (v_iald h pX4_count_1 0 2 1 0 rfl rfl rfl rfl rfl (by omega) (v_top (w := .int (E 9 3)) (congrArg Value.int rfl) ?_)))))
    exact v_iret h pX4_count_1 1 hR hret rfl ((E, Kp, Bf, As, Q)) rfl ⟨vI (by simp [countS, c1, c2, c3, c4, c5, c6, (eq_true c7)]), rfl, rfl, (qR_of (by simp [sel8, c1, c2, c3, c4, c5, c6, (eq_true c7), True]))⟩
  by_cases c8 : w = 7
  · skip
    refine v_tin (tgt := 94) h pX4_count_0 3 c8 rfl (by decide) (by decide) rfl rfl (v_iconst h pX4_count_1 2 rfl ki_0 (v_istore_n h pX4_count_1 3 (lv' := [(3, .int 0), (2, .int 0), (0, .ref (b 0)), (1, .int w)]) rfl rfl hnL rfl rfl ?_))
    refine v_lv [2, 3, 1, 0] (lv' := [(0, .ref (b 0)), (1, .int w), (2, .int 0), (3, .int 0)]) rfl ?_
    have L9 : ∀ (m i9 : Nat), i9 ≤ 10 → 10 + 1 ≤ i9 + m → V K (mW cI b (E, Kp, Bf, As, Q)) 96 [(0, .ref (b 0)), (1, .int w), (2, .int (cntS (fun k => !decide (E 8 k = -1)) i9)), (3, .int (nI i9))] [] := by
      intro m
      induction m with
      | zero => exact fun i9 h1 h2 => absurd h2 (by omega)
      | succ m ih9 =>
        intro i9 hle9 hlt9
        refine v_iload_n h pX4_count_1 4 rfl 3 rfl rfl (v_bipush h pX4_count_1 5 rfl kb_10 ?_)
        refine v_ncmp_ge (a := i9) (b := 10) (tgt := 128) h pX4_count_1 6 rfl rfl (by omega) (by omega) (fun c10 => ?_) (fun c10 => ?_)
        · skip
          obtain rfl : 10 = i9 := by omega
          refine v_iload_n h pX4_count_1 22 rfl 2 rfl rfl ?_
          exact v_iret h pX4_count_1 23 hR hret rfl ((E, Kp, Bf, As, Q)) rfl ⟨vI (by simp [countS, c1, c2, c3, c4, c5, c6, c7, (eq_true c8), c10]), rfl, rfl, (qR_of (by simp [sel8, c1, c2, c3, c4, c5, c6, c7, (eq_true c8), c10, True]))⟩
        · skip
          refine v_iload_n h pX4_count_1 7 rfl 2 rfl rfl (v_aload_n h pX4_count_1 8 rfl 0 rfl rfl (v_get h pX4_count_1 9 fX4_7 0 rfl rfl rfl (v_bipush h pX4_count_1 10 rfl kb_64 (v_iload_n h pX4_count_1 11 rfl 3 rfl rfl (v_iaddn h pX4_count_1 12 64 i9 rfl ?_)))))
          refine v_iald h pX4_count_1 13 (64 + i9) 1 0 rfl rfl rfl rfl rfl (by omega) (v_top (w := .int (E 8 i9)) (congrArg Value.int (fl_s _ _)) ?_)
          refine v_if_ge2 (tgt := 119) h pX4_count_1 14 rfl rfl (fun c11 => ?_) (fun c11 => ?_)
          · skip
            rw [hW.spot (by omega)] at c11
            refine v_iconst h pX4_count_1 17 rfl ki_1 (v_iadd h pX4_count_1 18 rfl (v_istore_n h pX4_count_1 19 (lv' := [(2, .int ((cntS (fun k => !decide (E 8 k = -1)) i9) + 1)), (0, .ref (b 0)), (1, .int w), (3, .int (nI i9))]) rfl rfl hnL rfl rfl (v_iinc h pX4_count_1 20 (v := nI (i9 + 1)) (lv' := [(3, .int (nI (i9 + 1))), (2, .int ((cntS (fun k => !decide (E 8 k = -1)) i9) + 1)), (0, .ref (b 0)), (1, .int w)]) rfl 3 rfl hnL rfl rfl (nI_1 i9) (v_goto (tgt := 96) h pX4_count_1 21 rfl rfl (v_lv [2, 3, 1, 0] (lv' := [(0, .ref (b 0)), (1, .int w), (2, .int ((cntS (fun k => !decide (E 8 k = -1)) i9) + 1)), (3, .int (nI (i9 + 1)))]) rfl ?_)))))
            refine v_eql (congrArg (fun z : Int32 => ([(0, .ref (b 0)), (1, .int w), (2, .int z), (3, .int (nI (i9 + 1)))] : List (Nat × Value))) (by first | (simp [cntS, c1, c2, c3, c4, c5, c6, c7, c8, c10, c11]; done) | (simp [cntS, c1, c2, c3, c4, c5, c6, c7, c8, c10, c11]) : (cntS (fun k => !decide (E 8 k = -1)) i9) + 1 = cntS (fun k => !decide (E 8 k = -1)) (i9 + 1))) ?_
            exact ih9 (i9 + 1) (by omega) (by omega)
          · skip
            rw [hW.spot (by omega)] at c11
            refine v_iconst h pX4_count_1 15 rfl ki_0 (v_goto (tgt := 120) h pX4_count_1 16 rfl rfl (v_iadd h pX4_count_1 18 rfl (v_istore_n h pX4_count_1 19 (lv' := [(2, .int ((cntS (fun k => !decide (E 8 k = -1)) i9) + 0)), (0, .ref (b 0)), (1, .int w), (3, .int (nI i9))]) rfl rfl hnL rfl rfl (v_iinc h pX4_count_1 20 (v := nI (i9 + 1)) (lv' := [(3, .int (nI (i9 + 1))), (2, .int ((cntS (fun k => !decide (E 8 k = -1)) i9) + 0)), (0, .ref (b 0)), (1, .int w)]) rfl 3 rfl hnL rfl rfl (nI_1 i9) (v_goto (tgt := 96) h pX4_count_1 21 rfl rfl ?_)))))
            refine v_lv [2, 3, 1, 0] (lv' := [(0, .ref (b 0)), (1, .int w), (2, .int ((cntS (fun k => !decide (E 8 k = -1)) i9) + 0)), (3, .int (nI (i9 + 1)))]) rfl (v_eql (congrArg (fun z : Int32 => ([(0, .ref (b 0)), (1, .int w), (2, .int z), (3, .int (nI (i9 + 1)))] : List (Nat × Value))) (by first | (simp [cntS, c1, c2, c3, c4, c5, c6, c7, c8, c10, c11]; done) | (simp [cntS, c1, c2, c3, c4, c5, c6, c7, c8, c10, c11]) : (cntS (fun k => !decide (E 8 k = -1)) i9) + 0 = cntS (fun k => !decide (E 8 k = -1)) (i9 + 1))) ?_)
            exact ih9 (i9 + 1) (by omega) (by omega)
    exact L9 (10 + 1) 0 (by omega) (by omega)
  refine v_tout (tgt := 130) h pX4_count_0 3 rfl (sw_0_7 c1 c2 c3 c4 c5 c6 c7 c8) rfl (v_aload_n h pX4_count_1 24 rfl 1 rfl rfl (v_ldc h pX4_count_1 25 wm_104 rfl ?_))
  refine v_callV h pX4_count_1 26 mX4_42 (As := [.int (-1000001)]) (st := []) (kX4_finds _ _ cI cS b E Kp Bf As Q 0 (by decide) (-1000001) (by decide)) v0B v0C (vEmb_rf _ _) 0 rfl rfl rfl rfl rfl rfl rfl (vDet_k ?_)
  show V K (mW cI b (E, Kp, Bf, As, fndS Q 0)) 136 [(2, .int 0), (0, .ref (b 0)), (1, .int w)] [.int (-1000001)]
  generalize hS12 : fndS Q 0 = S12
  exact v_iret h pX4_count_1 27 hR hret rfl ((E, Kp, Bf, As, S12)) rfl ⟨vI (by simp [countS, c1, c2, c3, c4, c5, c6, c7, c8]), rfl, rfl, (qR_of (by simp [sel8, c1, c2, c3, c4, c5, c6, c7, c8, hS12]))⟩
set_option maxHeartbeats 300000 in
set_option maxRecDepth 100000 in
theorem kX4_status (l : Launch) (D : va_G) (cI cS : ClassId) (b : Nat → Nat) (E Kp Bf As Q : Nat → Nat → Int32) (n : Nat) (hW : Wf E n) (yb : Nat) (hY : bd (E 9 2) yb) (hyb : yb ≤ 99000) (w : Int32) : vMet l D (vT cI cS) yX4_status cX4_status 2 (some .int) 1 25 (mW cI b) v0 [.ref (b 0), .int w] (E, Kp, Bf, As, Q) (mPost (some (.int (cond (inB w (-1) 6) (Q 0 (ix (w + 1))) ((-1000001))))) (E) (Kp) (cond (inB w (-1) 6) (Q) (fndS Q 0))) := by
  refine vMet_of (by decide) rfl ?_
  intro K hl hD hnL hret h hR hEx
  subst hl hD
  show V K (mW cI b (E, Kp, Bf, As, Q)) 0 [(0, .ref (b 0)), (1, .int w)] []
  have hn8 := hW.1
  refine v_iload_n h pX4_status_0 0 rfl 1 rfl rfl (v_i2l h pX4_status_0 1 rfl (v_ldc2 h pX4_status_0 2 wm_1004 rfl (v_top (w := .long ((-1 : Int32).toInt64)) (by decide) (v_ldc2 h pX4_status_0 3 wm_170 rfl (v_top (w := .long (nI 6).toInt64) (kL 6 _ (by decide)) ?_)))))
  refine v_callS h pX4_status_0 4 mX4_50 (As := [.long w.toInt64, .long ((-1 : Int32).toInt64), .long ((nI 6).toInt64)]) (st := []) (kX4_isIn _ _ cI cS w (-1) 6) v0B v0C (vEmb_u _) rfl rfl rfl rfl rfl (vDet_k ?_)
  show V K (mW cI b (E, Kp, Bf, As, Q)) 11 [(0, .ref (b 0)), (1, .int w)] [.int (bI (inB w (-1) 6))]
  refine v_bif_eq (tgt := 25) h pX4_status_0 5 rfl rfl (fun c1 => ?_) (fun c1 => ?_)
  · skip
    refine v_aload_n h pX4_status_0 13 rfl 0 rfl rfl (v_ldc h pX4_status_0 14 wm_104 rfl ?_)
    refine v_callV h pX4_status_0 15 mX4_42 (As := [.int (-1000001)]) (st := []) (kX4_finds _ _ cI cS b E Kp Bf As Q 0 (by decide) (-1000001) (by decide)) v0B v0C (vEmb_rf _ _) 0 rfl rfl rfl rfl rfl rfl rfl (vDet_k ?_)
    show V K (mW cI b (E, Kp, Bf, As, fndS Q 0)) 31 [(0, .ref (b 0)), (1, .int w)] [.int (-1000001)]
    generalize hS2 : fndS Q 0 = S2
    exact v_iret h pX4_status_0 16 hR hret rfl ((E, Kp, Bf, As, S2)) rfl ⟨vI (by simp [c1]), rfl, rfl, (qR_of (by simp [c1, hS2]))⟩
  · skip
    obtain ⟨e_s, l_s⟩ := st_t c1
    refine v_aload_n h pX4_status_0 6 rfl 0 rfl rfl (v_get h pX4_status_0 7 fX4_22 0 rfl rfl rfl (v_iload_n h pX4_status_0 8 rfl 1 rfl rfl (v_iconst h pX4_status_0 9 rfl ki_1 (v_iadd h pX4_status_0 10 rfl (v_iald h pX4_status_0 11 (ix (w + 1)) 5 0 rfl rfl rfl rfl e_s (by omega) ?_)))))
    refine v_goto (tgt := 31) h pX4_status_0 12 rfl rfl ?_
    exact v_iret h pX4_status_0 16 hR hret rfl ((E, Kp, Bf, As, Q)) rfl ⟨vI (by simp [c1]), rfl, rfl, (qR_of (by simp [c1, True]))⟩
set_option maxHeartbeats 300000 in
set_option maxRecDepth 100000 in
theorem kX4_hold (l : Launch) (D : va_G) (cI cS : ClassId) (b : Nat → Nat) (E Kp Bf As Q : Nat → Nat → Int32) (n : Nat) (hW : Wf E n) (yb : Nat) (hY : bd (E 9 2) yb) (hyb : yb ≤ 99000) (s y : Int32) : vMet l D (vT cI cS) yX4_hold cX4_hold 3 (some .int) 1 25 (mW cI b) v0 [.ref (b 0), .int s, .int y] (E, Kp, Bf, As, Q) (mPost (some (.int (cond (inB s 0 9 && (decide (y = -1) || oyB y n)) (1) ((-1000001))))) (cond (inB s 0 9 && (decide (y = -1) || oyB y n)) (up E 8 (ix s) y) (E)) (Kp) (cond (inB s 0 9 && (decide (y = -1) || oyB y n)) (Q) (fndS Q 0))) := by
  refine vMet_of (by decide) rfl ?_
  intro K hl hD hnL hret h hR hEx
  subst hl hD
  show V K (mW cI b (E, Kp, Bf, As, Q)) 0 [(0, .ref (b 0)), (1, .int s), (2, .int y)] []
  have hn8 := hW.1
  refine v_iload_n h pX4_hold_0 0 rfl 1 rfl rfl (v_i2l h pX4_hold_0 1 rfl (v_lconst (v := (nI 0).toInt64) h pX4_hold_0 2 rfl kl_0 (v_ldc2 h pX4_hold_0 3 wm_103 rfl (v_top (w := .long (nI 9).toInt64) (kL 9 _ (by decide)) ?_))))
  refine v_callS h pX4_hold_0 4 mX4_50 (As := [.long s.toInt64, .long ((nI 0).toInt64), .long ((nI 9).toInt64)]) (st := []) (kX4_isIn _ _ cI cS s 0 9) v0B v0C (vEmb_u _) rfl rfl rfl rfl rfl (vDet_k ?_)
  show V K (mW cI b (E, Kp, Bf, As, Q)) 9 [(0, .ref (b 0)), (1, .int s), (2, .int y)] [.int (bI (inB s 0 9))]
  refine v_bif_eq (tgt := 25) h pX4_hold_0 5 rfl rfl (fun c1 => ?_) (fun c1 => ?_)
  · skip
    refine v_aload_n h pX4_hold_0 13 rfl 0 rfl rfl (v_ldc h pX4_hold_0 14 wm_104 rfl ?_)
    refine v_callV h pX4_hold_0 15 mX4_42 (As := [.int (-1000001)]) (st := []) (kX4_finds _ _ cI cS b E Kp Bf As Q 0 (by decide) (-1000001) (by decide)) v0B v0C (vEmb_rf _ _) 0 rfl rfl rfl rfl rfl rfl rfl (vDet_k ?_)
    show V K (mW cI b (E, Kp, Bf, As, fndS Q 0)) 31 [(0, .ref (b 0)), (1, .int s), (2, .int y)] [.int (-1000001)]
    generalize hS2 : fndS Q 0 = S2
    exact v_iret h pX4_hold_0 16 hR hret rfl ((E, Kp, Bf, As, S2)) rfl ⟨vI (by simp [c1]), (by first | (simp [c1, hS2]; done) | (simp [c1, hS2, *])), rfl, (qR_of (by first | (simp [c1, hS2]; done) | (simp [c1, hS2, *])))⟩
  · skip
    obtain ⟨e_s, l_s⟩ := inB_t 9 rfl (by decide) c1
    refine v_iload_n h pX4_hold_0 6 rfl 2 rfl rfl (v_iconst h pX4_hold_0 7 rfl ki_m1 ?_)
    refine v_icmp_eq (tgt := 32) h pX4_hold_0 8 rfl rfl (fun c3 => ?_) (fun c3 => ?_)
    · skip
      refine v_aload_n h pX4_hold_0 17 rfl 0 rfl rfl (v_get h pX4_hold_0 18 fX4_7 0 rfl rfl rfl (v_bipush h pX4_hold_0 19 rfl kb_64 (v_iload_n h pX4_hold_0 20 rfl 1 rfl rfl (v_top (w := .int (nI (ix s))) (congrArg Value.int e_s) (v_iaddn h pX4_hold_0 21 64 (ix s) rfl ?_)))))
      refine v_iload_n h pX4_hold_0 22 rfl 2 rfl rfl (v_iast h pX4_hold_0 23 (64 + ix s) 1 0 (ws' := mW cI b (up E 8 (ix s) y, Kp, Bf, As, Q)) rfl rfl rfl rfl rfl (by omega) (mW_s (64 + ix s) 8 (ix s) (flR_s _) (flI_s _)) (v_iconst h pX4_hold_0 24 rfl ki_1 ?_))
      exact v_iret h pX4_hold_0 25 hR hret rfl ((up E 8 (ix s) y, Kp, Bf, As, Q)) rfl ⟨vI (by simp [c1, (eq_true c3)]), (by first | (simp [c1, (eq_true c3), True]; done) | (simp [c1, (eq_true c3), True, *])), rfl, (qR_of (by first | (simp [c1, (eq_true c3), True]; done) | (simp [c1, (eq_true c3), True, *])))⟩
    · skip
      refine v_aload_n h pX4_hold_0 9 rfl 0 rfl rfl (v_iload_n h pX4_hold_0 10 rfl 2 rfl rfl ?_)
      refine v_callV h pX4_hold_0 11 mX4_88 (As := [.int y]) (st := []) (kX4_isOyster _ _ cI cS b E Kp Bf As Q n hW.2.1 y) v0B v0C (vEmb_rf _ _) 0 rfl rfl rfl rfl rfl rfl rfl (vDet_k ?_)
      show V K (mW cI b (E, Kp, Bf, As, Q)) 22 [(0, .ref (b 0)), (1, .int s), (2, .int y)] [.int (bI (oyB y n))]
      refine v_bif_ne (tgt := 32) h pX4_hold_0 12 rfl rfl (fun c4 => ?_) (fun c4 => ?_)
      · skip
        refine v_aload_n h pX4_hold_0 17 rfl 0 rfl rfl (v_get h pX4_hold_0 18 fX4_7 0 rfl rfl rfl (v_bipush h pX4_hold_0 19 rfl kb_64 (v_iload_n h pX4_hold_0 20 rfl 1 rfl rfl (v_top (w := .int (nI (ix s))) (congrArg Value.int e_s) (v_iaddn h pX4_hold_0 21 64 (ix s) rfl ?_)))))
        refine v_iload_n h pX4_hold_0 22 rfl 2 rfl rfl (v_iast h pX4_hold_0 23 (64 + ix s) 1 0 (ws' := mW cI b (up E 8 (ix s) y, Kp, Bf, As, Q)) rfl rfl rfl rfl rfl (by omega) (mW_s (64 + ix s) 8 (ix s) (flR_s _) (flI_s _)) (v_iconst h pX4_hold_0 24 rfl ki_1 ?_))
        exact v_iret h pX4_hold_0 25 hR hret rfl ((up E 8 (ix s) y, Kp, Bf, As, Q)) rfl ⟨vI (by simp [c1, c3, c4]), (by first | (simp [c1, c3, c4, True]; done) | (simp [c1, c3, c4, True, *])), rfl, (qR_of (by first | (simp [c1, c3, c4, True]; done) | (simp [c1, c3, c4, True, *])))⟩
      · skip
        refine v_aload_n h pX4_hold_0 13 rfl 0 rfl rfl (v_ldc h pX4_hold_0 14 wm_104 rfl ?_)
        refine v_callV h pX4_hold_0 15 mX4_42 (As := [.int (-1000001)]) (st := []) (kX4_finds _ _ cI cS b E Kp Bf As Q 0 (by decide) (-1000001) (by decide)) v0B v0C (vEmb_rf _ _) 0 rfl rfl rfl rfl rfl rfl rfl (vDet_k ?_)
        show V K (mW cI b (E, Kp, Bf, As, fndS Q 0)) 31 [(0, .ref (b 0)), (1, .int s), (2, .int y)] [.int (-1000001)]
        generalize hS5 : fndS Q 0 = S5
        exact v_iret h pX4_hold_0 16 hR hret rfl ((E, Kp, Bf, As, S5)) rfl ⟨vI (by simp [c1, c3, c4]), (by first | (simp [c1, c3, c4, hS5]; done) | (simp [c1, c3, c4, hS5, *])), rfl, (qR_of (by first | (simp [c1, c3, c4, hS5]; done) | (simp [c1, c3, c4, hS5, *])))⟩
set_option maxHeartbeats 300000 in
set_option maxRecDepth 100000 in
theorem kX4_isUnder (l : Launch) (D : va_G) (cI cS : ClassId)   (own kd : Int32) : vDet l D (vT cI cS) yX4_isUnder cX4_isUnder 2 (some .boolean) 0 0 (fun _ : Unit => ([] : va_W)) [.int own, .int kd] () (some (.int (bI (underB own kd)))) (()) := by
  refine vMet_of (by decide) rfl ?_
  intro K hl hD hnL hret h hR hEx
  subst hl hD
  show V K (([] : va_W)) 0 [(0, .int own), (1, .int kd)] []
  refine v_iload_n h pX4_isUnder_0 0 rfl 1 rfl rfl ?_
  refine v_if_eq (tgt := 45) h pX4_isUnder_0 1 rfl rfl (fun c1 => ?_) (fun c1 => ?_)
  · skip
    refine v_iconst h pX4_isUnder_0 26 rfl ki_1 (v_goto (tgt := 50) h pX4_isUnder_0 27 rfl rfl ?_)
    exact v_zret h pX4_isUnder_0 29 (Or.inr rfl) hR hret rfl (()) rfl ⟨vI (by simp [underB, bI, (eq_true c1)]), rfl⟩
  · skip
    refine v_iload_n h pX4_isUnder_0 2 rfl 0 rfl rfl (v_iload_n h pX4_isUnder_0 3 rfl 1 rfl rfl ?_)
    refine v_icmp_eq (tgt := 45) h pX4_isUnder_0 4 rfl rfl (fun c2 => ?_) (fun c2 => ?_)
    · skip
      refine v_iconst h pX4_isUnder_0 26 rfl ki_1 (v_goto (tgt := 50) h pX4_isUnder_0 27 rfl rfl ?_)
      exact v_zret h pX4_isUnder_0 29 (Or.inr rfl) hR hret rfl (()) rfl ⟨vI (by simp [underB, bI, c1, (eq_true c2)]), rfl⟩
    · skip
      refine v_iload_n h pX4_isUnder_0 5 rfl 1 rfl rfl (v_iconst h pX4_isUnder_0 6 rfl ki_2 ?_)
      refine v_icmp_ne (tgt := 24) h pX4_isUnder_0 7 rfl rfl (fun c3 => ?_) (fun c3 => ?_)
      · skip
        refine v_iload_n h pX4_isUnder_0 14 rfl 1 rfl rfl (v_iconst h pX4_isUnder_0 15 rfl ki_3 ?_)
        refine v_icmp_ne (tgt := 34) h pX4_isUnder_0 16 rfl rfl (fun c4 => ?_) (fun c4 => ?_)
        · skip
          refine v_iload_n h pX4_isUnder_0 20 rfl 1 rfl rfl (v_iconst h pX4_isUnder_0 21 rfl ki_1 ?_)
          refine v_icmp_ne (tgt := 49) h pX4_isUnder_0 22 rfl rfl (fun c5 => ?_) (fun c5 => ?_)
          · skip
            refine v_iconst h pX4_isUnder_0 28 rfl ki_0 ?_
            exact v_zret h pX4_isUnder_0 29 (Or.inl rfl) hR hret rfl (()) rfl ⟨vI (by simp [underB, bI, c1, c2, c3, c4, c5]), rfl⟩
          · skip
            refine v_iload_n h pX4_isUnder_0 23 rfl 0 rfl rfl (v_bipush h pX4_isUnder_0 24 rfl kb_6 ?_)
            refine v_icmp_ne (tgt := 49) h pX4_isUnder_0 25 rfl rfl (fun c6 => ?_) (fun c6 => ?_)
            · skip
              refine v_iconst h pX4_isUnder_0 28 rfl ki_0 ?_
              exact v_zret h pX4_isUnder_0 29 (Or.inl rfl) hR hret rfl (()) rfl ⟨vI (by simp [underB, bI, c1, c2, c3, c4, (eq_true c5), c6]), rfl⟩
            · skip
              refine v_iconst h pX4_isUnder_0 26 rfl ki_1 (v_goto (tgt := 50) h pX4_isUnder_0 27 rfl rfl ?_)
              exact v_zret h pX4_isUnder_0 29 (Or.inr rfl) hR hret rfl (()) rfl ⟨vI (by simp [underB, bI, c1, c2, c3, c4, (eq_true c5), (eq_true c6)]), rfl⟩
        · skip
          refine v_iload_n h pX4_isUnder_0 17 rfl 0 rfl rfl (v_iconst h pX4_isUnder_0 18 rfl ki_4 ?_)
          refine v_icmp_eq (tgt := 45) h pX4_isUnder_0 19 rfl rfl (fun c7 => ?_) (fun c7 => ?_)
          · skip
            refine v_iconst h pX4_isUnder_0 26 rfl ki_1 (v_goto (tgt := 50) h pX4_isUnder_0 27 rfl rfl ?_)
            exact v_zret h pX4_isUnder_0 29 (Or.inr rfl) hR hret rfl (()) rfl ⟨vI (by simp [underB, bI, c1, c2, c3, (eq_true c4), (eq_true c7)]), rfl⟩
          · skip
            refine v_iload_n h pX4_isUnder_0 20 rfl 1 rfl rfl (v_iconst h pX4_isUnder_0 21 rfl ki_1 ?_)
            refine v_icmp_ne (tgt := 49) h pX4_isUnder_0 22 rfl rfl (fun c8 => ?_) (fun c8 => ?_)
            · skip
              refine v_iconst h pX4_isUnder_0 28 rfl ki_0 ?_
              exact v_zret h pX4_isUnder_0 29 (Or.inl rfl) hR hret rfl (()) rfl ⟨vI (by simp [underB, bI, c1, c2, c3, (eq_true c4), c7, c8]), rfl⟩
            · skip
              refine v_iload_n h pX4_isUnder_0 23 rfl 0 rfl rfl (v_bipush h pX4_isUnder_0 24 rfl kb_6 ?_)
              refine v_icmp_ne (tgt := 49) h pX4_isUnder_0 25 rfl rfl (fun c9 => ?_) (fun c9 => ?_)
              · skip
                refine v_iconst h pX4_isUnder_0 28 rfl ki_0 ?_
                exact v_zret h pX4_isUnder_0 29 (Or.inl rfl) hR hret rfl (()) rfl ⟨vI (by simp [underB, bI, c1, c2, c3, (eq_true c4), c7, (eq_true c8), c9]), rfl⟩
              · skip
                refine v_iconst h pX4_isUnder_0 26 rfl ki_1 (v_goto (tgt := 50) h pX4_isUnder_0 27 rfl rfl ?_)
                exact v_zret h pX4_isUnder_0 29 (Or.inr rfl) hR hret rfl (()) rfl ⟨vI (by simp [underB, bI, c1, c2, c3, (eq_true c4), c7, (eq_true c8), (eq_true c9)]), rfl⟩
      · skip
        refine v_iload_n h pX4_isUnder_0 8 rfl 0 rfl rfl (v_iconst h pX4_isUnder_0 9 rfl ki_3 ?_)
        refine v_icmp_eq (tgt := 45) h pX4_isUnder_0 10 rfl rfl (fun c10 => ?_) (fun c10 => ?_)
        · skip
          refine v_iconst h pX4_isUnder_0 26 rfl ki_1 (v_goto (tgt := 50) h pX4_isUnder_0 27 rfl rfl ?_)
          exact v_zret h pX4_isUnder_0 29 (Or.inr rfl) hR hret rfl (()) rfl ⟨vI (by simp [underB, bI, c1, c2, (eq_true c3), (eq_true c10)]), rfl⟩
        · skip
          refine v_iload_n h pX4_isUnder_0 11 rfl 0 rfl rfl (v_iconst h pX4_isUnder_0 12 rfl ki_4 ?_)
          refine v_icmp_eq (tgt := 45) h pX4_isUnder_0 13 rfl rfl (fun c11 => ?_) (fun c11 => ?_)
          · skip
            refine v_iconst h pX4_isUnder_0 26 rfl ki_1 (v_goto (tgt := 50) h pX4_isUnder_0 27 rfl rfl ?_)
            exact v_zret h pX4_isUnder_0 29 (Or.inr rfl) hR hret rfl (()) rfl ⟨vI (by simp [underB, bI, c1, c2, (eq_true c3), c10, (eq_true c11)]), rfl⟩
          · skip
            refine v_iload_n h pX4_isUnder_0 14 rfl 1 rfl rfl (v_iconst h pX4_isUnder_0 15 rfl ki_3 ?_)
            refine v_icmp_ne (tgt := 34) h pX4_isUnder_0 16 rfl rfl (fun c12 => ?_) (fun c12 => ?_)
            · skip
              refine v_iload_n h pX4_isUnder_0 20 rfl 1 rfl rfl (v_iconst h pX4_isUnder_0 21 rfl ki_1 ?_)
              refine v_icmp_ne (tgt := 49) h pX4_isUnder_0 22 rfl rfl (fun c13 => ?_) (fun c13 => ?_)
              · skip
                refine v_iconst h pX4_isUnder_0 28 rfl ki_0 ?_
                exact v_zret h pX4_isUnder_0 29 (Or.inl rfl) hR hret rfl (()) rfl ⟨vI (by simp [underB, bI, c1, c2, (eq_true c3), c10, c11, c12, c13]), rfl⟩
              · skip
                refine v_iload_n h pX4_isUnder_0 23 rfl 0 rfl rfl (v_bipush h pX4_isUnder_0 24 rfl kb_6 ?_)
                refine v_icmp_ne (tgt := 49) h pX4_isUnder_0 25 rfl rfl (fun c14 => ?_) (fun c14 => ?_)
                · skip
                  refine v_iconst h pX4_isUnder_0 28 rfl ki_0 ?_
                  exact v_zret h pX4_isUnder_0 29 (Or.inl rfl) hR hret rfl (()) rfl ⟨vI (by simp [underB, bI, c1, c2, (eq_true c3), c10, c11, c12, (eq_true c13), c14]), rfl⟩
                · skip
                  refine v_iconst h pX4_isUnder_0 26 rfl ki_1 (v_goto (tgt := 50) h pX4_isUnder_0 27 rfl rfl ?_)
                  exact v_zret h pX4_isUnder_0 29 (Or.inr rfl) hR hret rfl (()) rfl ⟨vI (by simp [underB, bI, c1, c2, (eq_true c3), c10, c11, c12, (eq_true c13), (eq_true c14)]), rfl⟩
            · skip
              refine v_iload_n h pX4_isUnder_0 17 rfl 0 rfl rfl (v_iconst h pX4_isUnder_0 18 rfl ki_4 ?_)
              refine v_icmp_eq (tgt := 45) h pX4_isUnder_0 19 rfl rfl (fun c15 => (by first | exact absurd c15 c11 | exact absurd c11 c15 | (exfalso; omega))) (fun c15 => ?_)
              refine v_iload_n h pX4_isUnder_0 20 rfl 1 rfl rfl (v_iconst h pX4_isUnder_0 21 rfl ki_1 ?_)
              refine v_icmp_ne (tgt := 49) h pX4_isUnder_0 22 rfl rfl (fun c16 => ?_) (fun c16 => ?_)
              · skip
                refine v_iconst h pX4_isUnder_0 28 rfl ki_0 ?_
                exact v_zret h pX4_isUnder_0 29 (Or.inl rfl) hR hret rfl (()) rfl ⟨vI (by simp [underB, bI, c1, c2, (eq_true c3), c10, c11, (eq_true c12), c16]), rfl⟩
              · skip
                refine v_iload_n h pX4_isUnder_0 23 rfl 0 rfl rfl (v_bipush h pX4_isUnder_0 24 rfl kb_6 ?_)
                refine v_icmp_ne (tgt := 49) h pX4_isUnder_0 25 rfl rfl (fun c17 => ?_) (fun c17 => ?_)
                · skip
                  refine v_iconst h pX4_isUnder_0 28 rfl ki_0 ?_
                  exact v_zret h pX4_isUnder_0 29 (Or.inl rfl) hR hret rfl (()) rfl ⟨vI (by simp [underB, bI, c1, c2, (eq_true c3), c10, c11, (eq_true c12), (eq_true c16), c17]), rfl⟩
                · skip
                  refine v_iconst h pX4_isUnder_0 26 rfl ki_1 (v_goto (tgt := 50) h pX4_isUnder_0 27 rfl rfl ?_)
                  exact v_zret h pX4_isUnder_0 29 (Or.inr rfl) hR hret rfl (()) rfl ⟨vI (by simp [underB, bI, c1, c2, (eq_true c3), c10, c11, (eq_true c12), (eq_true c16), (eq_true c17)]), rfl⟩
set_option maxHeartbeats 300000 in
set_option maxRecDepth 100000 in
theorem kX4_as (l : Launch) (D : va_G) (cI cS : ClassId) (b : Nat → Nat) (E Kp Bf As Q : Nat → Nat → Int32) (n : Nat) (hW : Wf E n) (yb : Nat) (hY : bd (E 9 2) yb) (hyb : yb ≤ 99000) (s kd : Int32) : vMet l D (vT cI cS) yX4_as cX4_as 4 (some .int) 1 25 (mW cI b) v0 [.ref (b 0), .int s, .int kd] (E, Kp, Bf, As, Q) (mPost (some (.int (cond (inB s 0 9 && inB kd 0 6) (asS E (ix s) kd) ((-1000001))))) (E) (Kp) (cond (inB s 0 9 && inB kd 0 6) (asF E (ix s) kd Q) (fndS Q 0))) := by
  refine vMet_of (by decide) rfl ?_
  intro K hl hD hnL hret h hR hEx
  subst hl hD
  show V K (mW cI b (E, Kp, Bf, As, Q)) 0 [(0, .ref (b 0)), (1, .int s), (2, .int kd)] []
  have hn8 := hW.1
  refine v_iload_n h pX4_as_0 0 rfl 1 rfl rfl (v_i2l h pX4_as_0 1 rfl (v_lconst (v := (nI 0).toInt64) h pX4_as_0 2 rfl kl_0 (v_ldc2 h pX4_as_0 3 wm_103 rfl (v_top (w := .long (nI 9).toInt64) (kL 9 _ (by decide)) ?_))))
  refine v_callS h pX4_as_0 4 mX4_50 (As := [.long s.toInt64, .long ((nI 0).toInt64), .long ((nI 9).toInt64)]) (st := []) (kX4_isIn _ _ cI cS s 0 9) v0B v0C (vEmb_u _) rfl rfl rfl rfl rfl (vDet_k ?_)
  show V K (mW cI b (E, Kp, Bf, As, Q)) 9 [(0, .ref (b 0)), (1, .int s), (2, .int kd)] [.int (bI (inB s 0 9))]
  refine v_bif_eq (tgt := 24) h pX4_as_0 5 rfl rfl (fun c1 => ?_) (fun c1 => ?_)
  · skip
    refine v_aload_n h pX4_as_0 12 rfl 0 rfl rfl (v_ldc h pX4_as_0 13 wm_104 rfl ?_)
    refine v_callV h pX4_as_0 14 mX4_42 (As := [.int (-1000001)]) (st := []) (kX4_finds _ _ cI cS b E Kp Bf As Q 0 (by decide) (-1000001) (by decide)) v0B v0C (vEmb_rf _ _) 0 rfl rfl rfl rfl rfl rfl rfl (vDet_k ?_)
    show V K (mW cI b (E, Kp, Bf, As, fndS Q 0)) 30 [(0, .ref (b 0)), (1, .int s), (2, .int kd)] [.int (-1000001)]
    generalize hS2 : fndS Q 0 = S2
    exact v_iret h pX4_as_0 15 hR hret rfl ((E, Kp, Bf, As, S2)) rfl ⟨vI (by simp [asS, c1]), rfl, rfl, (qR_of (by simp [asF, c1, hS2]))⟩
  · skip
    obtain ⟨e_s, l_s⟩ := inB_t 9 rfl (by decide) c1
    refine v_iload_n h pX4_as_0 6 rfl 2 rfl rfl (v_i2l h pX4_as_0 7 rfl (v_lconst (v := (nI 0).toInt64) h pX4_as_0 8 rfl kl_0 (v_ldc2 h pX4_as_0 9 wm_170 rfl (v_top (w := .long (nI 6).toInt64) (kL 6 _ (by decide)) ?_))))
    refine v_callS h pX4_as_0 10 mX4_50 (As := [.long kd.toInt64, .long ((nI 0).toInt64), .long ((nI 6).toInt64)]) (st := []) (kX4_isIn _ _ cI cS kd 0 6) v0B v0C (vEmb_u _) rfl rfl rfl rfl rfl (vDet_k ?_)
    show V K (mW cI b (E, Kp, Bf, As, Q)) 21 [(0, .ref (b 0)), (1, .int s), (2, .int kd)] [.int (bI (inB kd 0 6))]
    refine v_bif_ne (tgt := 31) h pX4_as_0 11 rfl rfl (fun c3 => ?_) (fun c3 => ?_)
    · skip
      refine v_aload_n h pX4_as_0 16 rfl 0 rfl rfl (v_get h pX4_as_0 17 fX4_7 0 rfl rfl rfl (v_bipush h pX4_as_0 18 rfl kb_64 (v_iload_n h pX4_as_0 19 rfl 1 rfl rfl (v_top (w := .int (nI (ix s))) (congrArg Value.int e_s) (v_iaddn h pX4_as_0 20 64 (ix s) rfl ?_)))))
      refine v_iald h pX4_as_0 21 (64 + ix s) 1 0 rfl rfl rfl rfl rfl (by omega) (v_top (w := .int (E 8 (ix s))) (congrArg Value.int (fl_s _ _)) (v_istore_n h pX4_as_0 22 (lv' := [(3, .int (E 8 (ix s))), (0, .ref (b 0)), (1, .int s), (2, .int kd)]) rfl rfl hnL rfl rfl (v_iload_n h pX4_as_0 23 rfl 0 rfl rfl ?_)))
      refine v_if_ge2 (tgt := 53) h pX4_as_0 24 rfl rfl (fun c4 => ?_) (fun c4 => ?_)
      · skip
        rw [hW.spot (by omega)] at c4
        obtain ⟨e_h, l_h⟩ := spot_ix hW (k := ix s) (by omega) c4
        refine v_aload_n h pX4_as_0 29 rfl 1 rfl rfl (v_iload_n h pX4_as_0 30 rfl 0 rfl rfl ?_)
        refine v_top (w := .int (nI (ix (E 8 (ix s))))) (congrArg Value.int e_h) (v_iconst h pX4_as_0 31 rfl ki_0 ?_)
        refine v_callV h pX4_as_1 0 mX4_64 (As := [.int (nI (ix (E 8 (ix s)))), .int 0]) (st := []) (kX4_its _ _ cI cS b E Kp Bf As Q (ix (E 8 (ix s))) 0 (by omega) (by omega)) v0B v0C (vEmb_rf _ _) 0 rfl rfl rfl rfl rfl rfl rfl (vDet_k ?_)
        show V K (mW cI b (E, Kp, Bf, As, Q)) 59 [(3, .int (E 8 (ix s))), (0, .ref (b 0)), (1, .int s), (2, .int kd)] [.int (E 2 (ix (E 8 (ix s))))]
        refine v_iload_n h pX4_as_1 1 rfl 3 rfl rfl ?_
        refine v_callS h pX4_as_1 2 mX4_265 (As := [.int (E 2 (ix (E 8 (ix s)))), .int kd]) (st := []) (kX4_isUnder _ _ cI cS (E 2 (ix (E 8 (ix s)))) kd) v0B v0C (vEmb_u _) rfl rfl rfl rfl rfl (vDet_k ?_)
        show V K (mW cI b (E, Kp, Bf, As, Q)) 63 [(3, .int (E 8 (ix s))), (0, .ref (b 0)), (1, .int s), (2, .int kd)] [.int (bI (underB (E 2 (ix (E 8 (ix s)))) kd))]
        refine v_bif_eq (tgt := 70) h pX4_as_1 3 rfl rfl (fun c5 => ?_) (fun c5 => ?_)
        · skip
          refine v_aload_n h pX4_as_1 6 rfl 1 rfl rfl (v_ldcw h pX4_as_1 7 wm_899 rfl ?_)
          refine v_callV h pX4_as_1 8 mX4_42 (As := [.int (-1000003)]) (st := []) (kX4_finds _ _ cI cS b E Kp Bf As Q 2 (by decide) (-1000003) (by decide)) v0B v0C (vEmb_rf _ _) 0 rfl rfl rfl rfl rfl rfl rfl (vDet_k ?_)
          show V K (mW cI b (E, Kp, Bf, As, fndS Q 2)) 77 [(3, .int (E 8 (ix s))), (0, .ref (b 0)), (1, .int s), (2, .int kd)] [.int (-1000003)]
          generalize hS6 : fndS Q 2 = S6
          exact v_iret h pX4_as_1 9 hR hret rfl ((E, Kp, Bf, As, S6)) rfl ⟨vI (by simp [asS, c1, c3, c4, c5]), rfl, rfl, (qR_of (by simp [asF, c1, c3, c4, c5, hS6]))⟩
        · skip
          refine v_iload_n h pX4_as_1 4 rfl 0 rfl rfl (v_goto (tgt := 77) h pX4_as_1 5 rfl rfl ?_)
          exact v_iret h pX4_as_1 9 hR hret rfl ((E, Kp, Bf, As, Q)) rfl ⟨vI (by simp [asS, c1, c3, c4, c5]), rfl, rfl, (qR_of (by simp [asF, c1, c3, c4, c5, True]))⟩
      · skip
        rw [hW.spot (by omega)] at c4
        refine v_aload_n h pX4_as_0 25 rfl 1 rfl rfl (v_ldcw h pX4_as_0 26 wm_589 rfl ?_)
        refine v_callV h pX4_as_0 27 mX4_42 (As := [.int (-1000006)]) (st := []) (kX4_finds _ _ cI cS b E Kp Bf As Q 5 (by decide) (-1000006) (by decide)) v0B v0C (vEmb_rf _ _) 0 rfl rfl rfl rfl rfl rfl rfl (vDet_k ?_)
        show V K (mW cI b (E, Kp, Bf, As, fndS Q 5)) 52 [(3, .int (E 8 (ix s))), (0, .ref (b 0)), (1, .int s), (2, .int kd)] [.int (-1000006)]
        generalize hS7 : fndS Q 5 = S7
        exact v_iret h pX4_as_0 28 hR hret rfl ((E, Kp, Bf, As, S7)) rfl ⟨vI (by simp [asS, c1, c3, (eq_true c4)]), rfl, rfl, (qR_of (by simp [asF, c1, c3, (eq_true c4), hS7]))⟩
    · skip
      refine v_aload_n h pX4_as_0 12 rfl 0 rfl rfl (v_ldc h pX4_as_0 13 wm_104 rfl ?_)
      refine v_callV h pX4_as_0 14 mX4_42 (As := [.int (-1000001)]) (st := []) (kX4_finds _ _ cI cS b E Kp Bf As Q 0 (by decide) (-1000001) (by decide)) v0B v0C (vEmb_rf _ _) 0 rfl rfl rfl rfl rfl rfl rfl (vDet_k ?_)
      show V K (mW cI b (E, Kp, Bf, As, fndS Q 0)) 30 [(0, .ref (b 0)), (1, .int s), (2, .int kd)] [.int (-1000001)]
      generalize hS8 : fndS Q 0 = S8
      exact v_iret h pX4_as_0 15 hR hret rfl ((E, Kp, Bf, As, S8)) rfl ⟨vI (by simp [asS, c1, c3]), rfl, rfl, (qR_of (by simp [asF, c1, c3, hS8]))⟩
set_option maxHeartbeats 300000 in
set_option maxRecDepth 100000 in
theorem kX4_wants (l : Launch) (D : va_G) (cI cS : ClassId) (b : Nat → Nat) (E Kp Bf As Q : Nat → Nat → Int32) (t : Int32) : vDet l D (vT cI cS) yX4_wants cX4_wants 2 (some .int) 1 20 (mW cI b) [.ref (b 0), .int t] (E, Kp, Bf, As, Q) (some (.int (wantS Q t))) ((E, Kp, Bf, As, Q)) := by
  refine vMet_of (by decide) rfl ?_
  intro K hl hD hnL hret h hR hEx
  subst hl hD
  show V K (mW cI b (E, Kp, Bf, As, Q)) 0 [(0, .ref (b 0)), (1, .int t)] []
  refine v_iload_n h pX4_wants_0 0 rfl 1 rfl rfl ?_
  refine v_callS h pX4_wants_0 1 mX4_269 (As := [.int t]) (st := []) (kX4_isSheet _ _ cI cS t) v0B v0C (vEmb_u _) rfl rfl rfl rfl rfl (vDet_k ?_)
  show V K (mW cI b (E, Kp, Bf, As, Q)) 4 [(0, .ref (b 0)), (1, .int t)] [.int (bI (inB t 0 3))]
  refine v_bif_ne (tgt := 12) h pX4_wants_0 2 rfl rfl (fun c1 => ?_) (fun c1 => ?_)
  · skip
    obtain ⟨e_t, l_t⟩ := inB_t 3 rfl (by decide) c1
    refine v_aload_n h pX4_wants_0 5 rfl 0 rfl rfl (v_get h pX4_wants_0 6 fX4_28 0 rfl rfl rfl (v_iload_n h pX4_wants_0 7 rfl 1 rfl rfl (v_top (w := .int (nI (ix t))) (congrArg Value.int e_t) (v_iald h pX4_wants_0 8 (ix t) 7 0 rfl rfl rfl rfl rfl (by omega) ?_))))
    refine v_if_ge2 (tgt := 27) h pX4_wants_0 9 rfl rfl (fun c2 => ?_) (fun c2 => ?_)
    · skip
      refine v_iconst h pX4_wants_0 12 rfl ki_0 ?_
      exact v_iret h pX4_wants_0 13 hR hret rfl ((E, Kp, Bf, As, Q)) rfl ⟨vI (by simp [wantS, c1, c2, -Int32.not_lt]), rfl⟩
    · skip
      refine v_ldcw h pX4_wants_0 10 wm_589 rfl (v_goto (tgt := 28) h pX4_wants_0 11 rfl rfl ?_)
      exact v_iret h pX4_wants_0 13 hR hret rfl ((E, Kp, Bf, As, Q)) rfl ⟨vI (by simp [wantS, c1, c2, -Int32.not_lt]), rfl⟩
  · skip
    refine v_ldc h pX4_wants_0 3 wm_104 rfl (v_goto (tgt := 28) h pX4_wants_0 4 rfl rfl ?_)
    exact v_iret h pX4_wants_0 13 hR hret rfl ((E, Kp, Bf, As, Q)) rfl ⟨vI (by simp [wantS, c1, -Int32.not_lt]), rfl⟩
set_option maxHeartbeats 300000 in
set_option maxRecDepth 100000 in
theorem kX4_load (l : Launch) (D : va_G) (cI cS : ClassId) (b : Nat → Nat) (E Kp Bf As Q : Nat → Nat → Int32) (n : Nat) (hW : Wf E n) (yb : Nat) (hY : bd (E 9 2) yb) (hyb : yb ≤ 99000) (hQ : WfQ Q) (t : Int32) : vMet l D (vT cI cS) yX4_load cX4_load 3 (some .int) 2 41 (mW cI b) v0 [.ref (b 0), .int t] (E, Kp, Bf, As, Q) (mPost (some (.int (if inB t 0 3 = true then (if Q 2 (ix t) < 0 then (-1000006) else (nI (fstN (fun j => !(decide (j < ix (Q 3 (ix t))) && inB (numS Q (ix t) j) 0 999)) 6))) else (-1000001)))) (if inB t 0 3 = true then (if Q 2 (ix t) < 0 then E else (ldE E (numS Q (ix t)) (fstN (fun j => !(decide (j < ix (Q 3 (ix t))) && inB (numS Q (ix t) j) 0 999)) 6))) else E) (Kp) (if inB t 0 3 = true then (if Q 2 (ix t) < 0 then fndS Q 5 else (Q)) else fndS Q 0)) := by
  refine vMet_of (by decide) rfl ?_
  intro K hl hD hnL hret h hR hEx
  subst hl hD
  show V K (mW cI b (E, Kp, Bf, As, Q)) 0 [(0, .ref (b 0)), (1, .int t)] []
  have hn8 := hW.1
  refine v_aload_n h pX4_load_0 0 rfl 0 rfl rfl (v_iload_n h pX4_load_0 1 rfl 1 rfl rfl ?_)
  refine v_callV h pX4_load_0 2 mX4_176 (As := [.int t]) (st := []) (kX4_wants _ _ cI cS b E Kp Bf As Q t) v0B v0C (vEmb_rf _ _) 0 rfl rfl rfl rfl rfl rfl rfl (vDet_k ?_)
  show V K (mW cI b (E, Kp, Bf, As, Q)) 5 [(0, .ref (b 0)), (1, .int t)] [.int (wantS Q t)]
  refine v_if_eq (tgt := 18) h pX4_load_0 3 rfl rfl (fun c1 => ?_) (fun c1 => ?_)
  · skip
    obtain ⟨c1a, c1b⟩ := want_t c1
    obtain ⟨e_t, l_t⟩ := inB_t 3 rfl (by decide) c1a
    have hsz := hQ.sizeL (t := ix t) (by omega)
    refine v_iconst h pX4_load_0 10 rfl ki_0 (v_istore_n h pX4_load_0 11 (lv' := [(2, .int 0), (0, .ref (b 0)), (1, .int t)]) rfl rfl hnL rfl rfl ?_)
    refine v_lv [1, 2, 0] (lv' := [(0, .ref (b 0)), (1, .int t), (2, .int 0)]) rfl ?_
    have LA : ∀ (m iA : Nat), iA ≤ 6 → (∀ j, j < iA → (fun j => !(decide (j < ix (Q 3 (ix t))) && inB (numS Q (ix t) j) 0 999)) j = false) → 6 + 1 ≤ iA + m → V K (mW cI b (ldE E (numS Q (ix t)) iA, Kp, Bf, As, Q)) 20 [(0, .ref (b 0)), (1, .int t), (2, .int (nI iA))] [] := by
      intro m
      induction m with
      | zero => exact fun iA h1 hh h2 => absurd h2 (by omega)
      | succ m ihA =>
        intro iA hleA hhA hltA
        generalize hSA : ldE E (numS Q (ix t)) iA = SA
        refine v_iload_n h pX4_load_0 12 rfl 2 rfl rfl (v_aload_n h pX4_load_0 13 rfl 0 rfl rfl (v_get h pX4_load_0 14 fX4_31 0 rfl rfl rfl (v_iload_n h pX4_load_0 15 rfl 1 rfl rfl (v_top (w := .int (nI (ix t))) (congrArg Value.int e_t) (v_iald h pX4_load_0 16 (ix t) 8 0 rfl rfl rfl rfl rfl (by omega) ?_)))))
        refine v_top (w := .int (nI (ix (Q 3 (ix t))))) (congrArg Value.int (hQ.size (by omega))) ?_
        refine v_ncmp_ge (a := iA) (b := ix (Q 3 (ix t))) (tgt := 83) h pX4_load_0 17 rfl rfl (by omega) (by omega) (fun c4 => ?_) (fun c4 => ?_)
        · skip
          refine v_iload_n h pX4_load_1 18 rfl 2 rfl rfl ?_
          exact v_iret h pX4_load_1 19 hR hret rfl ((SA, Kp, Bf, As, Q)) rfl ⟨vI (by first | (simp [c1a, c1b, c4, hSA, -Int32.not_lt]; done) | (rcases Nat.lt_or_ge iA 6 with z | z <;> first | (have e1 : fstN (fun j => !(decide (j < ix (Q 3 (ix t))) && inB (numS Q (ix t) j) 0 999)) 6 = iA := fstN_eq hhA (by first | (simp [numS, c1a, c1b, c4]; done) | (have q : ¬ iA < ix (Q 3 (ix t)) := (by omega); simp [q])) (by omega); simp only [c1a, c1b, if_true, if_false]; rw [e1]; try (first | rfl | (simp [hSA]; done))) | (have e0 : iA = 6 := (by omega); subst e0; have e1 : fstN (fun j => !(decide (j < ix (Q 3 (ix t))) && inB (numS Q (ix t) j) 0 999)) 6 = 6 := fstN_no hhA; simp only [c1a, c1b, if_true, if_false]; rw [e1]; try (first | rfl | (simp [hSA]; done))))), (by first | (simp [c1a, c1b, c4, hSA, -Int32.not_lt]; done) | (rcases Nat.lt_or_ge iA 6 with z | z <;> first | (have e1 : fstN (fun j => !(decide (j < ix (Q 3 (ix t))) && inB (numS Q (ix t) j) 0 999)) 6 = iA := fstN_eq hhA (by first | (simp [numS, c1a, c1b, c4]; done) | (have q : ¬ iA < ix (Q 3 (ix t)) := (by omega); simp [q])) (by omega); simp only [c1a, c1b, if_true, if_false]; rw [e1]; try (first | rfl | (simp [hSA]; done))) | (have e0 : iA = 6 := (by omega); subst e0; have e1 : fstN (fun j => !(decide (j < ix (Q 3 (ix t))) && inB (numS Q (ix t) j) 0 999)) 6 = 6 := fstN_no hhA; simp only [c1a, c1b, if_true, if_false]; rw [e1]; try (first | rfl | (simp [hSA]; done))))), rfl, (qR_of (by first | (simp [c1a, c1b, c4, hSA, -Int32.not_lt]; done) | (rcases Nat.lt_or_ge iA 6 with z | z <;> first | (have e1 : fstN (fun j => !(decide (j < ix (Q 3 (ix t))) && inB (numS Q (ix t) j) 0 999)) 6 = iA := fstN_eq hhA (by first | (simp [numS, c1a, c1b, c4]; done) | (have q : ¬ iA < ix (Q 3 (ix t)) := (by omega); simp [q])) (by omega); simp only [c1a, c1b, if_true, if_false]; rw [e1]; try (first | rfl | (simp [hSA]; done))) | (have e0 : iA = 6 := (by omega); subst e0; have e1 : fstN (fun j => !(decide (j < ix (Q 3 (ix t))) && inB (numS Q (ix t) j) 0 999)) 6 = 6 := fstN_no hhA; simp only [c1a, c1b, if_true, if_false]; rw [e1]; try (first | rfl | (simp [hSA]; done))))))⟩
        · skip
          refine v_iload_n h pX4_load_0 18 rfl 2 rfl rfl (v_bipush h pX4_load_0 19 rfl kb_6 ?_)
          refine v_ncmp_ge (a := iA) (b := 6) (tgt := 83) h pX4_load_0 20 rfl rfl (by omega) (by omega) (fun c5 => ?_) (fun c5 => ?_)
          · skip
            refine v_iload_n h pX4_load_1 18 rfl 2 rfl rfl ?_
            exact v_iret h pX4_load_1 19 hR hret rfl ((SA, Kp, Bf, As, Q)) rfl ⟨vI (by first | (simp [c1a, c1b, c4, c5, hSA, -Int32.not_lt]; done) | (rcases Nat.lt_or_ge iA 6 with z | z <;> first | (have e1 : fstN (fun j => !(decide (j < ix (Q 3 (ix t))) && inB (numS Q (ix t) j) 0 999)) 6 = iA := fstN_eq hhA (by first | (simp [numS, c1a, c1b, c4, c5]; done) | (have q : ¬ iA < ix (Q 3 (ix t)) := (by omega); simp [q])) (by omega); simp only [c1a, c1b, if_true, if_false]; rw [e1]; try (first | rfl | (simp [hSA]; done))) | (have e0 : iA = 6 := (by omega); subst e0; have e1 : fstN (fun j => !(decide (j < ix (Q 3 (ix t))) && inB (numS Q (ix t) j) 0 999)) 6 = 6 := fstN_no hhA; simp only [c1a, c1b, if_true, if_false]; rw [e1]; try (first | rfl | (simp [hSA]; done))))), (by first | (simp [c1a, c1b, c4, c5, hSA, -Int32.not_lt]; done) | (rcases Nat.lt_or_ge iA 6 with z | z <;> first | (have e1 : fstN (fun j => !(decide (j < ix (Q 3 (ix t))) && inB (numS Q (ix t) j) 0 999)) 6 = iA := fstN_eq hhA (by first | (simp [numS, c1a, c1b, c4, c5]; done) | (have q : ¬ iA < ix (Q 3 (ix t)) := (by omega); simp [q])) (by omega); simp only [c1a, c1b, if_true, if_false]; rw [e1]; try (first | rfl | (simp [hSA]; done))) | (have e0 : iA = 6 := (by omega); subst e0; have e1 : fstN (fun j => !(decide (j < ix (Q 3 (ix t))) && inB (numS Q (ix t) j) 0 999)) 6 = 6 := fstN_no hhA; simp only [c1a, c1b, if_true, if_false]; rw [e1]; try (first | rfl | (simp [hSA]; done))))), rfl, (qR_of (by first | (simp [c1a, c1b, c4, c5, hSA, -Int32.not_lt]; done) | (rcases Nat.lt_or_ge iA 6 with z | z <;> first | (have e1 : fstN (fun j => !(decide (j < ix (Q 3 (ix t))) && inB (numS Q (ix t) j) 0 999)) 6 = iA := fstN_eq hhA (by first | (simp [numS, c1a, c1b, c4, c5]; done) | (have q : ¬ iA < ix (Q 3 (ix t)) := (by omega); simp [q])) (by omega); simp only [c1a, c1b, if_true, if_false]; rw [e1]; try (first | rfl | (simp [hSA]; done))) | (have e0 : iA = 6 := (by omega); subst e0; have e1 : fstN (fun j => !(decide (j < ix (Q 3 (ix t))) && inB (numS Q (ix t) j) 0 999)) 6 = 6 := fstN_no hhA; simp only [c1a, c1b, if_true, if_false]; rw [e1]; try (first | rfl | (simp [hSA]; done))))))⟩
          · skip
            refine v_aload_n h pX4_load_0 21 rfl 0 rfl rfl (v_get h pX4_load_0 22 fX4_34 0 rfl rfl rfl (v_bipush h pX4_load_0 23 rfl kb_40 (v_iload_n h pX4_load_0 24 rfl 1 rfl rfl (v_top (w := .int (nI (ix t))) (congrArg Value.int e_t) (v_imuln h pX4_load_0 25 40 (ix t) rfl ?_)))))
            refine v_iload_n h pX4_load_0 26 rfl 2 rfl rfl (v_iaddn h pX4_load_0 27 (40 * (ix t)) iA rfl (v_iald h pX4_load_0 28 (40 * (ix t) + iA) 9 0 rfl rfl rfl rfl rfl (by omega) (v_i2l h pX4_load_0 29 rfl (v_lconst (v := (nI 0).toInt64) h pX4_load_0 30 rfl kl_0 (v_ldc2 h pX4_load_0 31 wm_102 rfl ?_)))))
            refine v_top (w := .long (nI 999).toInt64) (kL 999 _ (by decide)) ?_
            refine v_callS h pX4_load_1 0 mX4_50 (As := [.long ((Q 4 (40 * (ix t) + iA) : Int32).toInt64), .long ((nI 0).toInt64), .long ((nI 999).toInt64)]) (st := []) (kX4_isIn _ _ cI cS (Q 4 (40 * (ix t) + iA)) 0 999) v0B v0C (vEmb_u _) rfl rfl rfl rfl rfl (vDet_k ?_)
            show V K (mW cI b (SA, Kp, Bf, As, Q)) 55 [(0, .ref (b 0)), (1, .int t), (2, .int (nI iA))] [.int (bI (inB (Q 4 (40 * (ix t) + iA)) 0 999))]
            refine v_bif_eq (tgt := 83) h pX4_load_1 1 rfl rfl (fun c6 => ?_) (fun c6 => ?_)
            · skip
              refine v_iload_n h pX4_load_1 18 rfl 2 rfl rfl ?_
              exact v_iret h pX4_load_1 19 hR hret rfl ((SA, Kp, Bf, As, Q)) rfl ⟨vI (by first | (simp [c1a, c1b, c4, c5, c6, hSA, -Int32.not_lt]; done) | (rcases Nat.lt_or_ge iA 6 with z | z <;> first | (have e1 : fstN (fun j => !(decide (j < ix (Q 3 (ix t))) && inB (numS Q (ix t) j) 0 999)) 6 = iA := fstN_eq hhA (by first | (simp [numS, c1a, c1b, c4, c5, c6]; done) | (have q : ¬ iA < ix (Q 3 (ix t)) := (by omega); simp [q])) (by omega); simp only [c1a, c1b, if_true, if_false]; rw [e1]; try (first | rfl | (simp [hSA]; done))) | (have e0 : iA = 6 := (by omega); subst e0; have e1 : fstN (fun j => !(decide (j < ix (Q 3 (ix t))) && inB (numS Q (ix t) j) 0 999)) 6 = 6 := fstN_no hhA; simp only [c1a, c1b, if_true, if_false]; rw [e1]; try (first | rfl | (simp [hSA]; done))))), (by first | (simp [c1a, c1b, c4, c5, c6, hSA, -Int32.not_lt]; done) | (rcases Nat.lt_or_ge iA 6 with z | z <;> first | (have e1 : fstN (fun j => !(decide (j < ix (Q 3 (ix t))) && inB (numS Q (ix t) j) 0 999)) 6 = iA := fstN_eq hhA (by first | (simp [numS, c1a, c1b, c4, c5, c6]; done) | (have q : ¬ iA < ix (Q 3 (ix t)) := (by omega); simp [q])) (by omega); simp only [c1a, c1b, if_true, if_false]; rw [e1]; try (first | rfl | (simp [hSA]; done))) | (have e0 : iA = 6 := (by omega); subst e0; have e1 : fstN (fun j => !(decide (j < ix (Q 3 (ix t))) && inB (numS Q (ix t) j) 0 999)) 6 = 6 := fstN_no hhA; simp only [c1a, c1b, if_true, if_false]; rw [e1]; try (first | rfl | (simp [hSA]; done))))), rfl, (qR_of (by first | (simp [c1a, c1b, c4, c5, c6, hSA, -Int32.not_lt]; done) | (rcases Nat.lt_or_ge iA 6 with z | z <;> first | (have e1 : fstN (fun j => !(decide (j < ix (Q 3 (ix t))) && inB (numS Q (ix t) j) 0 999)) 6 = iA := fstN_eq hhA (by first | (simp [numS, c1a, c1b, c4, c5, c6]; done) | (have q : ¬ iA < ix (Q 3 (ix t)) := (by omega); simp [q])) (by omega); simp only [c1a, c1b, if_true, if_false]; rw [e1]; try (first | rfl | (simp [hSA]; done))) | (have e0 : iA = 6 := (by omega); subst e0; have e1 : fstN (fun j => !(decide (j < ix (Q 3 (ix t))) && inB (numS Q (ix t) j) 0 999)) 6 = 6 := fstN_no hhA; simp only [c1a, c1b, if_true, if_false]; rw [e1]; try (first | rfl | (simp [hSA]; done))))))⟩
            · skip
              refine v_aload_n h pX4_load_1 2 rfl 0 rfl rfl (v_get h pX4_load_1 3 fX4_7 0 rfl rfl rfl (v_iconst h pX4_load_1 4 rfl ki_4 (v_iload_n h pX4_load_1 5 rfl 2 rfl rfl (v_iaddn h pX4_load_1 6 4 iA rfl (v_aload_n h pX4_load_1 7 rfl 0 rfl rfl ?_)))))
              refine v_get h pX4_load_1 8 fX4_34 0 rfl rfl rfl (v_bipush h pX4_load_1 9 rfl kb_40 (v_iload_n h pX4_load_1 10 rfl 1 rfl rfl (v_top (w := .int (nI (ix t))) (congrArg Value.int e_t) (v_imuln h pX4_load_1 11 40 (ix t) rfl (v_iload_n h pX4_load_1 12 rfl 2 rfl rfl ?_)))))
              refine v_iaddn h pX4_load_1 13 (40 * (ix t)) iA rfl (v_iald h pX4_load_1 14 (40 * (ix t) + iA) 9 0 rfl rfl rfl rfl rfl (by omega) (v_iast h pX4_load_1 15 (4 + iA) 1 0 (ws' := mW cI b (up SA 0 iA (Q 4 (40 * (ix t) + iA)), Kp, Bf, As, Q)) rfl rfl rfl rfl rfl (by omega) (mW_s (4 + iA) 0 iA (flR_n (by omega)) (flI_n (by omega))) (v_iinc h pX4_load_1 16 (v := nI (iA + 1)) (lv' := [(2, .int (nI (iA + 1))), (0, .ref (b 0)), (1, .int t)]) rfl 2 rfl hnL rfl rfl (nI_1 iA) (v_goto (tgt := 20) h pX4_load_1 17 rfl rfl (v_lv [1, 2, 0] (lv' := [(0, .ref (b 0)), (1, .int t), (2, .int (nI (iA + 1)))]) rfl ?_)))))
              refine v_eqw (ws' := mW cI b (ldE E (numS Q (ix t)) (iA + 1), Kp, Bf, As, Q)) (by rw [ldE, hSA]; rfl) ?_
              exact ihA (iA + 1) (by omega) (fun j hj => (Nat.lt_succ_iff_lt_or_eq.mp hj).elim (hhA j) (fun e => by rw [e]; simp [numS, c1a, c1b, c4, c5, c6, -Int32.not_lt])) (by omega)
    exact LA (6 + 1) 0 (by omega) (fun j hj => absurd hj (by omega)) (by omega)
  · skip
    rcases want_f c1 with ⟨q7a, q7e⟩ | ⟨q7a, q7b, q7e⟩
    · skip
      refine v_aload_n h pX4_load_0 4 rfl 0 rfl rfl (v_aload_n h pX4_load_0 5 rfl 0 rfl rfl (v_iload_n h pX4_load_0 6 rfl 1 rfl rfl ?_))
      refine v_callV h pX4_load_0 7 mX4_176 (As := [.int t]) (st := [.ref (b 0)]) (kX4_wants _ _ cI cS b E Kp Bf As Q t) v0B v0C (vEmb_rf _ _) 0 rfl rfl rfl rfl rfl rfl rfl (vDet_k ?_)
      show V K (mW cI b (E, Kp, Bf, As, Q)) 14 [(0, .ref (b 0)), (1, .int t)] [.int (wantS Q t), .ref (b 0)]
      refine v_top (w := .int (-1000001)) (congrArg Value.int q7e) ?_
      refine v_callV h pX4_load_0 8 mX4_42 (As := [.int (-1000001)]) (st := []) (kX4_finds _ _ cI cS b E Kp Bf As Q 0 (by decide) (-1000001) (by decide)) v0B v0C (vEmb_rf _ _) 0 rfl rfl rfl rfl rfl rfl rfl (vDet_k ?_)
      show V K (mW cI b (E, Kp, Bf, As, fndS Q 0)) 17 [(0, .ref (b 0)), (1, .int t)] [.int (-1000001)]
      generalize hS8 : fndS Q 0 = S8
      exact v_iret h pX4_load_0 9 hR hret rfl ((E, Kp, Bf, As, S8)) rfl ⟨vI (by first | (simp [q7a, hS8, -Int32.not_lt]; done) | (rcases Nat.lt_or_ge iA 6 with z | z <;> first | (have e1 : fstN (fun j => !(decide (j < ix (Q 3 (ix t))) && inB (numS Q (ix t) j) 0 999)) 6 = iA := fstN_eq hhA (by first | (simp [numS, q7a]; done) | (have q : ¬ iA < ix (Q 3 (ix t)) := (by omega); simp [q])) (by omega); simp only [c1a, c1b, if_true, if_false]; rw [e1]; try (first | rfl | (simp [hS8]; done))) | (have e0 : iA = 6 := (by omega); subst e0; have e1 : fstN (fun j => !(decide (j < ix (Q 3 (ix t))) && inB (numS Q (ix t) j) 0 999)) 6 = 6 := fstN_no hhA; simp only [c1a, c1b, if_true, if_false]; rw [e1]; try (first | rfl | (simp [hS8]; done))))), (by first | (simp [q7a, hS8, -Int32.not_lt]; done) | (rcases Nat.lt_or_ge iA 6 with z | z <;> first | (have e1 : fstN (fun j => !(decide (j < ix (Q 3 (ix t))) && inB (numS Q (ix t) j) 0 999)) 6 = iA := fstN_eq hhA (by first | (simp [numS, q7a]; done) | (have q : ¬ iA < ix (Q 3 (ix t)) := (by omega); simp [q])) (by omega); simp only [c1a, c1b, if_true, if_false]; rw [e1]; try (first | rfl | (simp [hS8]; done))) | (have e0 : iA = 6 := (by omega); subst e0; have e1 : fstN (fun j => !(decide (j < ix (Q 3 (ix t))) && inB (numS Q (ix t) j) 0 999)) 6 = 6 := fstN_no hhA; simp only [c1a, c1b, if_true, if_false]; rw [e1]; try (first | rfl | (simp [hS8]; done))))), rfl, (qR_of (by first | (simp [q7a, hS8, -Int32.not_lt]; done) | (rcases Nat.lt_or_ge iA 6 with z | z <;> first | (have e1 : fstN (fun j => !(decide (j < ix (Q 3 (ix t))) && inB (numS Q (ix t) j) 0 999)) 6 = iA := fstN_eq hhA (by first | (simp [numS, q7a]; done) | (have q : ¬ iA < ix (Q 3 (ix t)) := (by omega); simp [q])) (by omega); simp only [c1a, c1b, if_true, if_false]; rw [e1]; try (first | rfl | (simp [hS8]; done))) | (have e0 : iA = 6 := (by omega); subst e0; have e1 : fstN (fun j => !(decide (j < ix (Q 3 (ix t))) && inB (numS Q (ix t) j) 0 999)) 6 = 6 := fstN_no hhA; simp only [c1a, c1b, if_true, if_false]; rw [e1]; try (first | rfl | (simp [hS8]; done))))))⟩
    · skip
      refine v_aload_n h pX4_load_0 4 rfl 0 rfl rfl (v_aload_n h pX4_load_0 5 rfl 0 rfl rfl (v_iload_n h pX4_load_0 6 rfl 1 rfl rfl ?_))
      refine v_callV h pX4_load_0 7 mX4_176 (As := [.int t]) (st := [.ref (b 0)]) (kX4_wants _ _ cI cS b E Kp Bf As Q t) v0B v0C (vEmb_rf _ _) 0 rfl rfl rfl rfl rfl rfl rfl (vDet_k ?_)
      show V K (mW cI b (E, Kp, Bf, As, Q)) 14 [(0, .ref (b 0)), (1, .int t)] [.int (wantS Q t), .ref (b 0)]
      refine v_top (w := .int (-1000006)) (congrArg Value.int q7e) ?_
      refine v_callV h pX4_load_0 8 mX4_42 (As := [.int (-1000006)]) (st := []) (kX4_finds _ _ cI cS b E Kp Bf As Q 5 (by decide) (-1000006) (by decide)) v0B v0C (vEmb_rf _ _) 0 rfl rfl rfl rfl rfl rfl rfl (vDet_k ?_)
      show V K (mW cI b (E, Kp, Bf, As, fndS Q 5)) 17 [(0, .ref (b 0)), (1, .int t)] [.int (-1000006)]
      generalize hS9 : fndS Q 5 = S9
      exact v_iret h pX4_load_0 9 hR hret rfl ((E, Kp, Bf, As, S9)) rfl ⟨vI (by first | (simp [q7a, q7b, hS9, -Int32.not_lt]; done) | (rcases Nat.lt_or_ge iA 6 with z | z <;> first | (have e1 : fstN (fun j => !(decide (j < ix (Q 3 (ix t))) && inB (numS Q (ix t) j) 0 999)) 6 = iA := fstN_eq hhA (by first | (simp [numS, q7a, q7b]; done) | (have q : ¬ iA < ix (Q 3 (ix t)) := (by omega); simp [q])) (by omega); simp only [c1a, c1b, if_true, if_false]; rw [e1]; try (first | rfl | (simp [hS9]; done))) | (have e0 : iA = 6 := (by omega); subst e0; have e1 : fstN (fun j => !(decide (j < ix (Q 3 (ix t))) && inB (numS Q (ix t) j) 0 999)) 6 = 6 := fstN_no hhA; simp only [c1a, c1b, if_true, if_false]; rw [e1]; try (first | rfl | (simp [hS9]; done))))), (by first | (simp [q7a, q7b, hS9, -Int32.not_lt]; done) | (rcases Nat.lt_or_ge iA 6 with z | z <;> first | (have e1 : fstN (fun j => !(decide (j < ix (Q 3 (ix t))) && inB (numS Q (ix t) j) 0 999)) 6 = iA := fstN_eq hhA (by first | (simp [numS, q7a, q7b]; done) | (have q : ¬ iA < ix (Q 3 (ix t)) := (by omega); simp [q])) (by omega); simp only [c1a, c1b, if_true, if_false]; rw [e1]; try (first | rfl | (simp [hS9]; done))) | (have e0 : iA = 6 := (by omega); subst e0; have e1 : fstN (fun j => !(decide (j < ix (Q 3 (ix t))) && inB (numS Q (ix t) j) 0 999)) 6 = 6 := fstN_no hhA; simp only [c1a, c1b, if_true, if_false]; rw [e1]; try (first | rfl | (simp [hS9]; done))))), rfl, (qR_of (by first | (simp [q7a, q7b, hS9, -Int32.not_lt]; done) | (rcases Nat.lt_or_ge iA 6 with z | z <;> first | (have e1 : fstN (fun j => !(decide (j < ix (Q 3 (ix t))) && inB (numS Q (ix t) j) 0 999)) 6 = iA := fstN_eq hhA (by first | (simp [numS, q7a, q7b]; done) | (have q : ¬ iA < ix (Q 3 (ix t)) := (by omega); simp [q])) (by omega); simp only [c1a, c1b, if_true, if_false]; rw [e1]; try (first | rfl | (simp [hS9]; done))) | (have e0 : iA = 6 := (by omega); subst e0; have e1 : fstN (fun j => !(decide (j < ix (Q 3 (ix t))) && inB (numS Q (ix t) j) 0 999)) 6 = 6 := fstN_no hhA; simp only [c1a, c1b, if_true, if_false]; rw [e1]; try (first | rfl | (simp [hS9]; done))))))⟩
set_option maxHeartbeats 300000 in
set_option maxRecDepth 100000 in
theorem kX4_judge (l : Launch) (D : va_G) (cI cS : ClassId) (b : Nat → Nat) (E Kp Bf As Q : Nat → Nat → Int32) (n : Nat) (hW : Wf E n) (yb : Nat) (hY : bd (E 9 2) yb) (hyb : yb ≤ 99000) (hQ : WfQ Q) (t : Int32) : vMet l D (vT cI cS) yX4_judge cX4_judge 3 (some .int) 2 41 (mW cI b) v0 [.ref (b 0), .int t] (E, Kp, Bf, As, Q) (mPost (some (.int (if inB t 0 3 = true then (if Q 2 (ix t) < 0 then (-1000006) else (if fstN (fun j => !(decide (j < n) && decide (numS Q (ix t) j = E 5 j))) (ix (Q 3 (ix t))) < ix (Q 3 (ix t)) then nI (1 + fstN (fun j => !(decide (j < n) && decide (numS Q (ix t) j = E 5 j))) (ix (Q 3 (ix t)))) else 0)) else (-1000001)))) (E) (Kp) (if inB t 0 3 = true then (if Q 2 (ix t) < 0 then fndS Q 5 else (Q)) else fndS Q 0)) := by
  refine vMet_of (by decide) rfl ?_
  intro K hl hD hnL hret h hR hEx
  subst hl hD
  show V K (mW cI b (E, Kp, Bf, As, Q)) 0 [(0, .ref (b 0)), (1, .int t)] []
  have hn8 := hW.1
  refine v_aload_n h pX4_judge_0 0 rfl 0 rfl rfl (v_iload_n h pX4_judge_0 1 rfl 1 rfl rfl ?_)
  refine v_callV h pX4_judge_0 2 mX4_176 (As := [.int t]) (st := []) (kX4_wants _ _ cI cS b E Kp Bf As Q t) v0B v0C (vEmb_rf _ _) 0 rfl rfl rfl rfl rfl rfl rfl (vDet_k ?_)
  show V K (mW cI b (E, Kp, Bf, As, Q)) 5 [(0, .ref (b 0)), (1, .int t)] [.int (wantS Q t)]
  refine v_if_eq (tgt := 18) h pX4_judge_0 3 rfl rfl (fun c1 => ?_) (fun c1 => ?_)
  · skip
    obtain ⟨c1a, c1b⟩ := want_t c1
    obtain ⟨e_t, l_t⟩ := inB_t 3 rfl (by decide) c1a
    have hsz := hQ.sizeL (t := ix t) (by omega)
    refine v_iconst h pX4_judge_0 10 rfl ki_0 (v_istore_n h pX4_judge_0 11 (lv' := [(2, .int 0), (0, .ref (b 0)), (1, .int t)]) rfl rfl hnL rfl rfl ?_)
    refine v_lv [1, 2, 0] (lv' := [(0, .ref (b 0)), (1, .int t), (2, .int 0)]) rfl ?_
    have LA : ∀ (m iA : Nat), iA ≤ ix (Q 3 (ix t)) → (∀ j, j < iA → (fun j => !(decide (j < n) && decide (numS Q (ix t) j = E 5 j))) j = false) → ix (Q 3 (ix t)) + 1 ≤ iA + m → V K (mW cI b (E, Kp, Bf, As, Q)) 20 [(0, .ref (b 0)), (1, .int t), (2, .int (nI iA))] [] := by
      intro m
      induction m with
      | zero => exact fun iA h1 hh h2 => absurd h2 (by omega)
      | succ m ihA =>
        intro iA hleA hhA hltA
        refine v_iload_n h pX4_judge_0 12 rfl 2 rfl rfl (v_aload_n h pX4_judge_0 13 rfl 0 rfl rfl (v_get h pX4_judge_0 14 fX4_31 0 rfl rfl rfl (v_iload_n h pX4_judge_0 15 rfl 1 rfl rfl (v_top (w := .int (nI (ix t))) (congrArg Value.int e_t) (v_iald h pX4_judge_0 16 (ix t) 8 0 rfl rfl rfl rfl rfl (by omega) ?_)))))
        refine v_top (w := .int (nI (ix (Q 3 (ix t))))) (congrArg Value.int (hQ.size (by omega))) ?_
        refine v_ncmp_ge (a := iA) (b := ix (Q 3 (ix t))) (tgt := 64) h pX4_judge_0 17 rfl rfl (by omega) (by omega) (fun c3 => ?_) (fun c3 => ?_)
        · skip
          refine v_iload_n h pX4_judge_1 5 rfl 2 rfl rfl (v_aload_n h pX4_judge_1 6 rfl 0 rfl rfl (v_get h pX4_judge_1 7 fX4_31 0 rfl rfl rfl (v_iload_n h pX4_judge_1 8 rfl 1 rfl rfl (v_top (w := .int (nI (ix t))) (congrArg Value.int e_t) (v_iald h pX4_judge_1 9 (ix t) 8 0 rfl rfl rfl rfl rfl (by omega) ?_)))))
          refine v_top (w := .int (nI (ix (Q 3 (ix t))))) (congrArg Value.int (hQ.size (by omega))) ?_
          refine v_ncmp_ge (a := iA) (b := ix (Q 3 (ix t))) (tgt := 80) h pX4_judge_1 10 rfl rfl (by omega) (by omega) (fun c4 => ?_) (fun c4 => (by first | exact absurd c4 c3 | exact absurd c3 c4 | (exfalso; omega)))
          refine v_iconst h pX4_judge_1 15 rfl ki_0 ?_
          exact v_iret h pX4_judge_1 16 hR hret rfl ((E, Kp, Bf, As, Q)) rfl ⟨vI (by first | (simp [c1a, c1b, c3, True, -Int32.not_lt]; done) | (have e1 : fstN (fun j => !(decide (j < n) && decide (numS Q (ix t) j = E 5 j))) (ix (Q 3 (ix t))) = iA := fstN_eq hhA (by simp [numS, c1a, c1b, c3]) (by omega); simp only [c1a, c1b, if_true, if_false]; rw [e1]; first | (rw [if_pos (by omega)]; done) | (rw [if_neg (by omega)]; done)) | (have e1 : fstN (fun j => !(decide (j < n) && decide (numS Q (ix t) j = E 5 j))) (ix (Q 3 (ix t))) = ix (Q 3 (ix t)) := fstN_no (fun j hj => hhA j (by omega)); simp only [c1a, c1b, if_true, if_false]; rw [e1, if_neg (by omega)])), rfl, rfl, (qR_of (by simp [c1a, c1b, c3, True, -Int32.not_lt]))⟩
        · skip
          refine v_aload_n h pX4_judge_0 18 rfl 0 rfl rfl (v_iload_n h pX4_judge_0 19 rfl 2 rfl rfl ?_)
          refine v_callV h pX4_judge_0 20 mX4_88 (As := [.int (nI iA)]) (st := []) (kX4_isOyster _ _ cI cS b E Kp Bf As Q n hW.2.1 (nI iA)) v0B v0C (vEmb_rf _ _) 0 rfl rfl rfl rfl rfl rfl rfl (vDet_k ?_)
          show V K (mW cI b (E, Kp, Bf, As, Q)) 35 [(0, .ref (b 0)), (1, .int t), (2, .int (nI iA))] [.int (bI (oyB (nI iA) n))]
          refine v_bif_eq (tgt := 64) h pX4_judge_0 21 rfl rfl (fun c5 => ?_) (fun c5 => ?_)
          · skip
            rw [oyB_nI (by omega) (by omega)] at c5
            have c5n := of_decide_eq_false c5
            refine v_iload_n h pX4_judge_1 5 rfl 2 rfl rfl (v_aload_n h pX4_judge_1 6 rfl 0 rfl rfl (v_get h pX4_judge_1 7 fX4_31 0 rfl rfl rfl (v_iload_n h pX4_judge_1 8 rfl 1 rfl rfl (v_top (w := .int (nI (ix t))) (congrArg Value.int e_t) (v_iald h pX4_judge_1 9 (ix t) 8 0 rfl rfl rfl rfl rfl (by omega) ?_)))))
            refine v_top (w := .int (nI (ix (Q 3 (ix t))))) (congrArg Value.int (hQ.size (by omega))) ?_
            refine v_ncmp_ge (a := iA) (b := ix (Q 3 (ix t))) (tgt := 80) h pX4_judge_1 10 rfl rfl (by omega) (by omega) (fun c6 => (by first | exact absurd c6 c3 | exact absurd c3 c6 | (exfalso; omega))) (fun c6 => ?_)
            refine v_iconst h pX4_judge_1 11 rfl ki_1 (v_iload_n h pX4_judge_1 12 rfl 2 rfl rfl (v_iaddn h pX4_judge_1 13 1 iA rfl (v_goto (tgt := 81) h pX4_judge_1 14 rfl rfl ?_)))
            exact v_iret h pX4_judge_1 16 hR hret rfl ((E, Kp, Bf, As, Q)) rfl ⟨vI (by first | (simp [c1a, c1b, c3, c5n, True, -Int32.not_lt]; done) | (have e1 : fstN (fun j => !(decide (j < n) && decide (numS Q (ix t) j = E 5 j))) (ix (Q 3 (ix t))) = iA := fstN_eq hhA (by simp [numS, c1a, c1b, c3, c5n]) (by omega); simp only [c1a, c1b, if_true, if_false]; rw [e1]; first | (rw [if_pos (by omega)]; done) | (rw [if_neg (by omega)]; done)) | (have e1 : fstN (fun j => !(decide (j < n) && decide (numS Q (ix t) j = E 5 j))) (ix (Q 3 (ix t))) = ix (Q 3 (ix t)) := fstN_no (fun j hj => hhA j (by omega)); simp only [c1a, c1b, if_true, if_false]; rw [e1, if_neg (by omega)])), rfl, rfl, (qR_of (by simp [c1a, c1b, c3, c5n, True, -Int32.not_lt]))⟩
          · skip
            rw [oyB_nI (by omega) (by omega)] at c5
            have c5n := of_decide_eq_true c5
            refine v_aload_n h pX4_judge_0 22 rfl 0 rfl rfl (v_get h pX4_judge_0 23 fX4_34 0 rfl rfl rfl (v_bipush h pX4_judge_0 24 rfl kb_40 (v_iload_n h pX4_judge_0 25 rfl 1 rfl rfl (v_top (w := .int (nI (ix t))) (congrArg Value.int e_t) (v_imuln h pX4_judge_0 26 40 (ix t) rfl ?_)))))
            refine v_iload_n h pX4_judge_0 27 rfl 2 rfl rfl (v_iaddn h pX4_judge_0 28 (40 * (ix t)) iA rfl (v_iald h pX4_judge_0 29 (40 * (ix t) + iA) 9 0 rfl rfl rfl rfl rfl (by omega) (v_aload_n h pX4_judge_0 30 rfl 0 rfl rfl (v_iload_n h pX4_judge_0 31 rfl 2 rfl rfl (v_iconst h pX4_judge_1 0 rfl ki_3 ?_)))))
            refine v_callV h pX4_judge_1 1 mX4_64 (As := [.int (nI iA), .int 3]) (st := [.int (Q 4 (40 * (ix t) + iA))]) (kX4_its _ _ cI cS b E Kp Bf As Q iA 3 (by omega) (by omega)) v0B v0C (vEmb_rf _ _) 0 rfl rfl rfl rfl rfl rfl rfl (vDet_k ?_)
            show V K (mW cI b (E, Kp, Bf, As, Q)) 55 [(0, .ref (b 0)), (1, .int t), (2, .int (nI iA))] [.int (E 5 iA), .int (Q 4 (40 * (ix t) + iA))]
            refine v_icmp_ne (tgt := 64) h pX4_judge_1 2 rfl rfl (fun c7 => ?_) (fun c7 => ?_)
            · skip
              refine v_iload_n h pX4_judge_1 5 rfl 2 rfl rfl (v_aload_n h pX4_judge_1 6 rfl 0 rfl rfl (v_get h pX4_judge_1 7 fX4_31 0 rfl rfl rfl (v_iload_n h pX4_judge_1 8 rfl 1 rfl rfl (v_top (w := .int (nI (ix t))) (congrArg Value.int e_t) (v_iald h pX4_judge_1 9 (ix t) 8 0 rfl rfl rfl rfl rfl (by omega) ?_)))))
              refine v_top (w := .int (nI (ix (Q 3 (ix t))))) (congrArg Value.int (hQ.size (by omega))) ?_
              refine v_ncmp_ge (a := iA) (b := ix (Q 3 (ix t))) (tgt := 80) h pX4_judge_1 10 rfl rfl (by omega) (by omega) (fun c8 => (by first | exact absurd c8 c3 | exact absurd c3 c8 | (exfalso; omega))) (fun c8 => ?_)
              refine v_iconst h pX4_judge_1 11 rfl ki_1 (v_iload_n h pX4_judge_1 12 rfl 2 rfl rfl (v_iaddn h pX4_judge_1 13 1 iA rfl (v_goto (tgt := 81) h pX4_judge_1 14 rfl rfl ?_)))
              exact v_iret h pX4_judge_1 16 hR hret rfl ((E, Kp, Bf, As, Q)) rfl ⟨vI (by first | (simp [c1a, c1b, c3, c5n, c7, True, -Int32.not_lt]; done) | (have e1 : fstN (fun j => !(decide (j < n) && decide (numS Q (ix t) j = E 5 j))) (ix (Q 3 (ix t))) = iA := fstN_eq hhA (by simp [numS, c1a, c1b, c3, c5n, c7]) (by omega); simp only [c1a, c1b, if_true, if_false]; rw [e1]; first | (rw [if_pos (by omega)]; done) | (rw [if_neg (by omega)]; done)) | (have e1 : fstN (fun j => !(decide (j < n) && decide (numS Q (ix t) j = E 5 j))) (ix (Q 3 (ix t))) = ix (Q 3 (ix t)) := fstN_no (fun j hj => hhA j (by omega)); simp only [c1a, c1b, if_true, if_false]; rw [e1, if_neg (by omega)])), rfl, rfl, (qR_of (by simp [c1a, c1b, c3, c5n, c7, True, -Int32.not_lt]))⟩
            · skip
              refine v_iinc h pX4_judge_1 3 (v := nI (iA + 1)) (lv' := [(2, .int (nI (iA + 1))), (0, .ref (b 0)), (1, .int t)]) rfl 2 rfl hnL rfl rfl (nI_1 iA) (v_goto (tgt := 20) h pX4_judge_1 4 rfl rfl (v_lv [1, 2, 0] (lv' := [(0, .ref (b 0)), (1, .int t), (2, .int (nI (iA + 1)))]) rfl ?_))
              exact ihA (iA + 1) (by omega) (fun j hj => (Nat.lt_succ_iff_lt_or_eq.mp hj).elim (hhA j) (fun e => by rw [e]; simp [numS, c1a, c1b, c3, c5n, (eq_true c7), -Int32.not_lt])) (by omega)
    exact LA (ix (Q 3 (ix t)) + 1) 0 (by omega) (fun j hj => absurd hj (by omega)) (by omega)
  · skip
    rcases want_f c1 with ⟨q9a, q9e⟩ | ⟨q9a, q9b, q9e⟩
    · skip
      refine v_aload_n h pX4_judge_0 4 rfl 0 rfl rfl (v_aload_n h pX4_judge_0 5 rfl 0 rfl rfl (v_iload_n h pX4_judge_0 6 rfl 1 rfl rfl ?_))
      refine v_callV h pX4_judge_0 7 mX4_176 (As := [.int t]) (st := [.ref (b 0)]) (kX4_wants _ _ cI cS b E Kp Bf As Q t) v0B v0C (vEmb_rf _ _) 0 rfl rfl rfl rfl rfl rfl rfl (vDet_k ?_)
      show V K (mW cI b (E, Kp, Bf, As, Q)) 14 [(0, .ref (b 0)), (1, .int t)] [.int (wantS Q t), .ref (b 0)]
      refine v_top (w := .int (-1000001)) (congrArg Value.int q9e) ?_
      refine v_callV h pX4_judge_0 8 mX4_42 (As := [.int (-1000001)]) (st := []) (kX4_finds _ _ cI cS b E Kp Bf As Q 0 (by decide) (-1000001) (by decide)) v0B v0C (vEmb_rf _ _) 0 rfl rfl rfl rfl rfl rfl rfl (vDet_k ?_)
      show V K (mW cI b (E, Kp, Bf, As, fndS Q 0)) 17 [(0, .ref (b 0)), (1, .int t)] [.int (-1000001)]
      generalize hS10 : fndS Q 0 = S10
      exact v_iret h pX4_judge_0 9 hR hret rfl ((E, Kp, Bf, As, S10)) rfl ⟨vI (by first | (simp [q9a, hS10, -Int32.not_lt]; done) | (have e1 : fstN (fun j => !(decide (j < n) && decide (numS Q (ix t) j = E 5 j))) (ix (Q 3 (ix t))) = iA := fstN_eq hhA (by simp [numS, q9a]) (by omega); simp only [c1a, c1b, if_true, if_false]; rw [e1]; first | (rw [if_pos (by omega)]; done) | (rw [if_neg (by omega)]; done)) | (have e1 : fstN (fun j => !(decide (j < n) && decide (numS Q (ix t) j = E 5 j))) (ix (Q 3 (ix t))) = ix (Q 3 (ix t)) := fstN_no (fun j hj => hhA j (by omega)); simp only [c1a, c1b, if_true, if_false]; rw [e1, if_neg (by omega)])), rfl, rfl, (qR_of (by simp [q9a, hS10, -Int32.not_lt]))⟩
    · skip
      refine v_aload_n h pX4_judge_0 4 rfl 0 rfl rfl (v_aload_n h pX4_judge_0 5 rfl 0 rfl rfl (v_iload_n h pX4_judge_0 6 rfl 1 rfl rfl ?_))
      refine v_callV h pX4_judge_0 7 mX4_176 (As := [.int t]) (st := [.ref (b 0)]) (kX4_wants _ _ cI cS b E Kp Bf As Q t) v0B v0C (vEmb_rf _ _) 0 rfl rfl rfl rfl rfl rfl rfl (vDet_k ?_)
      show V K (mW cI b (E, Kp, Bf, As, Q)) 14 [(0, .ref (b 0)), (1, .int t)] [.int (wantS Q t), .ref (b 0)]
      refine v_top (w := .int (-1000006)) (congrArg Value.int q9e) ?_
      refine v_callV h pX4_judge_0 8 mX4_42 (As := [.int (-1000006)]) (st := []) (kX4_finds _ _ cI cS b E Kp Bf As Q 5 (by decide) (-1000006) (by decide)) v0B v0C (vEmb_rf _ _) 0 rfl rfl rfl rfl rfl rfl rfl (vDet_k ?_)
      show V K (mW cI b (E, Kp, Bf, As, fndS Q 5)) 17 [(0, .ref (b 0)), (1, .int t)] [.int (-1000006)]
      generalize hS11 : fndS Q 5 = S11
      exact v_iret h pX4_judge_0 9 hR hret rfl ((E, Kp, Bf, As, S11)) rfl ⟨vI (by first | (simp [q9a, q9b, hS11, -Int32.not_lt]; done) | (have e1 : fstN (fun j => !(decide (j < n) && decide (numS Q (ix t) j = E 5 j))) (ix (Q 3 (ix t))) = iA := fstN_eq hhA (by simp [numS, q9a, q9b]) (by omega); simp only [c1a, c1b, if_true, if_false]; rw [e1]; first | (rw [if_pos (by omega)]; done) | (rw [if_neg (by omega)]; done)) | (have e1 : fstN (fun j => !(decide (j < n) && decide (numS Q (ix t) j = E 5 j))) (ix (Q 3 (ix t))) = ix (Q 3 (ix t)) := fstN_no (fun j hj => hhA j (by omega)); simp only [c1a, c1b, if_true, if_false]; rw [e1, if_neg (by omega)])), rfl, rfl, (qR_of (by simp [q9a, q9b, hS11, -Int32.not_lt]))⟩
