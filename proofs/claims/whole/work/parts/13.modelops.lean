set_option maxHeartbeats 300000 in
set_option maxRecDepth 100000 in
theorem kX4_bed (l : Launch) (D : va_G) (cI cS : ClassId) (b : Nat → Nat) (E Kp Bf As Q : Nat → Nat → Int32) (n : Nat) (hW : Wf E n) (yb : Nat) (hY : bd (E 9 2) yb) (hyb : yb ≤ 99000) (bd w v : Int32) : vMet l D (vT cI cS) yX4_bed cX4_bed 4 (some .int) 1 25 (mW cI b) v0 [.ref (b 0), .int bd, .int w, .int v] (E, Kp, Bf, As, Q) (mPost (some (.int (cond (inB bd 0 5 && (inB w 0 1 && inB v 0 (if w = 0 then 999 else 9))) (E (ix w) (ix bd)) ((-1000001))))) (cond (inB bd 0 5 && (inB w 0 1 && inB v 0 (if w = 0 then 999 else 9))) (up E (ix w) (ix bd) v) (E)) (Kp) (cond (inB bd 0 5 && (inB w 0 1 && inB v 0 (if w = 0 then 999 else 9))) (Q) (fndS Q 0))) := by
  refine vMet_of (by decide) rfl ?_
  intro K hl hD hnL hret h hR hEx
  subst hl hD
  show V K (mW cI b (E, Kp, Bf, As, Q)) 0 [(0, .ref (b 0)), (1, .int bd), (2, .int w), (3, .int v)] []
  have hn8 := hW.1
  refine v_iload_n h pX4_bed_0 0 rfl 1 rfl rfl ?_
  refine v_callS h pX4_bed_0 1 mX4_46 (As := [.int bd]) (st := []) (kX4_isBed _ _ cI cS bd) v0B v0C (vEmb_u _) rfl rfl rfl rfl rfl (vDet_k ?_)
  show V K (mW cI b (E, Kp, Bf, As, Q)) 4 [(0, .ref (b 0)), (1, .int bd), (2, .int w), (3, .int v)] [.int (bI (inB bd 0 5))]
  refine v_bif_eq (tgt := 39) h pX4_bed_0 2 rfl rfl (fun c1 => ?_) (fun c1 => ?_)
  · skip
    refine v_aload_n h pX4_bed_0 19 rfl 0 rfl rfl (v_ldc h pX4_bed_0 20 wm_104 rfl ?_)
    refine v_callV h pX4_bed_0 21 mX4_42 (As := [.int (-1000001)]) (st := []) (kX4_finds _ _ cI cS b E Kp Bf As Q 0 (by decide) (-1000001) (by decide)) v0B v0C (vEmb_rf _ _) 0 rfl rfl rfl rfl rfl rfl rfl (vDet_k ?_)
    show V K (mW cI b (E, Kp, Bf, As, fndS Q 0)) 45 [(0, .ref (b 0)), (1, .int bd), (2, .int w), (3, .int v)] [.int (-1000001)]
    generalize hS2 : fndS Q 0 = S2
    exact v_iret h pX4_bed_0 22 hR hret rfl ((E, Kp, Bf, As, S2)) rfl ⟨vI (by simp [c1]), (by simp [c1, hS2]), rfl, (qR_of (by simp [c1, hS2]))⟩
  · skip
    obtain ⟨e_bd, l_bd⟩ := inB_t 5 rfl (by decide) c1
    refine v_iload_n h pX4_bed_0 3 rfl 2 rfl rfl (v_i2l h pX4_bed_0 4 rfl (v_lconst (v := (nI 0).toInt64) h pX4_bed_0 5 rfl kl_0 (v_lconst (v := (nI 1).toInt64) h pX4_bed_0 6 rfl kl_1 ?_)))
    refine v_callS h pX4_bed_0 7 mX4_50 (As := [.long w.toInt64, .long ((nI 0).toInt64), .long ((nI 1).toInt64)]) (st := []) (kX4_isIn _ _ cI cS w 0 1) v0B v0C (vEmb_u _) rfl rfl rfl rfl rfl (vDet_k ?_)
    show V K (mW cI b (E, Kp, Bf, As, Q)) 14 [(0, .ref (b 0)), (1, .int bd), (2, .int w), (3, .int v)] [.int (bI (inB w 0 1))]
    refine v_bif_eq (tgt := 39) h pX4_bed_0 8 rfl rfl (fun c3 => ?_) (fun c3 => ?_)
    · skip
      refine v_aload_n h pX4_bed_0 19 rfl 0 rfl rfl (v_ldc h pX4_bed_0 20 wm_104 rfl ?_)
      refine v_callV h pX4_bed_0 21 mX4_42 (As := [.int (-1000001)]) (st := []) (kX4_finds _ _ cI cS b E Kp Bf As Q 0 (by decide) (-1000001) (by decide)) v0B v0C (vEmb_rf _ _) 0 rfl rfl rfl rfl rfl rfl rfl (vDet_k ?_)
      show V K (mW cI b (E, Kp, Bf, As, fndS Q 0)) 45 [(0, .ref (b 0)), (1, .int bd), (2, .int w), (3, .int v)] [.int (-1000001)]
      generalize hS4 : fndS Q 0 = S4
      exact v_iret h pX4_bed_0 22 hR hret rfl ((E, Kp, Bf, As, S4)) rfl ⟨vI (by simp [c1, c3]), (by simp [c1, c3, hS4]), rfl, (qR_of (by simp [c1, c3, hS4]))⟩
    · skip
      obtain ⟨e_w, l_w⟩ := inB_t 1 rfl (by decide) c3
      refine v_iload_n h pX4_bed_0 9 rfl 3 rfl rfl (v_i2l h pX4_bed_0 10 rfl (v_lconst (v := (nI 0).toInt64) h pX4_bed_0 11 rfl kl_0 (v_iload_n h pX4_bed_0 12 rfl 2 rfl rfl ?_)))
      refine v_if_ne (tgt := 30) h pX4_bed_0 13 rfl rfl (fun c5 => ?_) (fun c5 => ?_)
      · skip
        refine v_ldc2 h pX4_bed_0 16 wm_103 rfl (v_top (w := .long (nI 9).toInt64) (kL 9 _ (by decide)) ?_)
        refine v_callS h pX4_bed_0 17 mX4_50 (As := [.long v.toInt64, .long ((nI 0).toInt64), .long ((nI 9).toInt64)]) (st := []) (kX4_isIn _ _ cI cS v 0 9) v0B v0C (vEmb_u _) rfl rfl rfl rfl rfl (vDet_k ?_)
        show V K (mW cI b (E, Kp, Bf, As, Q)) 36 [(0, .ref (b 0)), (1, .int bd), (2, .int w), (3, .int v)] [.int (bI (inB v 0 9))]
        refine v_bif_ne (tgt := 46) h pX4_bed_0 18 rfl rfl (fun c6 => ?_) (fun c6 => ?_)
        · skip
          refine v_aload_n h pX4_bed_0 23 rfl 0 rfl rfl (v_iconst h pX4_bed_0 24 rfl ki_4 (v_bipush h pX4_bed_0 25 rfl kb_6 (v_iload_n h pX4_bed_0 26 rfl 2 rfl rfl (v_top (w := .int (nI (ix w))) (congrArg Value.int e_w) (v_imuln h pX4_bed_0 27 6 (ix w) rfl ?_)))))
          refine v_iaddn h pX4_bed_0 28 4 (6 * (ix w)) rfl (v_iload_n h pX4_bed_0 29 rfl 1 rfl rfl (v_top (w := .int (nI (ix bd))) (congrArg Value.int e_bd) (v_iaddn h pX4_bed_0 30 (4 + 6 * (ix w)) (ix bd) rfl (v_iload_n h pX4_bed_0 31 rfl 3 rfl rfl ?_))))
          refine v_callV h pX4_bed_1 0 mX4_58 (As := [.int (nI (4 + 6 * (ix w) + ix bd)), .int v]) (st := []) (kX4_becomes _ _ cI cS b E Kp Bf As Q (4 + 6 * (ix w) + ix bd) (by omega) (ix w) (ix bd) (flR_b (by omega) (by omega)) (flI_b (by omega) (by omega)) (fl_b _ (by omega) (by omega)) v) v0B v0C (vEmb_rf _ _) 0 rfl rfl rfl rfl rfl rfl rfl (vDet_k ?_)
          show V K (mW cI b (up E (ix w) (ix bd) v, Kp, Bf, As, Q)) 59 [(0, .ref (b 0)), (1, .int bd), (2, .int w), (3, .int v)] [.int (E (ix w) (ix bd))]
          generalize hS7 : up E (ix w) (ix bd) v = S7
          exact v_iret h pX4_bed_1 1 hR hret rfl ((S7, Kp, Bf, As, Q)) rfl ⟨vI (by simp [c1, c3, c5, c6]), (by simp [c1, c3, c5, c6, hS7]), rfl, (qR_of (by simp [c1, c3, c5, c6, hS7]))⟩
        · skip
          refine v_aload_n h pX4_bed_0 19 rfl 0 rfl rfl (v_ldc h pX4_bed_0 20 wm_104 rfl ?_)
          refine v_callV h pX4_bed_0 21 mX4_42 (As := [.int (-1000001)]) (st := []) (kX4_finds _ _ cI cS b E Kp Bf As Q 0 (by decide) (-1000001) (by decide)) v0B v0C (vEmb_rf _ _) 0 rfl rfl rfl rfl rfl rfl rfl (vDet_k ?_)
          show V K (mW cI b (E, Kp, Bf, As, fndS Q 0)) 45 [(0, .ref (b 0)), (1, .int bd), (2, .int w), (3, .int v)] [.int (-1000001)]
          generalize hS8 : fndS Q 0 = S8
          exact v_iret h pX4_bed_0 22 hR hret rfl ((E, Kp, Bf, As, S8)) rfl ⟨vI (by simp [c1, c3, c5, c6]), (by simp [c1, c3, c5, c6, hS8]), rfl, (qR_of (by simp [c1, c3, c5, c6, hS8]))⟩
      · skip
        refine v_ldc2 h pX4_bed_0 14 wm_102 rfl (v_top (w := .long (nI 999).toInt64) (kL 999 _ (by decide)) (v_goto (tgt := 33) h pX4_bed_0 15 rfl rfl ?_))
        refine v_callS h pX4_bed_0 17 mX4_50 (As := [.long v.toInt64, .long ((nI 0).toInt64), .long ((nI 999).toInt64)]) (st := []) (kX4_isIn _ _ cI cS v 0 999) v0B v0C (vEmb_u _) rfl rfl rfl rfl rfl (vDet_k ?_)
        show V K (mW cI b (E, Kp, Bf, As, Q)) 36 [(0, .ref (b 0)), (1, .int bd), (2, .int w), (3, .int v)] [.int (bI (inB v 0 999))]
        refine v_bif_ne (tgt := 46) h pX4_bed_0 18 rfl rfl (fun c9 => ?_) (fun c9 => ?_)
        · skip
          refine v_aload_n h pX4_bed_0 23 rfl 0 rfl rfl (v_iconst h pX4_bed_0 24 rfl ki_4 (v_bipush h pX4_bed_0 25 rfl kb_6 (v_iload_n h pX4_bed_0 26 rfl 2 rfl rfl (v_top (w := .int (nI (ix w))) (congrArg Value.int e_w) (v_imuln h pX4_bed_0 27 6 (ix w) rfl ?_)))))
          refine v_iaddn h pX4_bed_0 28 4 (6 * (ix w)) rfl (v_iload_n h pX4_bed_0 29 rfl 1 rfl rfl (v_top (w := .int (nI (ix bd))) (congrArg Value.int e_bd) (v_iaddn h pX4_bed_0 30 (4 + 6 * (ix w)) (ix bd) rfl (v_iload_n h pX4_bed_0 31 rfl 3 rfl rfl ?_))))
          refine v_callV h pX4_bed_1 0 mX4_58 (As := [.int (nI (4 + 6 * (ix w) + ix bd)), .int v]) (st := []) (kX4_becomes _ _ cI cS b E Kp Bf As Q (4 + 6 * (ix w) + ix bd) (by omega) (ix w) (ix bd) (flR_b (by omega) (by omega)) (flI_b (by omega) (by omega)) (fl_b _ (by omega) (by omega)) v) v0B v0C (vEmb_rf _ _) 0 rfl rfl rfl rfl rfl rfl rfl (vDet_k ?_)
          show V K (mW cI b (up E (ix w) (ix bd) v, Kp, Bf, As, Q)) 59 [(0, .ref (b 0)), (1, .int bd), (2, .int w), (3, .int v)] [.int (E (ix w) (ix bd))]
          generalize hS10 : up E (ix w) (ix bd) v = S10
          exact v_iret h pX4_bed_1 1 hR hret rfl ((S10, Kp, Bf, As, Q)) rfl ⟨vI (by simp [c1, c3, (eq_true c5), c9]), (by simp [c1, c3, (eq_true c5), c9, hS10]), rfl, (qR_of (by simp [c1, c3, (eq_true c5), c9, hS10]))⟩
        · skip
          refine v_aload_n h pX4_bed_0 19 rfl 0 rfl rfl (v_ldc h pX4_bed_0 20 wm_104 rfl ?_)
          refine v_callV h pX4_bed_0 21 mX4_42 (As := [.int (-1000001)]) (st := []) (kX4_finds _ _ cI cS b E Kp Bf As Q 0 (by decide) (-1000001) (by decide)) v0B v0C (vEmb_rf _ _) 0 rfl rfl rfl rfl rfl rfl rfl (vDet_k ?_)
          show V K (mW cI b (E, Kp, Bf, As, fndS Q 0)) 45 [(0, .ref (b 0)), (1, .int bd), (2, .int w), (3, .int v)] [.int (-1000001)]
          generalize hS11 : fndS Q 0 = S11
          exact v_iret h pX4_bed_0 22 hR hret rfl ((E, Kp, Bf, As, S11)) rfl ⟨vI (by simp [c1, c3, (eq_true c5), c9]), (by simp [c1, c3, (eq_true c5), c9, hS11]), rfl, (qR_of (by simp [c1, c3, (eq_true c5), c9, hS11]))⟩
set_option maxHeartbeats 300000 in
set_option maxRecDepth 100000 in
theorem kX4_bedOf (l : Launch) (D : va_G) (cI cS : ClassId) (b : Nat → Nat) (E Kp Bf As Q : Nat → Nat → Int32) (n : Nat) (hW : Wf E n) (yb : Nat) (hY : bd (E 9 2) yb) (hyb : yb ≤ 99000) (bd w : Int32) : vMet l D (vT cI cS) yX4_bedOf cX4_bedOf 5 (some .int) 1 25 (mW cI b) v0 [.ref (b 0), .int bd, .int w] (E, Kp, Bf, As, Q) (mPost (some (.int (cond (inB bd 0 5 && inB w 0 2) (if w = 0 then E 0 (ix bd) else if w = 1 then E 1 (ix bd) else setS (fun j => decide (E 3 j = bd)) n) ((-1000001))))) (E) (Kp) (cond (inB bd 0 5 && inB w 0 2) (Q) (fndS Q 0))) := by
  refine vMet_of (by decide) rfl ?_
  intro K hl hD hnL hret h hR hEx
  subst hl hD
  show V K (mW cI b (E, Kp, Bf, As, Q)) 0 [(0, .ref (b 0)), (1, .int bd), (2, .int w)] []
  have hn8 := hW.1
  refine v_iload_n h pX4_bedOf_0 0 rfl 1 rfl rfl ?_
  refine v_callS h pX4_bedOf_0 1 mX4_46 (As := [.int bd]) (st := []) (kX4_isBed _ _ cI cS bd) v0B v0C (vEmb_u _) rfl rfl rfl rfl rfl (vDet_k ?_)
  show V K (mW cI b (E, Kp, Bf, As, Q)) 4 [(0, .ref (b 0)), (1, .int bd), (2, .int w)] [.int (bI (inB bd 0 5))]
  refine v_bif_eq (tgt := 19) h pX4_bedOf_0 2 rfl rfl (fun c1 => ?_) (fun c1 => ?_)
  · skip
    refine v_aload_n h pX4_bedOf_0 9 rfl 0 rfl rfl (v_ldc h pX4_bedOf_0 10 wm_104 rfl ?_)
    refine v_callV h pX4_bedOf_0 11 mX4_42 (As := [.int (-1000001)]) (st := []) (kX4_finds _ _ cI cS b E Kp Bf As Q 0 (by decide) (-1000001) (by decide)) v0B v0C (vEmb_rf _ _) 0 rfl rfl rfl rfl rfl rfl rfl (vDet_k ?_)
    show V K (mW cI b (E, Kp, Bf, As, fndS Q 0)) 25 [(0, .ref (b 0)), (1, .int bd), (2, .int w)] [.int (-1000001)]
    generalize hS2 : fndS Q 0 = S2
    exact v_iret h pX4_bedOf_0 12 hR hret rfl ((E, Kp, Bf, As, S2)) rfl ⟨vI (by first | (simp [c1]; done) | (rcases (show ix w = 0 ∨ ix w = 1 by omega) with q | q <;> simp [c1, c3, w_0 e_w (by omega), w_1 e_w (by omega), q]; done) | (simp [c1, c3, w_0 e_w (by omega), w_1 e_w (by omega), show ¬ ix w = 0 by omega, show ¬ ix w = 1 by omega])), rfl, rfl, (qR_of (by simp [c1, hS2]))⟩
  · skip
    obtain ⟨e_bd, l_bd⟩ := inB_t 5 rfl (by decide) c1
    refine v_iload_n h pX4_bedOf_0 3 rfl 2 rfl rfl (v_i2l h pX4_bedOf_0 4 rfl (v_lconst (v := (nI 0).toInt64) h pX4_bedOf_0 5 rfl kl_0 (v_ldc2 h pX4_bedOf_0 6 wm_131 rfl (v_top (w := .long (nI 2).toInt64) (kL 2 _ (by decide)) ?_))))
    refine v_callS h pX4_bedOf_0 7 mX4_50 (As := [.long w.toInt64, .long ((nI 0).toInt64), .long ((nI 2).toInt64)]) (st := []) (kX4_isIn _ _ cI cS w 0 2) v0B v0C (vEmb_u _) rfl rfl rfl rfl rfl (vDet_k ?_)
    show V K (mW cI b (E, Kp, Bf, As, Q)) 16 [(0, .ref (b 0)), (1, .int bd), (2, .int w)] [.int (bI (inB w 0 2))]
    refine v_bif_ne (tgt := 26) h pX4_bedOf_0 8 rfl rfl (fun c3 => ?_) (fun c3 => ?_)
    · skip
      obtain ⟨e_w, l_w⟩ := inB_t 2 rfl (by decide) c3
      refine v_iload_n h pX4_bedOf_0 13 rfl 2 rfl rfl (v_top (w := .int (nI (ix w))) (congrArg Value.int e_w) (v_iconst h pX4_bedOf_0 14 rfl ki_2 ?_))
      refine v_ncmp_ge (a := ix w) (b := 2) (tgt := 45) h pX4_bedOf_0 15 rfl rfl (by omega) (by omega) (fun c4 => ?_) (fun c4 => ?_)
      · skip
        refine v_iconst h pX4_bedOf_0 27 rfl ki_0 (v_istore_n h pX4_bedOf_0 28 (lv' := [(3, .int 0), (0, .ref (b 0)), (1, .int bd), (2, .int w)]) rfl rfl hnL rfl rfl (v_iconst h pX4_bedOf_0 29 rfl ki_0 (v_istore h pX4_bedOf_0 30 (lv' := [(4, .int 0), (3, .int 0), (0, .ref (b 0)), (1, .int bd), (2, .int w)]) rfl hnL rfl rfl ?_)))
        refine v_lv [2, 3, 4, 1, 0] (lv' := [(0, .ref (b 0)), (1, .int bd), (2, .int w), (3, .int 0), (4, .int 0)]) rfl ?_
        have L5 : ∀ (m i5 : Nat), i5 ≤ n → n + 1 ≤ i5 + m → V K (mW cI b (E, Kp, Bf, As, Q)) 50 [(0, .ref (b 0)), (1, .int bd), (2, .int w), (3, .int (setS (fun j => decide (E 3 j = bd)) i5)), (4, .int (nI i5))] [] := by
          intro m
          induction m with
          | zero => exact fun i5 h1 h2 => absurd h2 (by omega)
          | succ m ih5 =>
            intro i5 hle5 hlt5
            refine v_iload h pX4_bedOf_0 31 rfl 4 rfl (v_aload_n h pX4_bedOf_1 0 rfl 0 rfl rfl (v_get h pX4_bedOf_1 1 fX4_7 0 rfl rfl rfl (v_iconst h pX4_bedOf_1 2 rfl ki_0 (v_iald h pX4_bedOf_1 3 0 1 0 rfl rfl rfl rfl rfl (by omega) (v_top (w := .int (E 9 0)) (congrArg Value.int rfl) ?_)))))
            refine v_top (w := .int (nI n)) (congrArg Value.int hW.2.1) ?_
            refine v_ncmp_ge (a := i5) (b := n) (tgt := 89) h pX4_bedOf_1 4 rfl rfl (by omega) (by omega) (fun c6 => ?_) (fun c6 => ?_)
            · skip
              obtain rfl : n = i5 := by omega
              refine v_iload_n h pX4_bedOf_1 21 rfl 3 rfl rfl ?_
              exact v_iret h pX4_bedOf_1 22 hR hret rfl ((E, Kp, Bf, As, Q)) rfl ⟨vI (by first | (simp [c1, c3, c4, c6]; done) | (rcases (show ix w = 0 ∨ ix w = 1 by omega) with q | q <;> simp [c1, c3, w_0 e_w (by omega), w_1 e_w (by omega), q]; done) | (simp [c1, c3, w_0 e_w (by omega), w_1 e_w (by omega), show ¬ ix w = 0 by omega, show ¬ ix w = 1 by omega])), rfl, rfl, (qR_of (by simp [c1, c3, c4, c6, True]))⟩
            · skip
              refine v_iload_n h pX4_bedOf_1 5 rfl 3 rfl rfl (v_aload_n h pX4_bedOf_1 6 rfl 0 rfl rfl (v_iload h pX4_bedOf_1 7 rfl 4 rfl (v_iconst h pX4_bedOf_1 8 rfl ki_1 ?_)))
              refine v_callV h pX4_bedOf_1 9 mX4_64 (As := [.int (nI i5), .int 1]) (st := [.int (setS (fun j => decide (E 3 j = bd)) i5)]) (kX4_its _ _ cI cS b E Kp Bf As Q i5 1 (by omega) (by omega)) v0B v0C (vEmb_rf _ _) 0 rfl rfl rfl rfl rfl rfl rfl (vDet_k ?_)
              show V K (mW cI b (E, Kp, Bf, As, Q)) 69 [(0, .ref (b 0)), (1, .int bd), (2, .int w), (3, .int (setS (fun j => decide (E 3 j = bd)) i5)), (4, .int (nI i5))] [.int (E 3 i5), .int (setS (fun j => decide (E 3 j = bd)) i5)]
              refine v_iload_n h pX4_bedOf_1 10 rfl 1 rfl rfl ?_
              refine v_icmp_ne (tgt := 80) h pX4_bedOf_1 11 rfl rfl (fun c7 => ?_) (fun c7 => ?_)
              · skip
                refine v_iconst h pX4_bedOf_1 16 rfl ki_0 (v_ior h pX4_bedOf_1 17 rfl (v_istore_n h pX4_bedOf_1 18 (lv' := [(3, .int ((setS (fun j => decide (E 3 j = bd)) i5) ||| 0)), (0, .ref (b 0)), (1, .int bd), (2, .int w), (4, .int (nI i5))]) rfl rfl hnL rfl rfl (v_iinc h pX4_bedOf_1 19 (v := nI (i5 + 1)) (lv' := [(4, .int (nI (i5 + 1))), (3, .int ((setS (fun j => decide (E 3 j = bd)) i5) ||| 0)), (0, .ref (b 0)), (1, .int bd), (2, .int w)]) rfl 4 rfl hnL rfl rfl (nI_1 i5) (v_goto (tgt := 50) h pX4_bedOf_1 20 rfl rfl (v_lv [2, 3, 4, 1, 0] (lv' := [(0, .ref (b 0)), (1, .int bd), (2, .int w), (3, .int ((setS (fun j => decide (E 3 j = bd)) i5) ||| 0)), (4, .int (nI (i5 + 1)))]) rfl ?_)))))
                refine v_eql (congrArg (fun z : Int32 => ([(0, .ref (b 0)), (1, .int bd), (2, .int w), (3, .int z), (4, .int (nI (i5 + 1)))] : List (Nat × Value))) (by simp [setS, c1, c3, c4, c6, c7] : (setS (fun j => decide (E 3 j = bd)) i5) ||| 0 = setS (fun j => decide (E 3 j = bd)) (i5 + 1))) ?_
                exact ih5 (i5 + 1) (by omega) (by omega)
              · skip
                refine v_iconst h pX4_bedOf_1 12 rfl ki_1 (v_iload h pX4_bedOf_1 13 rfl 4 rfl (v_ishl h pX4_bedOf_1 14 rfl (v_goto (tgt := 81) h pX4_bedOf_1 15 rfl rfl (v_ior h pX4_bedOf_1 17 rfl (v_istore_n h pX4_bedOf_1 18 (lv' := [(3, .int ((setS (fun j => decide (E 3 j = bd)) i5) ||| (1 <<< ((nI i5) &&& 31)))), (0, .ref (b 0)), (1, .int bd), (2, .int w), (4, .int (nI i5))]) rfl rfl hnL rfl rfl ?_)))))
                refine v_iinc h pX4_bedOf_1 19 (v := nI (i5 + 1)) (lv' := [(4, .int (nI (i5 + 1))), (3, .int ((setS (fun j => decide (E 3 j = bd)) i5) ||| (1 <<< ((nI i5) &&& 31)))), (0, .ref (b 0)), (1, .int bd), (2, .int w)]) rfl 4 rfl hnL rfl rfl (nI_1 i5) (v_goto (tgt := 50) h pX4_bedOf_1 20 rfl rfl (v_lv [2, 3, 4, 1, 0] (lv' := [(0, .ref (b 0)), (1, .int bd), (2, .int w), (3, .int ((setS (fun j => decide (E 3 j = bd)) i5) ||| (1 <<< ((nI i5) &&& 31)))), (4, .int (nI (i5 + 1)))]) rfl (v_eql (congrArg (fun z : Int32 => ([(0, .ref (b 0)), (1, .int bd), (2, .int w), (3, .int z), (4, .int (nI (i5 + 1)))] : List (Nat × Value))) (by simp [setS, c1, c3, c4, c6, c7] : (setS (fun j => decide (E 3 j = bd)) i5) ||| (1 <<< ((nI i5) &&& 31)) = setS (fun j => decide (E 3 j = bd)) (i5 + 1))) ?_)))
                exact ih5 (i5 + 1) (by omega) (by omega)
        exact L5 (n + 1) 0 (by omega) (by omega)
      · skip
        refine v_aload_n h pX4_bedOf_0 16 rfl 0 rfl rfl (v_get h pX4_bedOf_0 17 fX4_7 0 rfl rfl rfl (v_iconst h pX4_bedOf_0 18 rfl ki_4 (v_bipush h pX4_bedOf_0 19 rfl kb_6 (v_iload_n h pX4_bedOf_0 20 rfl 2 rfl rfl (v_top (w := .int (nI (ix w))) (congrArg Value.int e_w) ?_)))))
        refine v_imuln h pX4_bedOf_0 21 6 (ix w) rfl (v_iaddn h pX4_bedOf_0 22 4 (6 * (ix w)) rfl (v_iload_n h pX4_bedOf_0 23 rfl 1 rfl rfl (v_top (w := .int (nI (ix bd))) (congrArg Value.int e_bd) (v_iaddn h pX4_bedOf_0 24 (4 + 6 * (ix w)) (ix bd) rfl (v_iald h pX4_bedOf_0 25 (4 + 6 * (ix w) + ix bd) 1 0 rfl rfl rfl rfl rfl (by omega) ?_)))))
        refine v_top (w := .int (E (ix w) (ix bd))) (congrArg Value.int (fl_b _ (by omega) (by omega))) ?_
        exact v_iret h pX4_bedOf_0 26 hR hret rfl ((E, Kp, Bf, As, Q)) rfl ⟨vI (by first | (simp [c1, c3, c4]; done) | (rcases (show ix w = 0 ∨ ix w = 1 by omega) with q | q <;> simp [c1, c3, w_0 e_w (by omega), w_1 e_w (by omega), q]; done) | (simp [c1, c3, w_0 e_w (by omega), w_1 e_w (by omega), show ¬ ix w = 0 by omega, show ¬ ix w = 1 by omega])), rfl, rfl, (qR_of (by simp [c1, c3, c4, True]))⟩
    · skip
      refine v_aload_n h pX4_bedOf_0 9 rfl 0 rfl rfl (v_ldc h pX4_bedOf_0 10 wm_104 rfl ?_)
      refine v_callV h pX4_bedOf_0 11 mX4_42 (As := [.int (-1000001)]) (st := []) (kX4_finds _ _ cI cS b E Kp Bf As Q 0 (by decide) (-1000001) (by decide)) v0B v0C (vEmb_rf _ _) 0 rfl rfl rfl rfl rfl rfl rfl (vDet_k ?_)
      show V K (mW cI b (E, Kp, Bf, As, fndS Q 0)) 25 [(0, .ref (b 0)), (1, .int bd), (2, .int w)] [.int (-1000001)]
      generalize hS8 : fndS Q 0 = S8
      exact v_iret h pX4_bedOf_0 12 hR hret rfl ((E, Kp, Bf, As, S8)) rfl ⟨vI (by first | (simp [c1, c3]; done) | (rcases (show ix w = 0 ∨ ix w = 1 by omega) with q | q <;> simp [c1, c3, w_0 e_w (by omega), w_1 e_w (by omega), q]; done) | (simp [c1, c3, w_0 e_w (by omega), w_1 e_w (by omega), show ¬ ix w = 0 by omega, show ¬ ix w = 1 by omega])), rfl, rfl, (qR_of (by simp [c1, c3, hS8]))⟩
set_option maxHeartbeats 300000 in
set_option maxRecDepth 100000 in
theorem kX4_comes (l : Launch) (D : va_G) (cI cS : ClassId) (b : Nat → Nat) (E Kp Bf As Q : Nat → Nat → Int32) (n : Nat) (hW : Wf E n) (yb : Nat) (hY : bd (E 9 2) yb) (hyb : yb ≤ 99000) (v : Int32) : vMet l D (vT cI cS) yX4_comes cX4_comes 2 (some .int) 1 25 (mW cI b) v0 [.ref (b 0), .int v] (E, Kp, Bf, As, Q) (mPost (some (.int (cond (inB v 0 99) (E 9 1) ((-1000001))))) (cond (inB v 0 99) (up E 9 1 v) (E)) (Kp) (cond (inB v 0 99) (Q) (fndS Q 0))) := by
  refine vMet_of (by decide) rfl ?_
  intro K hl hD hnL hret h hR hEx
  subst hl hD
  show V K (mW cI b (E, Kp, Bf, As, Q)) 0 [(0, .ref (b 0)), (1, .int v)] []
  have hn8 := hW.1
  refine v_iload_n h pX4_comes_0 0 rfl 1 rfl rfl (v_i2l h pX4_comes_0 1 rfl (v_lconst (v := (nI 0).toInt64) h pX4_comes_0 2 rfl kl_0 (v_ldc2 h pX4_comes_0 3 wm_145 rfl (v_top (w := .long (nI 99).toInt64) (kL 99 _ (by decide)) ?_))))
  refine v_callS h pX4_comes_0 4 mX4_50 (As := [.long v.toInt64, .long ((nI 0).toInt64), .long ((nI 99).toInt64)]) (st := []) (kX4_isIn _ _ cI cS v 0 99) v0B v0C (vEmb_u _) rfl rfl rfl rfl rfl (vDet_k ?_)
  show V K (mW cI b (E, Kp, Bf, As, Q)) 9 [(0, .ref (b 0)), (1, .int v)] [.int (bI (inB v 0 99))]
  refine v_bif_eq (tgt := 21) h pX4_comes_0 5 rfl rfl (fun c1 => ?_) (fun c1 => ?_)
  · skip
    refine v_aload_n h pX4_comes_0 11 rfl 0 rfl rfl (v_ldc h pX4_comes_0 12 wm_104 rfl ?_)
    refine v_callV h pX4_comes_0 13 mX4_42 (As := [.int (-1000001)]) (st := []) (kX4_finds _ _ cI cS b E Kp Bf As Q 0 (by decide) (-1000001) (by decide)) v0B v0C (vEmb_rf _ _) 0 rfl rfl rfl rfl rfl rfl rfl (vDet_k ?_)
    show V K (mW cI b (E, Kp, Bf, As, fndS Q 0)) 27 [(0, .ref (b 0)), (1, .int v)] [.int (-1000001)]
    generalize hS2 : fndS Q 0 = S2
    exact v_iret h pX4_comes_0 14 hR hret rfl ((E, Kp, Bf, As, S2)) rfl ⟨vI (by simp [c1]), (by simp [c1, hS2]), rfl, (qR_of (by simp [c1, hS2]))⟩
  · skip
    refine v_aload_n h pX4_comes_0 6 rfl 0 rfl rfl (v_iconst h pX4_comes_0 7 rfl ki_3 (v_iload_n h pX4_comes_0 8 rfl 1 rfl rfl ?_))
    refine v_callV h pX4_comes_0 9 mX4_58 (As := [.int 3, .int v]) (st := []) (kX4_becomes _ _ cI cS b E Kp Bf As Q 3 (by omega) 9 1 rfl rfl rfl v) v0B v0C (vEmb_rf _ _) 0 rfl rfl rfl rfl rfl rfl rfl (vDet_k ?_)
    show V K (mW cI b (up E 9 1 v, Kp, Bf, As, Q)) 18 [(0, .ref (b 0)), (1, .int v)] [.int (E 9 1)]
    generalize hS3 : up E 9 1 v = S3
    refine v_goto (tgt := 27) h pX4_comes_0 10 rfl rfl ?_
    exact v_iret h pX4_comes_0 14 hR hret rfl ((S3, Kp, Bf, As, Q)) rfl ⟨vI (by simp [c1]), (by simp [c1, hS3]), rfl, (qR_of (by simp [c1, hS3]))⟩
set_option maxHeartbeats 300000 in
set_option maxRecDepth 100000 in
theorem kX4_oyster (l : Launch) (D : va_G) (cI cS : ClassId) (b : Nat → Nat) (E Kp Bf As Q : Nat → Nat → Int32) (n : Nat) (hW : Wf E n) (yb : Nat) (hY : bd (E 9 2) yb) (hyb : yb ≤ 99000) (kd bd : Int32) : vMet l D (vT cI cS) yX4_oyster cX4_oyster 3 (some .int) 2 44 (mW cI b) v0 [.ref (b 0), .int kd, .int bd] (E, Kp, Bf, As, Q) (mPost (some (.int (cond (inB kd 0 6 && inB bd 0 5) (if n = 8 then (-1000002) else nI n) ((-1000001))))) (cond (inB kd 0 6 && inB bd 0 5) (if n = 8 then E else newS E n kd bd) (E)) (Kp) (cond (inB kd 0 6 && inB bd 0 5) (if n = 8 then fndS Q 1 else Q) (fndS Q 0))) := by
  refine vMet_of (by decide) rfl ?_
  intro K hl hD hnL hret h hR hEx
  subst hl hD
  show V K (mW cI b (E, Kp, Bf, As, Q)) 0 [(0, .ref (b 0)), (1, .int kd), (2, .int bd)] []
  have hn8 := hW.1
  refine v_iload_n h pX4_oyster_0 0 rfl 1 rfl rfl (v_i2l h pX4_oyster_0 1 rfl (v_lconst (v := (nI 0).toInt64) h pX4_oyster_0 2 rfl kl_0 (v_ldc2 h pX4_oyster_0 3 wm_170 rfl (v_top (w := .long (nI 6).toInt64) (kL 6 _ (by decide)) ?_))))
  refine v_callS h pX4_oyster_0 4 mX4_50 (As := [.long kd.toInt64, .long ((nI 0).toInt64), .long ((nI 6).toInt64)]) (st := []) (kX4_isIn _ _ cI cS kd 0 6) v0B v0C (vEmb_u _) rfl rfl rfl rfl rfl (vDet_k ?_)
  show V K (mW cI b (E, Kp, Bf, As, Q)) 9 [(0, .ref (b 0)), (1, .int kd), (2, .int bd)] [.int (bI (inB kd 0 6))]
  refine v_bif_eq (tgt := 19) h pX4_oyster_0 5 rfl rfl (fun c1 => ?_) (fun c1 => ?_)
  · skip
    refine v_aload_n h pX4_oyster_0 9 rfl 0 rfl rfl (v_ldc h pX4_oyster_0 10 wm_104 rfl ?_)
    refine v_callV h pX4_oyster_0 11 mX4_42 (As := [.int (-1000001)]) (st := []) (kX4_finds _ _ cI cS b E Kp Bf As Q 0 (by decide) (-1000001) (by decide)) v0B v0C (vEmb_rf _ _) 0 rfl rfl rfl rfl rfl rfl rfl (vDet_k ?_)
    show V K (mW cI b (E, Kp, Bf, As, fndS Q 0)) 25 [(0, .ref (b 0)), (1, .int kd), (2, .int bd)] [.int (-1000001)]
    generalize hS2 : fndS Q 0 = S2
    exact v_iret h pX4_oyster_0 12 hR hret rfl ((E, Kp, Bf, As, S2)) rfl ⟨vI (by simp [c1]), (by simp [c1, hS2]), rfl, (qR_of (by simp [c1, hS2]))⟩
  · skip
    refine v_iload_n h pX4_oyster_0 6 rfl 2 rfl rfl ?_
    refine v_callS h pX4_oyster_0 7 mX4_46 (As := [.int bd]) (st := []) (kX4_isBed _ _ cI cS bd) v0B v0C (vEmb_u _) rfl rfl rfl rfl rfl (vDet_k ?_)
    show V K (mW cI b (E, Kp, Bf, As, Q)) 16 [(0, .ref (b 0)), (1, .int kd), (2, .int bd)] [.int (bI (inB bd 0 5))]
    refine v_bif_ne (tgt := 26) h pX4_oyster_0 8 rfl rfl (fun c3 => ?_) (fun c3 => ?_)
    · skip
      refine v_aload_n h pX4_oyster_0 13 rfl 0 rfl rfl (v_get h pX4_oyster_0 14 fX4_7 0 rfl rfl rfl (v_iconst h pX4_oyster_0 15 rfl ki_0 (v_iald h pX4_oyster_0 16 0 1 0 rfl rfl rfl rfl rfl (by omega) (v_top (w := .int (E 9 0)) (congrArg Value.int rfl) (v_top (w := .int (nI n)) (congrArg Value.int hW.2.1) ?_)))))
      refine v_bipush h pX4_oyster_0 17 rfl kb_8 ?_
      refine v_ncmp_ne (a := n) (b := 8) (tgt := 44) h pX4_oyster_0 18 rfl rfl (by omega) (by omega) (fun c4 => ?_) (fun c4 => ?_)
      · skip
        have hn7 : n < 8 := by omega
        refine v_aload_n h pX4_oyster_0 23 rfl 0 rfl rfl (v_iload_n h pX4_oyster_0 24 rfl 1 rfl rfl (v_iload_n h pX4_oyster_0 25 rfl 2 rfl rfl ?_))
        refine v_callV h pX4_oyster_0 26 mX4_75 (As := [.int kd, .int bd]) (st := []) (kX4_comesNew _ _ cI cS b E Kp Bf As Q n hW (by omega) kd bd) v0B v0C (vEmb_rf _ _) 0 rfl rfl rfl rfl rfl rfl rfl (vDet_k ?_)
        show V K (mW cI b (newS E n kd bd, Kp, Bf, As, Q)) 50 [(0, .ref (b 0)), (1, .int kd), (2, .int bd)] []
        generalize hS5 : newS E n kd bd = S5
        refine v_aload_n h pX4_oyster_0 27 rfl 0 rfl rfl (v_get h pX4_oyster_0 28 fX4_7 0 rfl rfl rfl (v_iconst h pX4_oyster_0 29 rfl ki_0 (v_iald h pX4_oyster_0 30 0 1 0 rfl rfl rfl rfl rfl (by omega) (v_top (w := .int (S5 9 0)) (congrArg Value.int rfl) ?_))))
        refine v_top (w := .int (nI (n + 1))) (congrArg Value.int (show S5 9 0 = nI (n + 1) by rw [← hS5]; rfl)) (v_iconst h pX4_oyster_0 31 rfl ki_1 (v_isub h pX4_oyster_1 0 rfl ?_))
        refine v_top (w := .int (nI n)) (congrArg Value.int (nI_prd n)) ?_
        exact v_iret h pX4_oyster_1 1 hR hret rfl ((S5, Kp, Bf, As, Q)) rfl ⟨vI (by simp [c1, c3, c4]), (by simp [c1, c3, c4, hS5]), rfl, (qR_of (by simp [c1, c3, c4, hS5]))⟩
      · skip
        refine v_aload_n h pX4_oyster_0 19 rfl 0 rfl rfl (v_ldc h pX4_oyster_0 20 wm_171 rfl ?_)
        refine v_callV h pX4_oyster_0 21 mX4_42 (As := [.int (-1000002)]) (st := []) (kX4_finds _ _ cI cS b E Kp Bf As Q 1 (by decide) (-1000002) (by decide)) v0B v0C (vEmb_rf _ _) 0 rfl rfl rfl rfl rfl rfl rfl (vDet_k ?_)
        show V K (mW cI b (E, Kp, Bf, As, fndS Q 1)) 43 [(0, .ref (b 0)), (1, .int kd), (2, .int bd)] [.int (-1000002)]
        generalize hS6 : fndS Q 1 = S6
        exact v_iret h pX4_oyster_0 22 hR hret rfl ((E, Kp, Bf, As, S6)) rfl ⟨vI (by simp [c1, c3, (eq_true c4)]), (by simp [c1, c3, (eq_true c4), hS6]), rfl, (qR_of (by simp [c1, c3, (eq_true c4), hS6]))⟩
    · skip
      refine v_aload_n h pX4_oyster_0 9 rfl 0 rfl rfl (v_ldc h pX4_oyster_0 10 wm_104 rfl ?_)
      refine v_callV h pX4_oyster_0 11 mX4_42 (As := [.int (-1000001)]) (st := []) (kX4_finds _ _ cI cS b E Kp Bf As Q 0 (by decide) (-1000001) (by decide)) v0B v0C (vEmb_rf _ _) 0 rfl rfl rfl rfl rfl rfl rfl (vDet_k ?_)
      show V K (mW cI b (E, Kp, Bf, As, fndS Q 0)) 25 [(0, .ref (b 0)), (1, .int kd), (2, .int bd)] [.int (-1000001)]
      generalize hS7 : fndS Q 0 = S7
      exact v_iret h pX4_oyster_0 12 hR hret rfl ((E, Kp, Bf, As, S7)) rfl ⟨vI (by simp [c1, c3]), (by simp [c1, c3, hS7]), rfl, (qR_of (by simp [c1, c3, hS7]))⟩
set_option maxHeartbeats 300000 in
set_option maxRecDepth 100000 in
theorem kX4_of (l : Launch) (D : va_G) (cI cS : ClassId) (b : Nat → Nat) (E Kp Bf As Q : Nat → Nat → Int32) (n : Nat) (hW : Wf E n) (yb : Nat) (hY : bd (E 9 2) yb) (hyb : yb ≤ 99000) (y w : Int32) : vMet l D (vT cI cS) yX4_of cX4_of 3 (some .int) 3 66 (mW cI b) v0 [.ref (b 0), .int y, .int w] (E, Kp, Bf, As, Q) (mPost (some (.int (cond (oyB y n && inB w 0 9) (ofS E (ix y) w) ((-1000001))))) (E) (Kp) (cond (oyB y n && inB w 0 9) (Q) (fndS Q 0))) := by
  refine vMet_of (by decide) rfl ?_
  intro K hl hD hnL hret h hR hEx
  subst hl hD
  show V K (mW cI b (E, Kp, Bf, As, Q)) 0 [(0, .ref (b 0)), (1, .int y), (2, .int w)] []
  have hn8 := hW.1
  refine v_aload_n h pX4_of_0 0 rfl 0 rfl rfl (v_iload_n h pX4_of_0 1 rfl 1 rfl rfl ?_)
  refine v_callV h pX4_of_0 2 mX4_88 (As := [.int y]) (st := []) (kX4_isOyster _ _ cI cS b E Kp Bf As Q n hW.2.1 y) v0B v0C (vEmb_rf _ _) 0 rfl rfl rfl rfl rfl rfl rfl (vDet_k ?_)
  show V K (mW cI b (E, Kp, Bf, As, Q)) 5 [(0, .ref (b 0)), (1, .int y), (2, .int w)] [.int (bI (oyB y n))]
  refine v_bif_eq (tgt := 20) h pX4_of_0 3 rfl rfl (fun c1 => ?_) (fun c1 => ?_)
  · skip
    refine v_aload_n h pX4_of_0 10 rfl 0 rfl rfl (v_ldc h pX4_of_0 11 wm_104 rfl ?_)
    refine v_callV h pX4_of_0 12 mX4_42 (As := [.int (-1000001)]) (st := []) (kX4_finds _ _ cI cS b E Kp Bf As Q 0 (by decide) (-1000001) (by decide)) v0B v0C (vEmb_rf _ _) 0 rfl rfl rfl rfl rfl rfl rfl (vDet_k ?_)
    show V K (mW cI b (E, Kp, Bf, As, fndS Q 0)) 26 [(0, .ref (b 0)), (1, .int y), (2, .int w)] [.int (-1000001)]
    generalize hS2 : fndS Q 0 = S2
    exact v_iret h pX4_of_0 13 hR hret rfl ((E, Kp, Bf, As, S2)) rfl ⟨vI (by simp [ofS, bI, c1]), rfl, rfl, (qR_of (by simp [c1, hS2]))⟩
  · skip
    obtain ⟨e_y, l_y⟩ := oyB_t hn8 c1
    refine v_iload_n h pX4_of_0 4 rfl 2 rfl rfl (v_i2l h pX4_of_0 5 rfl (v_lconst (v := (nI 0).toInt64) h pX4_of_0 6 rfl kl_0 (v_ldc2 h pX4_of_0 7 wm_103 rfl (v_top (w := .long (nI 9).toInt64) (kL 9 _ (by decide)) ?_))))
    refine v_callS h pX4_of_0 8 mX4_50 (As := [.long w.toInt64, .long ((nI 0).toInt64), .long ((nI 9).toInt64)]) (st := []) (kX4_isIn _ _ cI cS w 0 9) v0B v0C (vEmb_u _) rfl rfl rfl rfl rfl (vDet_k ?_)
    show V K (mW cI b (E, Kp, Bf, As, Q)) 17 [(0, .ref (b 0)), (1, .int y), (2, .int w)] [.int (bI (inB w 0 9))]
    refine v_bif_ne (tgt := 27) h pX4_of_0 9 rfl rfl (fun c3 => ?_) (fun c3 => ?_)
    · skip
      obtain ⟨e_w, l_w⟩ := inB_t 9 rfl (by decide) c3
      refine v_iload_n h pX4_of_0 14 rfl 2 rfl rfl ?_
      by_cases c4 : w = 6
      · skip
        refine v_tin (tgt := 60) h pX4_of_0 15 c4 rfl (by decide) (by decide) rfl rfl (v_aload_n h pX4_of_0 16 rfl 0 rfl rfl (v_iload_n h pX4_of_0 17 rfl 1 rfl rfl (v_top (w := .int (nI (ix y))) (congrArg Value.int e_y) ?_)))
        refine v_callV h pX4_of_0 18 mX4_91 (As := [.int (nI (ix y))]) (st := []) (kX4_takes _ _ cI cS b E Kp Bf As Q (ix y) (by omega)) v0B v0C (vEmb_rf _ _) 0 rfl rfl rfl rfl rfl rfl rfl (vDet_k ?_)
        show V K (mW cI b (E, Kp, Bf, As, Q)) 65 [(0, .ref (b 0)), (1, .int y), (2, .int w)] [.int (takesS E (ix y))]
        exact v_iret h pX4_of_0 19 hR hret rfl ((E, Kp, Bf, As, Q)) rfl ⟨vI (by simp [ofS, bI, c1, c3, (eq_true c4)]), rfl, rfl, (qR_of (by simp [c1, c3, (eq_true c4), True]))⟩
      by_cases c5 : w = 7
      · skip
        refine v_tin (tgt := 66) h pX4_of_0 15 c5 rfl (by decide) (by decide) rfl rfl (v_aload_n h pX4_of_0 20 rfl 0 rfl rfl (v_iload_n h pX4_of_0 21 rfl 1 rfl rfl (v_top (w := .int (nI (ix y))) (congrArg Value.int e_y) ?_)))
        refine v_callV h pX4_of_0 22 mX4_94 (As := [.int (nI (ix y))]) (st := []) (kX4_needs _ _ cI cS b E Kp Bf As Q (ix y) (by omega) n hW) v0B v0C (vEmb_rf _ _) 0 rfl rfl rfl rfl rfl rfl rfl (vDet_k ?_)
        show V K (mW cI b (E, Kp, Bf, As, Q)) 71 [(0, .ref (b 0)), (1, .int y), (2, .int w)] [.int (needsS E (ix y))]
        exact v_iret h pX4_of_0 23 hR hret rfl ((E, Kp, Bf, As, Q)) rfl ⟨vI (by simp [ofS, bI, c1, c3, c4, (eq_true c5)]), rfl, rfl, (qR_of (by simp [c1, c3, c4, (eq_true c5), True]))⟩
      by_cases c6 : w = 8
      · skip
        refine v_tin (tgt := 72) h pX4_of_0 15 c6 rfl (by decide) (by decide) rfl rfl (v_aload_n h pX4_of_0 24 rfl 0 rfl rfl (v_iload_n h pX4_of_0 25 rfl 1 rfl rfl (v_top (w := .int (nI (ix y))) (congrArg Value.int e_y) ?_)))
        refine v_callV h pX4_of_0 26 mX4_97 (As := [.int (nI (ix y))]) (st := []) (kX4_opens _ _ cI cS b E Kp Bf As Q (ix y) (by omega) n hW) v0B v0C (vEmb_rf _ _) 0 rfl rfl rfl rfl rfl rfl rfl (vDet_k ?_)
        show V K (mW cI b (E, Kp, Bf, As, Q)) 77 [(0, .ref (b 0)), (1, .int y), (2, .int w)] [.int (bI (opensS E (ix y)))]
        refine v_bif_eq (tgt := 84) h pX4_of_0 27 rfl rfl (fun c7 => ?_) (fun c7 => ?_)
        · skip
          refine v_iconst h pX4_of_0 30 rfl ki_0 ?_
          exact v_iret h pX4_of_0 31 hR hret rfl ((E, Kp, Bf, As, Q)) rfl ⟨vI (by simp [ofS, bI, c1, c3, c4, c5, (eq_true c6), c7]), rfl, rfl, (qR_of (by simp [c1, c3, c4, c5, (eq_true c6), c7, True]))⟩
        · skip
          refine v_iconst h pX4_of_0 28 rfl ki_1 (v_goto (tgt := 85) h pX4_of_0 29 rfl rfl ?_)
          exact v_iret h pX4_of_0 31 hR hret rfl ((E, Kp, Bf, As, Q)) rfl ⟨vI (by simp [ofS, bI, c1, c3, c4, c5, (eq_true c6), c7]), rfl, rfl, (qR_of (by simp [c1, c3, c4, c5, (eq_true c6), c7, True]))⟩
      by_cases c8 : w = 9
      · skip
        refine v_tin (tgt := 86) h pX4_of_0 15 c8 rfl (by decide) (by decide) rfl rfl (v_aload_n h pX4_of_1 0 rfl 0 rfl rfl (v_iload_n h pX4_of_1 1 rfl 1 rfl rfl (v_top (w := .int (nI (ix y))) (congrArg Value.int e_y) ?_)))
        refine v_callV h pX4_of_1 2 mX4_100 (As := [.int (nI (ix y))]) (st := []) (kX4_worthOf _ _ cI cS b E Kp Bf As Q (ix y) (by omega)) v0B v0C (vEmb_rf _ _) 0 rfl rfl rfl rfl rfl rfl rfl (vDet_k ?_)
        show V K (mW cI b (E, Kp, Bf, As, Q)) 91 [(0, .ref (b 0)), (1, .int y), (2, .int w)] [.int (worthS E (ix y))]
        exact v_iret h pX4_of_1 3 hR hret rfl ((E, Kp, Bf, As, Q)) rfl ⟨vI (by simp [ofS, bI, c1, c3, c4, c5, c6, (eq_true c8)]), rfl, rfl, (qR_of (by simp [c1, c3, c4, c5, c6, (eq_true c8), True]))⟩
      refine v_tout (tgt := 92) h pX4_of_0 15 rfl (sw_6_9 c4 c5 c6 c8) rfl ?_
      have q6 : ix w ≠ 6 := fun e => c4 (by rw [e_w, e]; rfl)
      have q7 : ix w ≠ 7 := fun e => c5 (by rw [e_w, e]; rfl)
      have q8 : ix w ≠ 8 := fun e => c6 (by rw [e_w, e]; rfl)
      have q9 : ix w ≠ 9 := fun e => c8 (by rw [e_w, e]; rfl)
      refine v_aload_n h pX4_of_1 4 rfl 0 rfl rfl (v_iload_n h pX4_of_1 5 rfl 1 rfl rfl (v_top (w := .int (nI (ix y))) (congrArg Value.int e_y) (v_iload_n h pX4_of_1 6 rfl 2 rfl rfl (v_top (w := .int (nI (ix w))) (congrArg Value.int e_w) ?_))))
      refine v_callV h pX4_of_1 7 mX4_64 (As := [.int (nI (ix y)), .int (nI (ix w))]) (st := []) (kX4_its _ _ cI cS b E Kp Bf As Q (ix y) (ix w) (by omega) (by omega)) v0B v0C (vEmb_rf _ _) 0 rfl rfl rfl rfl rfl rfl rfl (vDet_k ?_)
      show V K (mW cI b (E, Kp, Bf, As, Q)) 98 [(0, .ref (b 0)), (1, .int y), (2, .int w)] [.int (E (2 + ix w) (ix y))]
      exact v_iret h pX4_of_1 8 hR hret rfl ((E, Kp, Bf, As, Q)) rfl ⟨vI (by simp [ofS, bI, c1, c3, c4, c5, c6, c8]), rfl, rfl, (qR_of (by simp [c1, c3, c4, c5, c6, c8, True]))⟩
    · skip
      refine v_aload_n h pX4_of_0 10 rfl 0 rfl rfl (v_ldc h pX4_of_0 11 wm_104 rfl ?_)
      refine v_callV h pX4_of_0 12 mX4_42 (As := [.int (-1000001)]) (st := []) (kX4_finds _ _ cI cS b E Kp Bf As Q 0 (by decide) (-1000001) (by decide)) v0B v0C (vEmb_rf _ _) 0 rfl rfl rfl rfl rfl rfl rfl (vDet_k ?_)
      show V K (mW cI b (E, Kp, Bf, As, fndS Q 0)) 26 [(0, .ref (b 0)), (1, .int y), (2, .int w)] [.int (-1000001)]
      generalize hS9 : fndS Q 0 = S9
      exact v_iret h pX4_of_0 13 hR hret rfl ((E, Kp, Bf, As, S9)) rfl ⟨vI (by simp [ofS, bI, c1, c3]), rfl, rfl, (qR_of (by simp [c1, c3, hS9]))⟩
set_option maxHeartbeats 300000 in
set_option maxRecDepth 100000 in
theorem kX4_greatestOf (l : Launch) (D : va_G) (cI cS : ClassId)   (w : Int32) : vDet l D (vT cI cS) yX4_greatestOf cX4_greatestOf 1 (some .int) 0 0 (fun _ : Unit => ([] : va_W)) [.int w] () (some (.int (gOf w))) (()) := by
  refine vMet_of (by decide) rfl ?_
  intro K hl hD hnL hret h hR hEx
  subst hl hD
  show V K (([] : va_W)) 0 [(0, .int w)] []
  refine v_iload_n h pX4_greatestOf_0 0 rfl 0 rfl rfl ?_
  refine v_if_ne (tgt := 9) h pX4_greatestOf_0 1 rfl rfl (fun c1 => ?_) (fun c1 => ?_)
  · skip
    refine v_iload_n h pX4_greatestOf_0 4 rfl 0 rfl rfl (v_iconst h pX4_greatestOf_0 5 rfl ki_1 ?_)
    refine v_icmp_ne (tgt := 18) h pX4_greatestOf_0 6 rfl rfl (fun c2 => ?_) (fun c2 => ?_)
    · skip
      refine v_iload_n h pX4_greatestOf_0 9 rfl 0 rfl rfl (v_iconst h pX4_greatestOf_0 10 rfl ki_2 ?_)
      refine v_icmp_ne (tgt := 28) h pX4_greatestOf_0 11 rfl rfl (fun c3 => ?_) (fun c3 => ?_)
      · skip
        refine v_sipush h pX4_greatestOf_0 14 rfl ks_999 ?_
        exact v_iret h pX4_greatestOf_0 15 hR hret rfl (()) rfl ⟨vI (by simp [gOf, c1, c2, c3]), rfl⟩
      · skip
        refine v_bipush h pX4_greatestOf_0 12 rfl kb_99 (v_goto (tgt := 31) h pX4_greatestOf_0 13 rfl rfl ?_)
        exact v_iret h pX4_greatestOf_0 15 hR hret rfl (()) rfl ⟨vI (by simp [gOf, c1, c2, (eq_true c3)]), rfl⟩
    · skip
      refine v_iconst h pX4_greatestOf_0 7 rfl ki_5 (v_goto (tgt := 31) h pX4_greatestOf_0 8 rfl rfl ?_)
      exact v_iret h pX4_greatestOf_0 15 hR hret rfl (()) rfl ⟨vI (by simp [gOf, c1, (eq_true c2)]), rfl⟩
  · skip
    refine v_bipush h pX4_greatestOf_0 2 rfl kb_6 (v_goto (tgt := 31) h pX4_greatestOf_0 3 rfl rfl ?_)
    exact v_iret h pX4_greatestOf_0 15 hR hret rfl (()) rfl ⟨vI (by simp [gOf, (eq_true c1)]), rfl⟩
set_option maxHeartbeats 300000 in
set_option maxRecDepth 100000 in
theorem kX4_change (l : Launch) (D : va_G) (cI cS : ClassId) (b : Nat → Nat) (E Kp Bf As Q : Nat → Nat → Int32) (n : Nat) (hW : Wf E n) (yb : Nat) (hY : bd (E 9 2) yb) (hyb : yb ≤ 99000) (y w v : Int32) : vMet l D (vT cI cS) yX4_change cX4_change 5 (some .int) 1 25 (mW cI b) v0 [.ref (b 0), .int y, .int w, .int v] (E, Kp, Bf, As, Q) (mPost (some (.int (cond (oyB y n && (inB w 0 5 && inB v 0 (gOf w))) (E (2 + ix w) (ix y)) ((-1000001))))) (cond (oyB y n && (inB w 0 5 && inB v 0 (gOf w))) (up E (2 + ix w) (ix y) v) (E)) (Kp) (cond (oyB y n && (inB w 0 5 && inB v 0 (gOf w))) (Q) (fndS Q 0))) := by
  refine vMet_of (by decide) rfl ?_
  intro K hl hD hnL hret h hR hEx
  subst hl hD
  show V K (mW cI b (E, Kp, Bf, As, Q)) 0 [(0, .ref (b 0)), (1, .int y), (2, .int w), (3, .int v)] []
  have hn8 := hW.1
  refine v_aload_n h pX4_change_0 0 rfl 0 rfl rfl (v_iload_n h pX4_change_0 1 rfl 1 rfl rfl ?_)
  refine v_callV h pX4_change_0 2 mX4_88 (As := [.int y]) (st := []) (kX4_isOyster _ _ cI cS b E Kp Bf As Q n hW.2.1 y) v0B v0C (vEmb_rf _ _) 0 rfl rfl rfl rfl rfl rfl rfl (vDet_k ?_)
  show V K (mW cI b (E, Kp, Bf, As, Q)) 5 [(0, .ref (b 0)), (1, .int y), (2, .int w), (3, .int v)] [.int (bI (oyB y n))]
  refine v_bif_eq (tgt := 38) h pX4_change_0 3 rfl rfl (fun c1 => ?_) (fun c1 => ?_)
  · skip
    refine v_iconst h pX4_change_0 20 rfl ki_0 (v_istore h pX4_change_0 21 (lv' := [(4, .int 0), (0, .ref (b 0)), (1, .int y), (2, .int w), (3, .int v)]) rfl hnL rfl rfl (v_iload h pX4_change_0 22 rfl 0 rfl ?_))
    refine v_if_eq (tgt := 59) h pX4_change_0 23 rfl rfl (fun c2 => ?_) (fun c2 => absurd c2 (by decide))
    refine v_aload_n h pX4_change_0 31 rfl 1 rfl rfl (v_ldc h pX4_change_1 0 wm_104 rfl ?_)
    refine v_callV h pX4_change_1 1 mX4_42 (As := [.int (-1000001)]) (st := []) (kX4_finds _ _ cI cS b E Kp Bf As Q 0 (by decide) (-1000001) (by decide)) v0B v0C (vEmb_rf _ _) 0 rfl rfl rfl rfl rfl rfl rfl (vDet_k ?_)
    show V K (mW cI b (E, Kp, Bf, As, fndS Q 0)) 65 [(4, .int 0), (0, .ref (b 0)), (1, .int y), (2, .int w), (3, .int v)] [.int (-1000001)]
    generalize hS3 : fndS Q 0 = S3
    exact v_iret h pX4_change_1 2 hR hret rfl ((E, Kp, Bf, As, S3)) rfl ⟨vI (by simp [c1]), (by simp [c1, hS3]), rfl, (qR_of (by simp [c1, hS3]))⟩
  · skip
    obtain ⟨e_y, l_y⟩ := oyB_t hn8 c1
    refine v_iload_n h pX4_change_0 4 rfl 2 rfl rfl (v_i2l h pX4_change_0 5 rfl (v_lconst (v := (nI 0).toInt64) h pX4_change_0 6 rfl kl_0 (v_ldc2 h pX4_change_0 7 wm_262 rfl (v_top (w := .long (nI 5).toInt64) (kL 5 _ (by decide)) ?_))))
    refine v_callS h pX4_change_0 8 mX4_50 (As := [.long w.toInt64, .long ((nI 0).toInt64), .long ((nI 5).toInt64)]) (st := []) (kX4_isIn _ _ cI cS w 0 5) v0B v0C (vEmb_u _) rfl rfl rfl rfl rfl (vDet_k ?_)
    show V K (mW cI b (E, Kp, Bf, As, Q)) 17 [(0, .ref (b 0)), (1, .int y), (2, .int w), (3, .int v)] [.int (bI (inB w 0 5))]
    refine v_bif_eq (tgt := 38) h pX4_change_0 9 rfl rfl (fun c4 => ?_) (fun c4 => ?_)
    · skip
      refine v_iconst h pX4_change_0 20 rfl ki_0 (v_istore h pX4_change_0 21 (lv' := [(4, .int 0), (0, .ref (b 0)), (1, .int y), (2, .int w), (3, .int v)]) rfl hnL rfl rfl (v_iload h pX4_change_0 22 rfl 0 rfl ?_))
      refine v_if_eq (tgt := 59) h pX4_change_0 23 rfl rfl (fun c5 => ?_) (fun c5 => absurd c5 (by decide))
      refine v_aload_n h pX4_change_0 31 rfl 1 rfl rfl (v_ldc h pX4_change_1 0 wm_104 rfl ?_)
      refine v_callV h pX4_change_1 1 mX4_42 (As := [.int (-1000001)]) (st := []) (kX4_finds _ _ cI cS b E Kp Bf As Q 0 (by decide) (-1000001) (by decide)) v0B v0C (vEmb_rf _ _) 0 rfl rfl rfl rfl rfl rfl rfl (vDet_k ?_)
      show V K (mW cI b (E, Kp, Bf, As, fndS Q 0)) 65 [(4, .int 0), (0, .ref (b 0)), (1, .int y), (2, .int w), (3, .int v)] [.int (-1000001)]
      generalize hS6 : fndS Q 0 = S6
      exact v_iret h pX4_change_1 2 hR hret rfl ((E, Kp, Bf, As, S6)) rfl ⟨vI (by simp [c1, c4]), (by simp [c1, c4, hS6]), rfl, (qR_of (by simp [c1, c4, hS6]))⟩
    · skip
      obtain ⟨e_w, l_w⟩ := inB_t 5 rfl (by decide) c4
      refine v_iload_n h pX4_change_0 10 rfl 3 rfl rfl (v_i2l h pX4_change_0 11 rfl (v_lconst (v := (nI 0).toInt64) h pX4_change_0 12 rfl kl_0 (v_iload_n h pX4_change_0 13 rfl 2 rfl rfl ?_)))
      refine v_callS h pX4_change_0 14 mX4_105 (As := [.int w]) (st := [.long ((nI 0).toInt64), .long v.toInt64]) (kX4_greatestOf _ _ cI cS w) v0B v0C (vEmb_u _) rfl rfl rfl rfl rfl (vDet_k ?_)
      show V K (mW cI b (E, Kp, Bf, As, Q)) 27 [(0, .ref (b 0)), (1, .int y), (2, .int w), (3, .int v)] [.int (gOf w), .long ((nI 0).toInt64), .long v.toInt64]
      refine v_i2l h pX4_change_0 15 rfl ?_
      refine v_callS h pX4_change_0 16 mX4_50 (As := [.long v.toInt64, .long ((nI 0).toInt64), .long ((gOf w : Int32).toInt64)]) (st := []) (kX4_isIn _ _ cI cS v 0 (gOf w)) v0B v0C (vEmb_u _) rfl rfl rfl rfl rfl (vDet_k ?_)
      show V K (mW cI b (E, Kp, Bf, As, Q)) 31 [(0, .ref (b 0)), (1, .int y), (2, .int w), (3, .int v)] [.int (bI (inB v 0 (gOf w)))]
      refine v_bif_eq (tgt := 38) h pX4_change_0 17 rfl rfl (fun c7 => ?_) (fun c7 => ?_)
      · skip
        refine v_iconst h pX4_change_0 20 rfl ki_0 (v_istore h pX4_change_0 21 (lv' := [(4, .int 0), (0, .ref (b 0)), (1, .int y), (2, .int w), (3, .int v)]) rfl hnL rfl rfl (v_iload h pX4_change_0 22 rfl 0 rfl ?_))
        refine v_if_eq (tgt := 59) h pX4_change_0 23 rfl rfl (fun c8 => ?_) (fun c8 => absurd c8 (by decide))
        refine v_aload_n h pX4_change_0 31 rfl 1 rfl rfl (v_ldc h pX4_change_1 0 wm_104 rfl ?_)
        refine v_callV h pX4_change_1 1 mX4_42 (As := [.int (-1000001)]) (st := []) (kX4_finds _ _ cI cS b E Kp Bf As Q 0 (by decide) (-1000001) (by decide)) v0B v0C (vEmb_rf _ _) 0 rfl rfl rfl rfl rfl rfl rfl (vDet_k ?_)
        show V K (mW cI b (E, Kp, Bf, As, fndS Q 0)) 65 [(4, .int 0), (0, .ref (b 0)), (1, .int y), (2, .int w), (3, .int v)] [.int (-1000001)]
        generalize hS9 : fndS Q 0 = S9
        exact v_iret h pX4_change_1 2 hR hret rfl ((E, Kp, Bf, As, S9)) rfl ⟨vI (by simp [c1, c4, c7]), (by simp [c1, c4, c7, hS9]), rfl, (qR_of (by simp [c1, c4, c7, hS9]))⟩
      · skip
        refine v_iconst h pX4_change_0 18 rfl ki_1 (v_goto (tgt := 39) h pX4_change_0 19 rfl rfl (v_istore h pX4_change_0 21 (lv' := [(4, .int 1), (0, .ref (b 0)), (1, .int y), (2, .int w), (3, .int v)]) rfl hnL rfl rfl (v_iload h pX4_change_0 22 rfl 0 rfl ?_)))
        refine v_if_eq (tgt := 59) h pX4_change_0 23 rfl rfl (fun c10 => absurd c10 (by decide)) (fun c10 => ?_)
        refine v_aload_n h pX4_change_0 24 rfl 1 rfl rfl (v_iload_n h pX4_change_0 25 rfl 2 rfl rfl (v_top (w := .int (nI (ix y))) (congrArg Value.int e_y) (v_iload_n h pX4_change_0 26 rfl 3 rfl rfl (v_top (w := .int (nI (ix w))) (congrArg Value.int e_w) ?_))))
        refine v_callS h pX4_change_0 27 mX4_69 (As := [.int (nI (ix y)), .int (nI (ix w))]) (st := [.ref (b 0)]) (kX4_at _ _ cI cS (ix y) (ix w)) v0B v0C (vEmb_u _) rfl rfl rfl rfl rfl (vDet_k ?_)
        show V K (mW cI b (E, Kp, Bf, As, Q)) 52 [(4, .int 1), (0, .ref (b 0)), (1, .int y), (2, .int w), (3, .int v)] [.int (nI (16 + 6 * (ix y) + (ix w))), .ref (b 0)]
        refine v_iload_n h pX4_change_0 28 rfl 4 rfl rfl ?_
        refine v_callV h pX4_change_0 29 mX4_58 (As := [.int (nI (16 + 6 * (ix y) + (ix w))), .int v]) (st := []) (kX4_becomes _ _ cI cS b E Kp Bf As Q (16 + 6 * (ix y) + (ix w)) (by omega) (2 + (ix w)) (ix y) (flR_y (by omega) (by omega)) (flI_y (by omega) (by omega)) (fl_y _ (by omega) (by omega)) v) v0B v0C (vEmb_rf _ _) 0 rfl rfl rfl rfl rfl rfl rfl (vDet_k ?_)
        show V K (mW cI b (up E (2 + (ix w)) (ix y) v, Kp, Bf, As, Q)) 56 [(4, .int 1), (0, .ref (b 0)), (1, .int y), (2, .int w), (3, .int v)] [.int (E (2 + (ix w)) (ix y))]
        generalize hS11 : up E (2 + (ix w)) (ix y) v = S11
        refine v_goto (tgt := 65) h pX4_change_0 30 rfl rfl ?_
        exact v_iret h pX4_change_1 2 hR hret rfl ((S11, Kp, Bf, As, Q)) rfl ⟨vI (by simp [c1, c4, c7]), (by simp [c1, c4, c7, hS11]), rfl, (qR_of (by simp [c1, c4, c7, hS11]))⟩
set_option maxHeartbeats 300000 in
set_option maxRecDepth 100000 in
theorem kX4_open (l : Launch) (D : va_G) (cI cS : ClassId) (b : Nat → Nat) (E Kp Bf As Q : Nat → Nat → Int32) (n : Nat) (hW : Wf E n) (yb : Nat) (hY : bd (E 9 2) yb) (hyb : yb ≤ 99000) (y : Int32) : vMet l D (vT cI cS) yX4_open cX4_open 4 (some .int) 3 66 (mW cI b) v0 [.ref (b 0), .int y] (E, Kp, Bf, As, Q) (mPost (some (.int (cond (oyB y n) (worthS E (ix y)) ((-1000001))))) (cond (oyB y n) (clearS E (ix y)) (E)) (Kp) (cond (oyB y n) (Q) (fndS Q 0))) := by
  refine vMet_of (by decide) rfl ?_
  intro K hl hD hnL hret h hR hEx
  subst hl hD
  show V K (mW cI b (E, Kp, Bf, As, Q)) 0 [(0, .ref (b 0)), (1, .int y)] []
  have hn8 := hW.1
  refine v_aload_n h pX4_open_0 0 rfl 0 rfl rfl (v_iload_n h pX4_open_0 1 rfl 1 rfl rfl ?_)
  refine v_callV h pX4_open_0 2 mX4_88 (As := [.int y]) (st := []) (kX4_isOyster _ _ cI cS b E Kp Bf As Q n hW.2.1 y) v0B v0C (vEmb_rf _ _) 0 rfl rfl rfl rfl rfl rfl rfl (vDet_k ?_)
  show V K (mW cI b (E, Kp, Bf, As, Q)) 5 [(0, .ref (b 0)), (1, .int y)] [.int (bI (oyB y n))]
  refine v_bif_ne (tgt := 15) h pX4_open_0 3 rfl rfl (fun c1 => ?_) (fun c1 => ?_)
  · skip
    obtain ⟨e_y, l_y⟩ := oyB_t hn8 c1
    refine v_aload_n h pX4_open_0 8 rfl 0 rfl rfl (v_iload_n h pX4_open_0 9 rfl 1 rfl rfl (v_top (w := .int (nI (ix y))) (congrArg Value.int e_y) ?_))
    refine v_callV h pX4_open_0 10 mX4_100 (As := [.int (nI (ix y))]) (st := []) (kX4_worthOf _ _ cI cS b E Kp Bf As Q (ix y) (by omega)) v0B v0C (vEmb_rf _ _) 0 rfl rfl rfl rfl rfl rfl rfl (vDet_k ?_)
    show V K (mW cI b (E, Kp, Bf, As, Q)) 20 [(0, .ref (b 0)), (1, .int y)] [.int (worthS E (ix y))]
    refine v_istore_n h pX4_open_0 11 (lv' := [(2, .int (worthS E (ix y))), (0, .ref (b 0)), (1, .int y)]) rfl rfl hnL rfl rfl (v_iconst h pX4_open_0 12 rfl ki_2 (v_istore_n h pX4_open_0 13 (lv' := [(3, .int 2), (2, .int (worthS E (ix y))), (0, .ref (b 0)), (1, .int y)]) rfl rfl hnL rfl rfl (v_iload_n h pX4_open_0 14 rfl 0 rfl rfl (v_iconst h pX4_open_0 15 rfl ki_5 ?_))))
    refine v_ncmp_gt (a := 2) (b := 5) (tgt := 45) h pX4_open_0 16 rfl rfl (by decide) (by decide) (fun c2 => absurd c2 (by decide)) (fun c2 => ?_)
    refine v_aload_n h pX4_open_0 17 rfl 2 rfl rfl (v_get h pX4_open_0 18 fX4_7 0 rfl rfl rfl (v_iload_n h pX4_open_0 19 rfl 3 rfl rfl (v_top (w := .int (nI (ix y))) (congrArg Value.int e_y) (v_iload_n h pX4_open_0 20 rfl 0 rfl rfl ?_))))
    refine v_callS h pX4_open_0 21 mX4_69 (As := [.int (nI (ix y)), .int 2]) (st := [.ref (b 1)]) (kX4_at _ _ cI cS (ix y) 2) v0B v0C (vEmb_u _) rfl rfl rfl rfl rfl (vDet_k ?_)
    show V K (mW cI b (E, Kp, Bf, As, Q)) 37 [(3, .int 2), (2, .int (worthS E (ix y))), (0, .ref (b 0)), (1, .int y)] [.int (nI (16 + 6 * (ix y) + 2)), .ref (b 1)]
    refine v_iconst h pX4_open_0 22 rfl ki_0 (v_iast h pX4_open_0 23 (16 + 6 * (ix y) + 2) 1 0 (ws' := mW cI b (up E 4 (ix y) 0, Kp, Bf, As, Q)) rfl rfl rfl rfl rfl (by omega) (mW_s (16 + 6 * (ix y) + 2) 4 (ix y) (flR_y (by omega) (by omega)) (flI_y (by omega) (by omega))) (v_iinc h pX4_open_0 24 (v := nI 3) (lv' := [(3, .int (nI 3)), (2, .int (worthS E (ix y))), (0, .ref (b 0)), (1, .int y)]) rfl 0 rfl hnL rfl rfl rfl (v_goto (tgt := 23) h pX4_open_0 25 rfl rfl (v_iload_n h pX4_open_0 14 rfl 0 rfl rfl (v_iconst h pX4_open_0 15 rfl ki_5 ?_)))))
    refine v_ncmp_gt (a := 3) (b := 5) (tgt := 45) h pX4_open_0 16 rfl rfl (by decide) (by decide) (fun c3 => absurd c3 (by decide)) (fun c3 => ?_)
    refine v_aload_n h pX4_open_0 17 rfl 2 rfl rfl (v_get h pX4_open_0 18 fX4_7 0 rfl rfl rfl (v_iload_n h pX4_open_0 19 rfl 3 rfl rfl (v_top (w := .int (nI (ix y))) (congrArg Value.int e_y) (v_iload_n h pX4_open_0 20 rfl 0 rfl rfl ?_))))
    refine v_callS h pX4_open_0 21 mX4_69 (As := [.int (nI (ix y)), .int (nI 3)]) (st := [.ref (b 1)]) (kX4_at _ _ cI cS (ix y) 3) v0B v0C (vEmb_u _) rfl rfl rfl rfl rfl (vDet_k ?_)
    show V K (mW cI b (up E 4 (ix y) 0, Kp, Bf, As, Q)) 37 [(3, .int (nI 3)), (2, .int (worthS E (ix y))), (0, .ref (b 0)), (1, .int y)] [.int (nI (16 + 6 * (ix y) + 3)), .ref (b 1)]
    refine v_iconst h pX4_open_0 22 rfl ki_0 (v_iast h pX4_open_0 23 (16 + 6 * (ix y) + 3) 1 0 (ws' := mW cI b (up (up E 4 (ix y) 0) 5 (ix y) 0, Kp, Bf, As, Q)) rfl rfl rfl rfl rfl (by omega) (mW_s (16 + 6 * (ix y) + 3) 5 (ix y) (flR_y (by omega) (by omega)) (flI_y (by omega) (by omega))) (v_iinc h pX4_open_0 24 (v := nI 4) (lv' := [(3, .int (nI 4)), (2, .int (worthS E (ix y))), (0, .ref (b 0)), (1, .int y)]) rfl 0 rfl hnL rfl rfl rfl (v_goto (tgt := 23) h pX4_open_0 25 rfl rfl (v_iload_n h pX4_open_0 14 rfl 0 rfl rfl (v_iconst h pX4_open_0 15 rfl ki_5 ?_)))))
    refine v_ncmp_gt (a := 4) (b := 5) (tgt := 45) h pX4_open_0 16 rfl rfl (by decide) (by decide) (fun c4 => absurd c4 (by decide)) (fun c4 => ?_)
    refine v_aload_n h pX4_open_0 17 rfl 2 rfl rfl (v_get h pX4_open_0 18 fX4_7 0 rfl rfl rfl (v_iload_n h pX4_open_0 19 rfl 3 rfl rfl (v_top (w := .int (nI (ix y))) (congrArg Value.int e_y) (v_iload_n h pX4_open_0 20 rfl 0 rfl rfl ?_))))
    refine v_callS h pX4_open_0 21 mX4_69 (As := [.int (nI (ix y)), .int (nI 4)]) (st := [.ref (b 1)]) (kX4_at _ _ cI cS (ix y) 4) v0B v0C (vEmb_u _) rfl rfl rfl rfl rfl (vDet_k ?_)
    show V K (mW cI b (up (up E 4 (ix y) 0) 5 (ix y) 0, Kp, Bf, As, Q)) 37 [(3, .int (nI 4)), (2, .int (worthS E (ix y))), (0, .ref (b 0)), (1, .int y)] [.int (nI (16 + 6 * (ix y) + 4)), .ref (b 1)]
    refine v_iconst h pX4_open_0 22 rfl ki_0 (v_iast h pX4_open_0 23 (16 + 6 * (ix y) + 4) 1 0 (ws' := mW cI b (up (up (up E 4 (ix y) 0) 5 (ix y) 0) 6 (ix y) 0, Kp, Bf, As, Q)) rfl rfl rfl rfl rfl (by omega) (mW_s (16 + 6 * (ix y) + 4) 6 (ix y) (flR_y (by omega) (by omega)) (flI_y (by omega) (by omega))) (v_iinc h pX4_open_0 24 (v := nI 5) (lv' := [(3, .int (nI 5)), (2, .int (worthS E (ix y))), (0, .ref (b 0)), (1, .int y)]) rfl 0 rfl hnL rfl rfl rfl (v_goto (tgt := 23) h pX4_open_0 25 rfl rfl (v_iload_n h pX4_open_0 14 rfl 0 rfl rfl (v_iconst h pX4_open_0 15 rfl ki_5 ?_)))))
    refine v_ncmp_gt (a := 5) (b := 5) (tgt := 45) h pX4_open_0 16 rfl rfl (by decide) (by decide) (fun c5 => absurd c5 (by decide)) (fun c5 => ?_)
    refine v_aload_n h pX4_open_0 17 rfl 2 rfl rfl (v_get h pX4_open_0 18 fX4_7 0 rfl rfl rfl (v_iload_n h pX4_open_0 19 rfl 3 rfl rfl (v_top (w := .int (nI (ix y))) (congrArg Value.int e_y) (v_iload_n h pX4_open_0 20 rfl 0 rfl rfl ?_))))
    refine v_callS h pX4_open_0 21 mX4_69 (As := [.int (nI (ix y)), .int (nI 5)]) (st := [.ref (b 1)]) (kX4_at _ _ cI cS (ix y) 5) v0B v0C (vEmb_u _) rfl rfl rfl rfl rfl (vDet_k ?_)
    show V K (mW cI b (up (up (up E 4 (ix y) 0) 5 (ix y) 0) 6 (ix y) 0, Kp, Bf, As, Q)) 37 [(3, .int (nI 5)), (2, .int (worthS E (ix y))), (0, .ref (b 0)), (1, .int y)] [.int (nI (16 + 6 * (ix y) + 5)), .ref (b 1)]
    refine v_iconst h pX4_open_0 22 rfl ki_0 (v_iast h pX4_open_0 23 (16 + 6 * (ix y) + 5) 1 0 (ws' := mW cI b (up (up (up (up E 4 (ix y) 0) 5 (ix y) 0) 6 (ix y) 0) 7 (ix y) 0, Kp, Bf, As, Q)) rfl rfl rfl rfl rfl (by omega) (mW_s (16 + 6 * (ix y) + 5) 7 (ix y) (flR_y (by omega) (by omega)) (flI_y (by omega) (by omega))) (v_iinc h pX4_open_0 24 (v := nI 6) (lv' := [(3, .int (nI 6)), (2, .int (worthS E (ix y))), (0, .ref (b 0)), (1, .int y)]) rfl 0 rfl hnL rfl rfl rfl (v_goto (tgt := 23) h pX4_open_0 25 rfl rfl (v_iload_n h pX4_open_0 14 rfl 0 rfl rfl (v_iconst h pX4_open_0 15 rfl ki_5 ?_)))))
    refine v_ncmp_gt (a := 6) (b := 5) (tgt := 45) h pX4_open_0 16 rfl rfl (by decide) (by decide) (fun c6 => ?_) (fun c6 => absurd c6 (by decide))
    refine v_iload_n h pX4_open_0 26 rfl 1 rfl rfl ?_
    exact v_iret h pX4_open_0 27 hR hret rfl ((up (up (up (up E 4 (ix y) 0) 5 (ix y) 0) 6 (ix y) 0) 7 (ix y) 0, Kp, Bf, As, Q)) rfl ⟨vI (by simp [c1]), (by first | (simp [c1, True]; done) | (simp [c1]; rfl)), rfl, (qR_of (by first | (simp [c1, True]; done) | (simp [c1]; rfl)))⟩
  · skip
    refine v_aload_n h pX4_open_0 4 rfl 0 rfl rfl (v_ldc h pX4_open_0 5 wm_104 rfl ?_)
    refine v_callV h pX4_open_0 6 mX4_42 (As := [.int (-1000001)]) (st := []) (kX4_finds _ _ cI cS b E Kp Bf As Q 0 (by decide) (-1000001) (by decide)) v0B v0C (vEmb_rf _ _) 0 rfl rfl rfl rfl rfl rfl rfl (vDet_k ?_)
    show V K (mW cI b (E, Kp, Bf, As, fndS Q 0)) 14 [(0, .ref (b 0)), (1, .int y)] [.int (-1000001)]
    generalize hS7 : fndS Q 0 = S7
    exact v_iret h pX4_open_0 7 hR hret rfl ((E, Kp, Bf, As, S7)) rfl ⟨vI (by simp [c1]), (by first | (simp [c1, hS7]; done) | (simp [c1]; rfl)), rfl, (qR_of (by first | (simp [c1, hS7]; done) | (simp [c1]; rfl)))⟩
set_option maxHeartbeats 300000 in
set_option maxRecDepth 100000 in
theorem kX4_go (l : Launch) (D : va_G) (cI cS : ClassId) (b : Nat → Nat) (E Kp Bf As Q : Nat → Nat → Int32) (n : Nat) (hW : Wf E n) (yb : Nat) (hY : bd (E 9 2) yb) (hyb : yb ≤ 99000) (k : Int32) : vMet l D (vT cI cS) yX4_go cX4_go 2 (some .int) 5 111 (mW cI b) v0 [.ref (b 0), .int k] (E, Kp, Bf, As, Q) (mPost (some (.int (cond (inB k 1 60) (if 99999 < E 9 2 + k then (-1000005) else sumS (yearsS n 0 E (ix k) 5) n) ((-1000001))))) (cond (inB k 1 60) (if 99999 < E 9 2 + k then E else yearsS n 0 E (ix k)) (E)) (Kp) (cond (inB k 1 60) (if 99999 < E 9 2 + k then fndS Q 4 else Q) (fndS Q 0))) := by
  refine vMet_of (by decide) rfl ?_
  intro K hl hD hnL hret h hR hEx
  subst hl hD
  show V K (mW cI b (E, Kp, Bf, As, Q)) 0 [(0, .ref (b 0)), (1, .int k)] []
  have hn8 := hW.1
  refine v_iload_n h pX4_go_0 0 rfl 1 rfl rfl (v_i2l h pX4_go_0 1 rfl (v_lconst (v := (nI 1).toInt64) h pX4_go_0 2 rfl kl_1 (v_ldc2 h pX4_go_0 3 wm_310 rfl (v_top (w := .long (nI 60).toInt64) (kL 60 _ (by decide)) ?_))))
  refine v_callS h pX4_go_0 4 mX4_50 (As := [.long k.toInt64, .long ((nI 1).toInt64), .long ((nI 60).toInt64)]) (st := []) (kX4_isIn _ _ cI cS k 1 60) v0B v0C (vEmb_u _) rfl rfl rfl rfl rfl (vDet_k ?_)
  show V K (mW cI b (E, Kp, Bf, As, Q)) 9 [(0, .ref (b 0)), (1, .int k)] [.int (bI (inB k 1 60))]
  refine v_bif_ne (tgt := 19) h pX4_go_0 5 rfl rfl (fun c1 => ?_) (fun c1 => ?_)
  · skip
    obtain ⟨e_k, l_k⟩ := inBl_t 1 60 rfl rfl (by decide) (by decide) c1
    refine v_aload_n h pX4_go_0 10 rfl 0 rfl rfl (v_get h pX4_go_0 11 fX4_7 0 rfl rfl rfl (v_iconst h pX4_go_0 12 rfl ki_1 (v_iald h pX4_go_0 13 1 1 0 rfl rfl rfl rfl rfl (by omega) (v_top (w := .int (E 9 2)) (congrArg Value.int rfl) (v_iload_n h pX4_go_0 14 rfl 1 rfl rfl ?_)))))
    refine v_iadd h pX4_go_0 15 rfl (v_ldc h pX4_go_0 16 wm_311 rfl ?_)
    refine v_icmp_le2 (tgt := 39) h pX4_go_0 17 rfl rfl (fun c2 => ?_) (fun c2 => ?_)
    · skip
      refine v_aload_n h pX4_go_0 22 rfl 0 rfl rfl (v_iload_n h pX4_go_0 23 rfl 1 rfl rfl (v_top (w := .int (nI (ix k))) (congrArg Value.int e_k) ?_))
      refine v_callV h pX4_go_0 24 mX4_119 (As := [.int (nI (ix k))]) (st := []) (kX4_goes _ _ cI cS b E Kp Bf As Q n hW yb hY (ix k) (by omega)) v0B v0C (vEmb_rf _ _) 0 rfl rfl rfl rfl rfl rfl rfl (vDet_k ?_)
      show V K (mW cI b (yearsS n 0 E (ix k), Kp, Bf, As, Q)) 44 [(0, .ref (b 0)), (1, .int k)] []
      have hWS3 : Wf (yearsS n 0 E (ix k)) n := (Wf_years hW _ _)
      generalize hS3 : yearsS n 0 E (ix k) = S3 at hWS3 ⊢
      refine v_aload_n h pX4_go_0 25 rfl 0 rfl rfl (v_iconst h pX4_go_0 26 rfl ki_3 ?_)
      refine v_callV h pX4_go_0 27 mX4_122 (As := [.int 3]) (st := []) (kX4_sumOf _ _ cI cS b S3 Kp Bf As Q n hWS3 3 (by omega)) v0B v0C (vEmb_rf _ _) 0 rfl rfl rfl rfl rfl rfl rfl (vDet_k ?_)
      show V K (mW cI b (S3, Kp, Bf, As, Q)) 49 [(0, .ref (b 0)), (1, .int k)] [.int (sumS (S3 5) n)]
      exact v_iret h pX4_go_0 28 hR hret rfl ((S3, Kp, Bf, As, Q)) rfl ⟨vI (by simp [c1, c2, hS3, -Int32.not_lt]), (by simp [c1, c2, hS3, -Int32.not_lt]), rfl, (qR_of (by simp [c1, c2, hS3, -Int32.not_lt]))⟩
    · skip
      refine v_aload_n h pX4_go_0 18 rfl 0 rfl rfl (v_ldc h pX4_go_0 19 wm_312 rfl ?_)
      refine v_callV h pX4_go_0 20 mX4_42 (As := [.int (-1000005)]) (st := []) (kX4_finds _ _ cI cS b E Kp Bf As Q 4 (by decide) (-1000005) (by decide)) v0B v0C (vEmb_rf _ _) 0 rfl rfl rfl rfl rfl rfl rfl (vDet_k ?_)
      show V K (mW cI b (E, Kp, Bf, As, fndS Q 4)) 38 [(0, .ref (b 0)), (1, .int k)] [.int (-1000005)]
      generalize hS4 : fndS Q 4 = S4
      exact v_iret h pX4_go_0 21 hR hret rfl ((E, Kp, Bf, As, S4)) rfl ⟨vI (by simp [c1, c2, hS4, -Int32.not_lt]), (by simp [c1, c2, hS4, -Int32.not_lt]), rfl, (qR_of (by simp [c1, c2, hS4, -Int32.not_lt]))⟩
  · skip
    refine v_aload_n h pX4_go_0 6 rfl 0 rfl rfl (v_ldc h pX4_go_0 7 wm_104 rfl ?_)
    refine v_callV h pX4_go_0 8 mX4_42 (As := [.int (-1000001)]) (st := []) (kX4_finds _ _ cI cS b E Kp Bf As Q 0 (by decide) (-1000001) (by decide)) v0B v0C (vEmb_rf _ _) 0 rfl rfl rfl rfl rfl rfl rfl (vDet_k ?_)
    show V K (mW cI b (E, Kp, Bf, As, fndS Q 0)) 18 [(0, .ref (b 0)), (1, .int k)] [.int (-1000001)]
    generalize hS5 : fndS Q 0 = S5
    exact v_iret h pX4_go_0 9 hR hret rfl ((E, Kp, Bf, As, S5)) rfl ⟨vI (by simp [c1, hS5, -Int32.not_lt]), (by simp [c1, hS5, -Int32.not_lt]), rfl, (qR_of (by simp [c1, hS5, -Int32.not_lt]))⟩
set_option maxHeartbeats 300000 in
set_option maxRecDepth 100000 in
theorem kX4_worth (l : Launch) (D : va_G) (cI cS : ClassId) (b : Nat → Nat) (E Kp Bf As Q : Nat → Nat → Int32) (n : Nat) (hW : Wf E n) (yb : Nat) (hY : bd (E 9 2) yb) (hyb : yb ≤ 99000) (y k : Int32) : vMet l D (vT cI cS) yX4_worth cX4_worth 3 (some .int) 6 135 (mW cI b) v0 [.ref (b 0), .int y, .int k] (E, Kp, Bf, As, Q) (mPost (some (.int (cond (oyB y n && inB k 0 100) (worthS (yearsS n 0 E (ix k)) (ix y)) ((-1000001))))) (E) (Kp) (cond (oyB y n && inB k 0 100) (Q) (fndS Q 0))) := by
  refine vMet_of (by decide) rfl ?_
  intro K hl hD hnL hret h hR hEx
  subst hl hD
  show V K (mW cI b (E, Kp, Bf, As, Q)) 0 [(0, .ref (b 0)), (1, .int y), (2, .int k)] []
  have hn8 := hW.1
  refine v_aload_n h pX4_worth_0 0 rfl 0 rfl rfl (v_iload_n h pX4_worth_0 1 rfl 1 rfl rfl ?_)
  refine v_callV h pX4_worth_0 2 mX4_88 (As := [.int y]) (st := []) (kX4_isOyster _ _ cI cS b E Kp Bf As Q n hW.2.1 y) v0B v0C (vEmb_rf _ _) 0 rfl rfl rfl rfl rfl rfl rfl (vDet_k ?_)
  show V K (mW cI b (E, Kp, Bf, As, Q)) 5 [(0, .ref (b 0)), (1, .int y), (2, .int k)] [.int (bI (oyB y n))]
  refine v_bif_eq (tgt := 31) h pX4_worth_0 3 rfl rfl (fun c1 => ?_) (fun c1 => ?_)
  · skip
    refine v_aload_n h pX4_worth_0 16 rfl 0 rfl rfl (v_ldc h pX4_worth_0 17 wm_104 rfl ?_)
    refine v_callV h pX4_worth_0 18 mX4_42 (As := [.int (-1000001)]) (st := []) (kX4_finds _ _ cI cS b E Kp Bf As Q 0 (by decide) (-1000001) (by decide)) v0B v0C (vEmb_rf _ _) 0 rfl rfl rfl rfl rfl rfl rfl (vDet_k ?_)
    show V K (mW cI b (E, Kp, Bf, As, fndS Q 0)) 37 [(0, .ref (b 0)), (1, .int y), (2, .int k)] [.int (-1000001)]
    generalize hS2 : fndS Q 0 = S2
    exact v_iret h pX4_worth_0 19 hR hret rfl ((E, Kp, Bf, As, S2)) rfl ⟨vI (by simp [thenS, c1]), rfl, rfl, (qR_of (by simp [c1, hS2]))⟩
  · skip
    obtain ⟨e_y, l_y⟩ := oyB_t hn8 c1
    refine v_iload_n h pX4_worth_0 4 rfl 2 rfl rfl (v_i2l h pX4_worth_0 5 rfl (v_lconst (v := (nI 0).toInt64) h pX4_worth_0 6 rfl kl_0 (v_ldc2 h pX4_worth_0 7 wm_379 rfl (v_top (w := .long (nI 100).toInt64) (kL 100 _ (by decide)) ?_))))
    refine v_callS h pX4_worth_0 8 mX4_50 (As := [.long k.toInt64, .long ((nI 0).toInt64), .long ((nI 100).toInt64)]) (st := []) (kX4_isIn _ _ cI cS k 0 100) v0B v0C (vEmb_u _) rfl rfl rfl rfl rfl (vDet_k ?_)
    show V K (mW cI b (E, Kp, Bf, As, Q)) 17 [(0, .ref (b 0)), (1, .int y), (2, .int k)] [.int (bI (inB k 0 100))]
    refine v_bif_eq (tgt := 31) h pX4_worth_0 9 rfl rfl (fun c3 => ?_) (fun c3 => ?_)
    · skip
      refine v_aload_n h pX4_worth_0 16 rfl 0 rfl rfl (v_ldc h pX4_worth_0 17 wm_104 rfl ?_)
      refine v_callV h pX4_worth_0 18 mX4_42 (As := [.int (-1000001)]) (st := []) (kX4_finds _ _ cI cS b E Kp Bf As Q 0 (by decide) (-1000001) (by decide)) v0B v0C (vEmb_rf _ _) 0 rfl rfl rfl rfl rfl rfl rfl (vDet_k ?_)
      show V K (mW cI b (E, Kp, Bf, As, fndS Q 0)) 37 [(0, .ref (b 0)), (1, .int y), (2, .int k)] [.int (-1000001)]
      generalize hS4 : fndS Q 0 = S4
      exact v_iret h pX4_worth_0 19 hR hret rfl ((E, Kp, Bf, As, S4)) rfl ⟨vI (by simp [thenS, c1, c3]), rfl, rfl, (qR_of (by simp [c1, c3, hS4]))⟩
    · skip
      obtain ⟨e_k, l_k⟩ := inB_t 100 rfl (by decide) c3
      refine v_aload_n h pX4_worth_0 10 rfl 0 rfl rfl (v_iload_n h pX4_worth_0 11 rfl 1 rfl rfl (v_top (w := .int (nI (ix y))) (congrArg Value.int e_y) (v_bipush h pX4_worth_0 12 rfl kb_9 (v_iload_n h pX4_worth_0 13 rfl 2 rfl rfl (v_top (w := .int (nI (ix k))) (congrArg Value.int e_k) ?_)))))
      refine v_callV h pX4_worth_0 14 mX4_138 (As := [.int (nI (ix y)), .int 9, .int (nI (ix k))]) (st := []) (kX4_then _ _ cI cS b E Kp Bf As Q n hW yb hY (ix y) 9 (ix k) (by omega) (by omega) (by omega)) v0B v0C (vEmb_rf _ _) 0 rfl rfl rfl rfl rfl rfl rfl (vDet_k ?_)
      show V K (mW cI b (E, Kp, Bf, E, Q)) 28 [(0, .ref (b 0)), (1, .int y), (2, .int k)] [.int (thenS (yearsS n 0 E (ix k)) (ix y) 9)]
      refine v_goto (tgt := 37) h pX4_worth_0 15 rfl rfl ?_
      exact v_iret h pX4_worth_0 19 hR hret rfl ((E, Kp, Bf, E, Q)) rfl ⟨vI (by simp [thenS, c1, c3]), rfl, rfl, (qR_of (by simp [c1, c3, True]))⟩
set_option maxHeartbeats 300000 in
set_option maxRecDepth 100000 in
theorem kX4_seed (l : Launch) (D : va_G) (cI cS : ClassId) (b : Nat → Nat) (E Kp Bf As Q : Nat → Nat → Int32) (n : Nat) (hW : Wf E n) (yb : Nat) (hY : bd (E 9 2) yb) (hyb : yb ≤ 99000) (v : Int32) : vMet l D (vT cI cS) yX4_seed cX4_seed 2 (some .int) 1 23 (mW cI b) v0 [.ref (b 0), .int v] (E, Kp, Bf, As, Q) (mPost (some (.int (E 9 3))) (up E 9 3 v) (Kp) (Q)) := by
  refine vMet_of (by decide) rfl ?_
  intro K hl hD hnL hret h hR hEx
  subst hl hD
  show V K (mW cI b (E, Kp, Bf, As, Q)) 0 [(0, .ref (b 0)), (1, .int v)] []
  have hn8 := hW.1
  refine v_aload_n h pX4_seed_0 0 rfl 0 rfl rfl (v_iconst h pX4_seed_0 1 rfl ki_2 (v_iload_n h pX4_seed_0 2 rfl 1 rfl rfl ?_))
  refine v_callV h pX4_seed_0 3 mX4_58 (As := [.int 2, .int v]) (st := []) (kX4_becomes _ _ cI cS b E Kp Bf As Q 2 (by omega) 9 3 rfl rfl rfl v) v0B v0C (vEmb_rf _ _) 0 rfl rfl rfl rfl rfl rfl rfl (vDet_k ?_)
  show V K (mW cI b (up E 9 3 v, Kp, Bf, As, Q)) 6 [(0, .ref (b 0)), (1, .int v)] [.int (E 9 3)]
  generalize hS1 : up E 9 3 v = S1
  exact v_iret h pX4_seed_0 4 hR hret rfl ((S1, Kp, Bf, As, Q)) rfl ⟨vI rfl, (by simp [True, hS1]), rfl, (qR_of rfl)⟩
set_option maxHeartbeats 300000 in
set_option maxRecDepth 100000 in
theorem kX4_wipe (l : Launch) (D : va_G) (cI cS : ClassId) (b : Nat → Nat) (E Kp Bf As Q : Nat → Nat → Int32) (n : Nat) (hW : Wf E n) (yb : Nat) (hY : bd (E 9 2) yb) (hyb : yb ≤ 99000)  : vMet l D (vT cI cS) yX4_wipe cX4_wipe 2 (some .int) 0 0 (mW cI b) v0 [.ref (b 0)] (E, Kp, Bf, As, Q) (mPost (some (.int (Q 6 1))) (E) (Kp) (up Q 6 1 0)) := by
  refine vMet_of (by decide) rfl ?_
  intro K hl hD hnL hret h hR hEx
  subst hl hD
  show V K (mW cI b (E, Kp, Bf, As, Q)) 0 [(0, .ref (b 0))] []
  have hn8 := hW.1
  refine v_aload_n h pX4_wipe_0 0 rfl 0 rfl rfl (v_get h pX4_wipe_0 1 fX4_193 0 rfl rfl rfl (v_istore_n h pX4_wipe_0 2 (lv' := [(1, .int (Q 6 1)), (0, .ref (b 0))]) rfl rfl hnL rfl rfl (v_aload_n h pX4_wipe_0 3 rfl 1 rfl rfl (v_iconst h pX4_wipe_0 4 rfl ki_0 (v_puti h pX4_wipe_0 5 gX4_193 0 (ws' := mW cI b (E, Kp, Bf, As, up Q 6 1 0)) rfl rfl rfl mW_p1 ?_)))))
  refine v_iload_n h pX4_wipe_0 6 rfl 0 rfl rfl ?_
  exact v_iret h pX4_wipe_0 7 hR hret rfl ((E, Kp, Bf, As, up Q 6 1 0)) rfl ⟨vI rfl, rfl, rfl, (qR_of rfl)⟩
set_option maxHeartbeats 300000 in
set_option maxRecDepth 100000 in
theorem kX4_image (l : Launch) (D : va_G) (cI cS : ClassId) (b : Nat → Nat) (E Kp Bf As Q : Nat → Nat → Int32) (n : Nat) (hW : Wf E n) (yb : Nat) (hY : bd (E 9 2) yb) (hyb : yb ≤ 99000)  : vMet l D (vT cI cS) yX4_image cX4_image 1 (some .int) 1 22 (mW cI b) v0 [.ref (b 0)] (E, Kp, Bf, As, Q) (mPost (some (.int 1)) (E) (E) (up Q 6 0 1)) := by
  refine vMet_of (by decide) rfl ?_
  intro K hl hD hnL hret h hR hEx
  subst hl hD
  show V K (mW cI b (E, Kp, Bf, As, Q)) 0 [(0, .ref (b 0))] []
  have hn8 := hW.1
  refine v_aload_n h pX4_image_0 0 rfl 0 rfl rfl (v_get h pX4_image_0 1 fX4_7 0 rfl rfl rfl (v_aload_n h pX4_image_0 2 rfl 0 rfl rfl (v_get h pX4_image_0 3 fX4_13 0 rfl rfl rfl ?_)))
  refine v_callS h pX4_image_0 4 mX4_132 (As := [.ref (b 1), .ref (b 2)]) (st := []) (kX4_copyRow _ _ cI cS (b 1) (b 2) (pr (fl E) (fl Kp))) v0B v0C emb_12 rfl rfl rfl rfl rfl (vDet_k ?_)
  show V K (mW cI b (E, E, Bf, As, Q)) 11 [(0, .ref (b 0))] []
  refine v_aload_n h pX4_image_0 5 rfl 0 rfl rfl (v_iconst h pX4_image_0 6 rfl ki_1 (v_put h pX4_image_0 7 gX4_273 0 (ws' := mW cI b (E, E, Bf, As, up Q 6 0 1)) rfl rfl rfl rfl rfl mW_p0 (v_iconst h pX4_image_0 8 rfl ki_1 ?_)))
  exact v_iret h pX4_image_0 9 hR hret rfl ((E, E, Bf, As, up Q 6 0 1)) rfl ⟨vI rfl, rfl, rfl, (qR_of rfl)⟩
set_option maxHeartbeats 300000 in
set_option maxRecDepth 100000 in
theorem kX4_tear (l : Launch) (D : va_G) (cI cS : ClassId) (b : Nat → Nat) (E Kp Bf As Q : Nat → Nat → Int32) (n : Nat) (hW : Wf E n) (yb : Nat) (hY : bd (E 9 2) yb) (hyb : yb ≤ 99000)  : vMet l D (vT cI cS) yX4_tear cX4_tear 2 (some .int) 0 0 (mW cI b) v0 [.ref (b 0)] (E, Kp, Bf, As, Q) (mPost (some (.int (bI (decide (¬ Q 6 0 = 0))))) (E) (Kp) (up Q 6 0 0)) := by
  refine vMet_of (by decide) rfl ?_
  intro K hl hD hnL hret h hR hEx
  subst hl hD
  show V K (mW cI b (E, Kp, Bf, As, Q)) 0 [(0, .ref (b 0))] []
  have hn8 := hW.1
  refine v_aload_n h pX4_tear_0 0 rfl 0 rfl rfl (v_get h pX4_tear_0 1 fX4_273 0 rfl rfl rfl (v_istore_n h pX4_tear_0 2 (lv' := [(1, .int (Q 6 0)), (0, .ref (b 0))]) rfl rfl hnL rfl rfl (v_aload_n h pX4_tear_0 3 rfl 1 rfl rfl (v_iconst h pX4_tear_0 4 rfl ki_0 (v_put h pX4_tear_0 5 gX4_273 0 (ws' := mW cI b (E, Kp, Bf, As, up Q 6 0 0)) rfl rfl rfl rfl rfl mW_p0 ?_)))))
  refine v_iload_n h pX4_tear_0 6 rfl 0 rfl rfl ?_
  refine v_if_eq (tgt := 18) h pX4_tear_0 7 rfl rfl (fun c1 => ?_) (fun c1 => ?_)
  · skip
    refine v_iconst h pX4_tear_0 10 rfl ki_0 ?_
    exact v_iret h pX4_tear_0 11 hR hret rfl ((E, Kp, Bf, As, up Q 6 0 0)) rfl ⟨vI (by simp [bI, (eq_true c1)]), rfl, rfl, (qR_of rfl)⟩
  · skip
    refine v_iconst h pX4_tear_0 8 rfl ki_1 (v_goto (tgt := 19) h pX4_tear_0 9 rfl rfl ?_)
    exact v_iret h pX4_tear_0 11 hR hret rfl ((E, Kp, Bf, As, up Q 6 0 0)) rfl ⟨vI (by simp [bI, c1]), rfl, rfl, (qR_of rfl)⟩
set_option maxHeartbeats 300000 in
set_option maxRecDepth 100000 in
theorem kX4_undo (l : Launch) (D : va_G) (cI cS : ClassId) (b : Nat → Nat) (E Kp Bf As Q : Nat → Nat → Int32) (n : Nat) (hW : Wf E n) (yb : Nat) (hY : bd (E 9 2) yb) (hyb : yb ≤ 99000)  : vMet l D (vT cI cS) yX4_undo cX4_undo 1 (some .int) 1 22 (mW cI b) v0 [.ref (b 0)] (E, Kp, Bf, As, Q) (mPost (some (.int (cond (decide (Q 6 0 = 0)) ((-1000004)) (Kp 9 2)))) (cond (decide (Q 6 0 = 0)) (E) (Kp)) (Kp) (cond (decide (Q 6 0 = 0)) (fndS Q 3) (Q))) := by
  refine vMet_of (by decide) rfl ?_
  intro K hl hD hnL hret h hR hEx
  subst hl hD
  show V K (mW cI b (E, Kp, Bf, As, Q)) 0 [(0, .ref (b 0))] []
  have hn8 := hW.1
  refine v_aload_n h pX4_undo_0 0 rfl 0 rfl rfl (v_get h pX4_undo_0 1 fX4_273 0 rfl rfl rfl ?_)
  refine v_if_ne (tgt := 14) h pX4_undo_0 2 rfl rfl (fun c1 => ?_) (fun c1 => ?_)
  · skip
    refine v_aload_n h pX4_undo_0 7 rfl 0 rfl rfl (v_get h pX4_undo_0 8 fX4_13 0 rfl rfl rfl (v_aload_n h pX4_undo_0 9 rfl 0 rfl rfl (v_get h pX4_undo_0 10 fX4_7 0 rfl rfl rfl ?_)))
    refine v_callS h pX4_undo_0 11 mX4_132 (As := [.ref (b 2), .ref (b 1)]) (st := []) (kX4_copyRow _ _ cI cS (b 2) (b 1) (pr (fl Kp) (fl E))) v0B v0C emb_21 rfl rfl rfl rfl rfl (vDet_k ?_)
    show V K (mW cI b (Kp, Kp, Bf, As, Q)) 25 [(0, .ref (b 0))] []
    refine v_aload_n h pX4_undo_0 12 rfl 0 rfl rfl (v_get h pX4_undo_0 13 fX4_7 0 rfl rfl rfl (v_iconst h pX4_undo_0 14 rfl ki_1 (v_iald h pX4_undo_0 15 1 1 0 rfl rfl rfl rfl rfl (by omega) (v_top (w := .int (Kp 9 2)) (congrArg Value.int rfl) ?_))))
    exact v_iret h pX4_undo_0 16 hR hret rfl ((Kp, Kp, Bf, As, Q)) rfl ⟨vI (by simp [c1]), (by simp [c1, True]), rfl, (qR_of (by simp [c1, True]))⟩
  · skip
    refine v_aload_n h pX4_undo_0 3 rfl 0 rfl rfl (v_ldc h pX4_undo_0 4 wm_405 rfl ?_)
    refine v_callV h pX4_undo_0 5 mX4_42 (As := [.int (-1000004)]) (st := []) (kX4_finds _ _ cI cS b E Kp Bf As Q 3 (by decide) (-1000004) (by decide)) v0B v0C (vEmb_rf _ _) 0 rfl rfl rfl rfl rfl rfl rfl (vDet_k ?_)
    show V K (mW cI b (E, Kp, Bf, As, fndS Q 3)) 13 [(0, .ref (b 0))] [.int (-1000004)]
    generalize hS2 : fndS Q 3 = S2
    exact v_iret h pX4_undo_0 6 hR hret rfl ((E, Kp, Bf, As, S2)) rfl ⟨vI (by simp [(eq_true c1)]), (by simp [(eq_true c1), hS2]), rfl, (qR_of (by simp [(eq_true c1), hS2]))⟩
set_option maxHeartbeats 300000 in
set_option maxRecDepth 100000 in
theorem kX4_ahead (l : Launch) (D : va_G) (cI cS : ClassId) (b : Nat → Nat) (E Kp Bf As Q : Nat → Nat → Int32) (n : Nat) (hW : Wf E n) (yb : Nat) (hY : bd (E 9 2) yb) (hyb : yb ≤ 99000) (y w k : Int32) : vMet l D (vT cI cS) yX4_ahead cX4_ahead 5 (some .int) 6 135 (mW cI b) v0 [.ref (b 0), .int y, .int w, .int k] (E, Kp, Bf, As, Q) (mPost (some (.int (cond (oyB y n && (w235 w && inB k 0 100)) (thenS (yearsS n 0 E (ix k)) (ix y) (ix w)) ((-1000001))))) (E) (Kp) (cond (oyB y n && (w235 w && inB k 0 100)) (Q) (fndS Q 0))) := by
  refine vMet_of (by decide) rfl ?_
  intro K hl hD hnL hret h hR hEx
  subst hl hD
  show V K (mW cI b (E, Kp, Bf, As, Q)) 0 [(0, .ref (b 0)), (1, .int y), (2, .int w), (3, .int k)] []
  have hn8 := hW.1
  refine v_aload_n h pX4_ahead_0 0 rfl 0 rfl rfl (v_iload_n h pX4_ahead_0 1 rfl 1 rfl rfl ?_)
  refine v_callV h pX4_ahead_0 2 mX4_88 (As := [.int y]) (st := []) (kX4_isOyster _ _ cI cS b E Kp Bf As Q n hW.2.1 y) v0B v0C (vEmb_rf _ _) 0 rfl rfl rfl rfl rfl rfl rfl (vDet_k ?_)
  show V K (mW cI b (E, Kp, Bf, As, Q)) 5 [(0, .ref (b 0)), (1, .int y), (2, .int w), (3, .int k)] [.int (bI (oyB y n))]
  refine v_bif_eq (tgt := 39) h pX4_ahead_0 3 rfl rfl (fun c1 => ?_) (fun c1 => ?_)
  · skip
    refine v_iconst h pX4_ahead_0 21 rfl ki_0 (v_istore h pX4_ahead_0 22 (lv' := [(4, .int 0), (0, .ref (b 0)), (1, .int y), (2, .int w), (3, .int k)]) rfl hnL rfl rfl (v_iload h pX4_ahead_0 23 rfl 0 rfl ?_))
    refine v_if_eq (tgt := 57) h pX4_ahead_0 24 rfl rfl (fun c2 => ?_) (fun c2 => absurd c2 (by decide))
    refine v_aload_n h pX4_ahead_0 31 rfl 1 rfl rfl (v_ldc h pX4_ahead_1 0 wm_104 rfl ?_)
    refine v_callV h pX4_ahead_1 1 mX4_42 (As := [.int (-1000001)]) (st := []) (kX4_finds _ _ cI cS b E Kp Bf As Q 0 (by decide) (-1000001) (by decide)) v0B v0C (vEmb_rf _ _) 0 rfl rfl rfl rfl rfl rfl rfl (vDet_k ?_)
    show V K (mW cI b (E, Kp, Bf, As, fndS Q 0)) 63 [(4, .int 0), (0, .ref (b 0)), (1, .int y), (2, .int w), (3, .int k)] [.int (-1000001)]
    generalize hS3 : fndS Q 0 = S3
    exact v_iret h pX4_ahead_1 2 hR hret rfl ((E, Kp, Bf, As, S3)) rfl ⟨vI (by simp [w235, c1]), rfl, rfl, (qR_of (by simp [w235, c1, hS3]))⟩
  · skip
    obtain ⟨e_y, l_y⟩ := oyB_t hn8 c1
    refine v_iload_n h pX4_ahead_0 4 rfl 2 rfl rfl (v_iconst h pX4_ahead_0 5 rfl ki_2 ?_)
    refine v_icmp_eq (tgt := 23) h pX4_ahead_0 6 rfl rfl (fun c4 => ?_) (fun c4 => ?_)
    · skip
      refine v_iload_n h pX4_ahead_0 13 rfl 3 rfl rfl (v_i2l h pX4_ahead_0 14 rfl (v_lconst (v := (nI 0).toInt64) h pX4_ahead_0 15 rfl kl_0 (v_ldc2 h pX4_ahead_0 16 wm_379 rfl (v_top (w := .long (nI 100).toInt64) (kL 100 _ (by decide)) ?_))))
      refine v_callS h pX4_ahead_0 17 mX4_50 (As := [.long k.toInt64, .long ((nI 0).toInt64), .long ((nI 100).toInt64)]) (st := []) (kX4_isIn _ _ cI cS k 0 100) v0B v0C (vEmb_u _) rfl rfl rfl rfl rfl (vDet_k ?_)
      show V K (mW cI b (E, Kp, Bf, As, Q)) 32 [(0, .ref (b 0)), (1, .int y), (2, .int w), (3, .int k)] [.int (bI (inB k 0 100))]
      refine v_bif_eq (tgt := 39) h pX4_ahead_0 18 rfl rfl (fun c5 => ?_) (fun c5 => ?_)
      · skip
        refine v_iconst h pX4_ahead_0 21 rfl ki_0 (v_istore h pX4_ahead_0 22 (lv' := [(4, .int 0), (0, .ref (b 0)), (1, .int y), (2, .int w), (3, .int k)]) rfl hnL rfl rfl (v_iload h pX4_ahead_0 23 rfl 0 rfl ?_))
        refine v_if_eq (tgt := 57) h pX4_ahead_0 24 rfl rfl (fun c6 => ?_) (fun c6 => absurd c6 (by decide))
        refine v_aload_n h pX4_ahead_0 31 rfl 1 rfl rfl (v_ldc h pX4_ahead_1 0 wm_104 rfl ?_)
        refine v_callV h pX4_ahead_1 1 mX4_42 (As := [.int (-1000001)]) (st := []) (kX4_finds _ _ cI cS b E Kp Bf As Q 0 (by decide) (-1000001) (by decide)) v0B v0C (vEmb_rf _ _) 0 rfl rfl rfl rfl rfl rfl rfl (vDet_k ?_)
        show V K (mW cI b (E, Kp, Bf, As, fndS Q 0)) 63 [(4, .int 0), (0, .ref (b 0)), (1, .int y), (2, .int w), (3, .int k)] [.int (-1000001)]
        generalize hS7 : fndS Q 0 = S7
        exact v_iret h pX4_ahead_1 2 hR hret rfl ((E, Kp, Bf, As, S7)) rfl ⟨vI (by simp [w235, c1, (eq_true c4), c5]), rfl, rfl, (qR_of (by simp [w235, c1, (eq_true c4), c5, hS7]))⟩
      · skip
        obtain ⟨e_k, l_k⟩ := inB_t 100 rfl (by decide) c5
        have e_w : w = nI (ix w) := by rw [c4]; rfl
        have l_w : ix w = 2 := by rw [c4]; rfl
        refine v_iconst h pX4_ahead_0 19 rfl ki_1 (v_goto (tgt := 40) h pX4_ahead_0 20 rfl rfl (v_istore h pX4_ahead_0 22 (lv' := [(4, .int 1), (0, .ref (b 0)), (1, .int y), (2, .int w), (3, .int k)]) rfl hnL rfl rfl (v_iload h pX4_ahead_0 23 rfl 0 rfl ?_)))
        refine v_if_eq (tgt := 57) h pX4_ahead_0 24 rfl rfl (fun c8 => absurd c8 (by decide)) (fun c8 => ?_)
        refine v_aload_n h pX4_ahead_0 25 rfl 1 rfl rfl (v_iload_n h pX4_ahead_0 26 rfl 2 rfl rfl (v_top (w := .int (nI (ix y))) (congrArg Value.int e_y) (v_iload_n h pX4_ahead_0 27 rfl 3 rfl rfl (v_top (w := .int (nI (ix w))) (congrArg Value.int e_w) (v_iload_n h pX4_ahead_0 28 rfl 4 rfl rfl ?_)))))
        refine v_top (w := .int (nI (ix k))) (congrArg Value.int e_k) ?_
        refine v_callV h pX4_ahead_0 29 mX4_138 (As := [.int (nI (ix y)), .int (nI (ix w)), .int (nI (ix k))]) (st := []) (kX4_then _ _ cI cS b E Kp Bf As Q n hW yb hY (ix y) (ix w) (ix k) (by omega) (by omega) (by omega)) v0B v0C (vEmb_rf _ _) 0 rfl rfl rfl rfl rfl rfl rfl (vDet_k ?_)
        show V K (mW cI b (E, Kp, Bf, E, Q)) 54 [(4, .int 1), (0, .ref (b 0)), (1, .int y), (2, .int w), (3, .int k)] [.int (thenS (yearsS n 0 E (ix k)) (ix y) (ix w))]
        refine v_goto (tgt := 63) h pX4_ahead_0 30 rfl rfl ?_
        exact v_iret h pX4_ahead_1 2 hR hret rfl ((E, Kp, Bf, E, Q)) rfl ⟨vI (by simp [w235, c1, (eq_true c4), c5]), rfl, rfl, (qR_of (by simp [w235, c1, (eq_true c4), c5, True]))⟩
    · skip
      refine v_iload_n h pX4_ahead_0 7 rfl 2 rfl rfl (v_iconst h pX4_ahead_0 8 rfl ki_3 ?_)
      refine v_icmp_eq (tgt := 23) h pX4_ahead_0 9 rfl rfl (fun c9 => ?_) (fun c9 => ?_)
      · skip
        refine v_iload_n h pX4_ahead_0 13 rfl 3 rfl rfl (v_i2l h pX4_ahead_0 14 rfl (v_lconst (v := (nI 0).toInt64) h pX4_ahead_0 15 rfl kl_0 (v_ldc2 h pX4_ahead_0 16 wm_379 rfl (v_top (w := .long (nI 100).toInt64) (kL 100 _ (by decide)) ?_))))
        refine v_callS h pX4_ahead_0 17 mX4_50 (As := [.long k.toInt64, .long ((nI 0).toInt64), .long ((nI 100).toInt64)]) (st := []) (kX4_isIn _ _ cI cS k 0 100) v0B v0C (vEmb_u _) rfl rfl rfl rfl rfl (vDet_k ?_)
        show V K (mW cI b (E, Kp, Bf, As, Q)) 32 [(0, .ref (b 0)), (1, .int y), (2, .int w), (3, .int k)] [.int (bI (inB k 0 100))]
        refine v_bif_eq (tgt := 39) h pX4_ahead_0 18 rfl rfl (fun c10 => ?_) (fun c10 => ?_)
        · skip
          refine v_iconst h pX4_ahead_0 21 rfl ki_0 (v_istore h pX4_ahead_0 22 (lv' := [(4, .int 0), (0, .ref (b 0)), (1, .int y), (2, .int w), (3, .int k)]) rfl hnL rfl rfl (v_iload h pX4_ahead_0 23 rfl 0 rfl ?_))
          refine v_if_eq (tgt := 57) h pX4_ahead_0 24 rfl rfl (fun c11 => ?_) (fun c11 => absurd c11 (by decide))
          refine v_aload_n h pX4_ahead_0 31 rfl 1 rfl rfl (v_ldc h pX4_ahead_1 0 wm_104 rfl ?_)
          refine v_callV h pX4_ahead_1 1 mX4_42 (As := [.int (-1000001)]) (st := []) (kX4_finds _ _ cI cS b E Kp Bf As Q 0 (by decide) (-1000001) (by decide)) v0B v0C (vEmb_rf _ _) 0 rfl rfl rfl rfl rfl rfl rfl (vDet_k ?_)
          show V K (mW cI b (E, Kp, Bf, As, fndS Q 0)) 63 [(4, .int 0), (0, .ref (b 0)), (1, .int y), (2, .int w), (3, .int k)] [.int (-1000001)]
          generalize hS12 : fndS Q 0 = S12
          exact v_iret h pX4_ahead_1 2 hR hret rfl ((E, Kp, Bf, As, S12)) rfl ⟨vI (by simp [w235, c1, c4, (eq_true c9), c10]), rfl, rfl, (qR_of (by simp [w235, c1, c4, (eq_true c9), c10, hS12]))⟩
        · skip
          obtain ⟨e_k, l_k⟩ := inB_t 100 rfl (by decide) c10
          have e_w : w = nI (ix w) := by rw [c9]; rfl
          have l_w : ix w = 3 := by rw [c9]; rfl
          refine v_iconst h pX4_ahead_0 19 rfl ki_1 (v_goto (tgt := 40) h pX4_ahead_0 20 rfl rfl (v_istore h pX4_ahead_0 22 (lv' := [(4, .int 1), (0, .ref (b 0)), (1, .int y), (2, .int w), (3, .int k)]) rfl hnL rfl rfl (v_iload h pX4_ahead_0 23 rfl 0 rfl ?_)))
          refine v_if_eq (tgt := 57) h pX4_ahead_0 24 rfl rfl (fun c13 => absurd c13 (by decide)) (fun c13 => ?_)
          refine v_aload_n h pX4_ahead_0 25 rfl 1 rfl rfl (v_iload_n h pX4_ahead_0 26 rfl 2 rfl rfl (v_top (w := .int (nI (ix y))) (congrArg Value.int e_y) (v_iload_n h pX4_ahead_0 27 rfl 3 rfl rfl (v_top (w := .int (nI (ix w))) (congrArg Value.int e_w) (v_iload_n h pX4_ahead_0 28 rfl 4 rfl rfl ?_)))))
          refine v_top (w := .int (nI (ix k))) (congrArg Value.int e_k) ?_
          refine v_callV h pX4_ahead_0 29 mX4_138 (As := [.int (nI (ix y)), .int (nI (ix w)), .int (nI (ix k))]) (st := []) (kX4_then _ _ cI cS b E Kp Bf As Q n hW yb hY (ix y) (ix w) (ix k) (by omega) (by omega) (by omega)) v0B v0C (vEmb_rf _ _) 0 rfl rfl rfl rfl rfl rfl rfl (vDet_k ?_)
          show V K (mW cI b (E, Kp, Bf, E, Q)) 54 [(4, .int 1), (0, .ref (b 0)), (1, .int y), (2, .int w), (3, .int k)] [.int (thenS (yearsS n 0 E (ix k)) (ix y) (ix w))]
          refine v_goto (tgt := 63) h pX4_ahead_0 30 rfl rfl ?_
          exact v_iret h pX4_ahead_1 2 hR hret rfl ((E, Kp, Bf, E, Q)) rfl ⟨vI (by simp [w235, c1, c4, (eq_true c9), c10]), rfl, rfl, (qR_of (by simp [w235, c1, c4, (eq_true c9), c10, True]))⟩
      · skip
        refine v_iload_n h pX4_ahead_0 10 rfl 2 rfl rfl (v_iconst h pX4_ahead_0 11 rfl ki_5 ?_)
        refine v_icmp_ne (tgt := 39) h pX4_ahead_0 12 rfl rfl (fun c14 => ?_) (fun c14 => ?_)
        · skip
          refine v_iconst h pX4_ahead_0 21 rfl ki_0 (v_istore h pX4_ahead_0 22 (lv' := [(4, .int 0), (0, .ref (b 0)), (1, .int y), (2, .int w), (3, .int k)]) rfl hnL rfl rfl (v_iload h pX4_ahead_0 23 rfl 0 rfl ?_))
          refine v_if_eq (tgt := 57) h pX4_ahead_0 24 rfl rfl (fun c15 => ?_) (fun c15 => absurd c15 (by decide))
          refine v_aload_n h pX4_ahead_0 31 rfl 1 rfl rfl (v_ldc h pX4_ahead_1 0 wm_104 rfl ?_)
          refine v_callV h pX4_ahead_1 1 mX4_42 (As := [.int (-1000001)]) (st := []) (kX4_finds _ _ cI cS b E Kp Bf As Q 0 (by decide) (-1000001) (by decide)) v0B v0C (vEmb_rf _ _) 0 rfl rfl rfl rfl rfl rfl rfl (vDet_k ?_)
          show V K (mW cI b (E, Kp, Bf, As, fndS Q 0)) 63 [(4, .int 0), (0, .ref (b 0)), (1, .int y), (2, .int w), (3, .int k)] [.int (-1000001)]
          generalize hS16 : fndS Q 0 = S16
          exact v_iret h pX4_ahead_1 2 hR hret rfl ((E, Kp, Bf, As, S16)) rfl ⟨vI (by simp [w235, c1, c4, c9, c14]), rfl, rfl, (qR_of (by simp [w235, c1, c4, c9, c14, hS16]))⟩
        · skip
          refine v_iload_n h pX4_ahead_0 13 rfl 3 rfl rfl (v_i2l h pX4_ahead_0 14 rfl (v_lconst (v := (nI 0).toInt64) h pX4_ahead_0 15 rfl kl_0 (v_ldc2 h pX4_ahead_0 16 wm_379 rfl (v_top (w := .long (nI 100).toInt64) (kL 100 _ (by decide)) ?_))))
          refine v_callS h pX4_ahead_0 17 mX4_50 (As := [.long k.toInt64, .long ((nI 0).toInt64), .long ((nI 100).toInt64)]) (st := []) (kX4_isIn _ _ cI cS k 0 100) v0B v0C (vEmb_u _) rfl rfl rfl rfl rfl (vDet_k ?_)
          show V K (mW cI b (E, Kp, Bf, As, Q)) 32 [(0, .ref (b 0)), (1, .int y), (2, .int w), (3, .int k)] [.int (bI (inB k 0 100))]
          refine v_bif_eq (tgt := 39) h pX4_ahead_0 18 rfl rfl (fun c17 => ?_) (fun c17 => ?_)
          · skip
            refine v_iconst h pX4_ahead_0 21 rfl ki_0 (v_istore h pX4_ahead_0 22 (lv' := [(4, .int 0), (0, .ref (b 0)), (1, .int y), (2, .int w), (3, .int k)]) rfl hnL rfl rfl (v_iload h pX4_ahead_0 23 rfl 0 rfl ?_))
            refine v_if_eq (tgt := 57) h pX4_ahead_0 24 rfl rfl (fun c18 => ?_) (fun c18 => absurd c18 (by decide))
            refine v_aload_n h pX4_ahead_0 31 rfl 1 rfl rfl (v_ldc h pX4_ahead_1 0 wm_104 rfl ?_)
            refine v_callV h pX4_ahead_1 1 mX4_42 (As := [.int (-1000001)]) (st := []) (kX4_finds _ _ cI cS b E Kp Bf As Q 0 (by decide) (-1000001) (by decide)) v0B v0C (vEmb_rf _ _) 0 rfl rfl rfl rfl rfl rfl rfl (vDet_k ?_)
            show V K (mW cI b (E, Kp, Bf, As, fndS Q 0)) 63 [(4, .int 0), (0, .ref (b 0)), (1, .int y), (2, .int w), (3, .int k)] [.int (-1000001)]
            generalize hS19 : fndS Q 0 = S19
            exact v_iret h pX4_ahead_1 2 hR hret rfl ((E, Kp, Bf, As, S19)) rfl ⟨vI (by simp [w235, c1, c4, c9, (eq_true c14), c17]), rfl, rfl, (qR_of (by simp [w235, c1, c4, c9, (eq_true c14), c17, hS19]))⟩
          · skip
            obtain ⟨e_k, l_k⟩ := inB_t 100 rfl (by decide) c17
            have e_w : w = nI (ix w) := by rw [c14]; rfl
            have l_w : ix w = 5 := by rw [c14]; rfl
            refine v_iconst h pX4_ahead_0 19 rfl ki_1 (v_goto (tgt := 40) h pX4_ahead_0 20 rfl rfl (v_istore h pX4_ahead_0 22 (lv' := [(4, .int 1), (0, .ref (b 0)), (1, .int y), (2, .int w), (3, .int k)]) rfl hnL rfl rfl (v_iload h pX4_ahead_0 23 rfl 0 rfl ?_)))
            refine v_if_eq (tgt := 57) h pX4_ahead_0 24 rfl rfl (fun c20 => absurd c20 (by decide)) (fun c20 => ?_)
            refine v_aload_n h pX4_ahead_0 25 rfl 1 rfl rfl (v_iload_n h pX4_ahead_0 26 rfl 2 rfl rfl (v_top (w := .int (nI (ix y))) (congrArg Value.int e_y) (v_iload_n h pX4_ahead_0 27 rfl 3 rfl rfl (v_top (w := .int (nI (ix w))) (congrArg Value.int e_w) (v_iload_n h pX4_ahead_0 28 rfl 4 rfl rfl ?_)))))
            refine v_top (w := .int (nI (ix k))) (congrArg Value.int e_k) ?_
            refine v_callV h pX4_ahead_0 29 mX4_138 (As := [.int (nI (ix y)), .int (nI (ix w)), .int (nI (ix k))]) (st := []) (kX4_then _ _ cI cS b E Kp Bf As Q n hW yb hY (ix y) (ix w) (ix k) (by omega) (by omega) (by omega)) v0B v0C (vEmb_rf _ _) 0 rfl rfl rfl rfl rfl rfl rfl (vDet_k ?_)
            show V K (mW cI b (E, Kp, Bf, E, Q)) 54 [(4, .int 1), (0, .ref (b 0)), (1, .int y), (2, .int w), (3, .int k)] [.int (thenS (yearsS n 0 E (ix k)) (ix y) (ix w))]
            refine v_goto (tgt := 63) h pX4_ahead_0 30 rfl rfl ?_
            exact v_iret h pX4_ahead_1 2 hR hret rfl ((E, Kp, Bf, E, Q)) rfl ⟨vI (by simp [w235, c1, c4, c9, (eq_true c14), c17]), rfl, rfl, (qR_of (by simp [w235, c1, c4, c9, (eq_true c14), c17, True]))⟩
set_option maxHeartbeats 300000 in
set_option maxRecDepth 100000 in
theorem kX4_hidden (l : Launch) (D : va_G) (cI cS : ClassId) (b : Nat → Nat) (E Kp Bf As Q : Nat → Nat → Int32) (n : Nat) (hW : Wf E n) (yb : Nat) (hY : bd (E 9 2) yb) (hyb : yb ≤ 99000) (y : Int32) : vMet l D (vT cI cS) yX4_hidden cX4_hidden 3 (some .int) 4 89 (mW cI b) v0 [.ref (b 0), .int y] (E, Kp, Bf, As, Q) (mPost (some (.int (cond (oyB y n) (if fstN (fun j => hiddenS (yearsS n 0 E j) (ix y)) 201 < 201 then nI (fstN (fun j => hiddenS (yearsS n 0 E j) (ix y)) 201) else (-1000004)) ((-1000001))))) (E) (Kp) (cond (oyB y n) (if fstN (fun j => hiddenS (yearsS n 0 E j) (ix y)) 201 < 201 then Q else fndS Q 3) (fndS Q 0))) := by
  refine vMet_of (by decide) rfl ?_
  intro K hl hD hnL hret h hR hEx
  subst hl hD
  show V K (mW cI b (E, Kp, Bf, As, Q)) 0 [(0, .ref (b 0)), (1, .int y)] []
  have hn8 := hW.1
  refine v_aload_n h pX4_hidden_0 0 rfl 0 rfl rfl (v_iload_n h pX4_hidden_0 1 rfl 1 rfl rfl ?_)
  refine v_callV h pX4_hidden_0 2 mX4_88 (As := [.int y]) (st := []) (kX4_isOyster _ _ cI cS b E Kp Bf As Q n hW.2.1 y) v0B v0C (vEmb_rf _ _) 0 rfl rfl rfl rfl rfl rfl rfl (vDet_k ?_)
  show V K (mW cI b (E, Kp, Bf, As, Q)) 5 [(0, .ref (b 0)), (1, .int y)] [.int (bI (oyB y n))]
  refine v_bif_ne (tgt := 15) h pX4_hidden_0 3 rfl rfl (fun c1 => ?_) (fun c1 => ?_)
  · skip
    obtain ⟨e_y, l_y⟩ := oyB_t hn8 c1
    refine v_aload_n h pX4_hidden_0 8 rfl 0 rfl rfl (v_get h pX4_hidden_0 9 fX4_7 0 rfl rfl rfl (v_aload_n h pX4_hidden_0 10 rfl 0 rfl rfl (v_get h pX4_hidden_0 11 fX4_19 0 rfl rfl rfl ?_)))
    refine v_callS h pX4_hidden_0 12 mX4_132 (As := [.ref (b 1), .ref (b 4)]) (st := []) (kX4_copyRow _ _ cI cS (b 1) (b 4) (pr (fl E) (fl As))) v0B v0C emb_14 rfl rfl rfl rfl rfl (vDet_k ?_)
    show V K (mW cI b (E, Kp, Bf, E, Q)) 26 [(0, .ref (b 0)), (1, .int y)] []
    refine v_iconst h pX4_hidden_0 13 rfl ki_0 (v_istore_n h pX4_hidden_0 14 (lv' := [(2, .int 0), (0, .ref (b 0)), (1, .int y)]) rfl rfl hnL rfl rfl ?_)
    refine v_lv [1, 2, 0] (lv' := [(0, .ref (b 0)), (1, .int y), (2, .int 0)]) rfl ?_
    have LA : ∀ (m iA : Nat), iA ≤ 201 → (∀ j, j < iA → hiddenS (yearsS n 0 E j) (ix y) = false) → 201 + 1 ≤ iA + m → V K (mW cI b (yearsS n 0 E iA, Kp, Bf, E, Q)) 28 [(0, .ref (b 0)), (1, .int y), (2, .int (nI iA))] [] := by
      intro m
      induction m with
      | zero => exact fun iA h1 hh h2 => absurd h2 (by omega)
      | succ m ihA =>
        intro iA hleA hhA hltA
        have hWSA : Wf (yearsS n 0 E iA) n := (Wf_years hW 0 iA)
        generalize hSA : yearsS n 0 E iA = SA at hWSA ⊢
        have hYA : bd (SA 9 2) (yb + iA) := by rw [← hSA]; exact years_bd hY _ (by omega)
        refine v_iload_n h pX4_hidden_0 15 rfl 2 rfl rfl (v_sipush h pX4_hidden_0 16 rfl ks_200 ?_)
        refine v_ncmp_gt (a := iA) (b := 200) (tgt := 54) h pX4_hidden_0 17 rfl rfl (by omega) (by omega) (fun c4 => ?_) (fun c4 => ?_)
        · skip
          refine v_aload_n h pX4_hidden_0 27 rfl 0 rfl rfl (v_get h pX4_hidden_0 28 fX4_19 0 rfl rfl rfl (v_aload_n h pX4_hidden_0 29 rfl 0 rfl rfl (v_get h pX4_hidden_0 30 fX4_7 0 rfl rfl rfl ?_)))
          refine v_callS h pX4_hidden_0 31 mX4_132 (As := [.ref (b 4), .ref (b 1)]) (st := []) (kX4_copyRow _ _ cI cS (b 4) (b 1) (pr (fl E) (fl SA))) v0B v0C emb_41 rfl rfl rfl rfl rfl (vDet_k ?_)
          show V K (mW cI b (E, Kp, Bf, E, Q)) 65 [(0, .ref (b 0)), (1, .int y), (2, .int (nI iA))] []
          refine v_iload_n h pX4_hidden_1 0 rfl 2 rfl rfl (v_sipush h pX4_hidden_1 1 rfl ks_200 ?_)
          refine v_ncmp_gt (a := iA) (b := 200) (tgt := 76) h pX4_hidden_1 2 rfl rfl (by omega) (by omega) (fun c5 => ?_) (fun c5 => (by first | exact absurd c5 c4 | exact absurd c4 c5 | (exfalso; omega)))
          refine v_aload_n h pX4_hidden_1 5 rfl 0 rfl rfl (v_ldc h pX4_hidden_1 6 wm_405 rfl ?_)
          refine v_callV h pX4_hidden_1 7 mX4_42 (As := [.int (-1000004)]) (st := []) (kX4_finds _ _ cI cS b E Kp Bf E Q 3 (by decide) (-1000004) (by decide)) v0B v0C (vEmb_rf _ _) 0 rfl rfl rfl rfl rfl rfl rfl (vDet_k ?_)
          show V K (mW cI b (E, Kp, Bf, E, fndS Q 3)) 82 [(0, .ref (b 0)), (1, .int y), (2, .int (nI iA))] [.int (-1000004)]
          generalize hS6 : fndS Q 3 = S6
          exact v_iret h pX4_hidden_1 8 hR hret rfl ((E, Kp, Bf, E, S6)) rfl ⟨vI (by first | (simp [c1, c4, hSA, hS6]; done) | (simp only [c1, cond_true]; rw [show fstN (fun j => hiddenS (yearsS n 0 E j) (ix y)) 201 = iA from fstN_eq hhA (by rw [hSA]; assumption) (by omega), if_pos (by omega)]) | (simp only [c1, cond_true]; rw [show fstN (fun j => hiddenS (yearsS n 0 E j) (ix y)) 201 = 201 from fstN_no (fun j hj => hhA j (by omega)), if_neg (by omega)]; try (first | rfl | (simp [hSA, hS6]; done)))), rfl, rfl, (qR_of (by first | (simp [c1, c4, hSA, hS6]; done) | (simp only [c1, cond_true]; rw [show fstN (fun j => hiddenS (yearsS n 0 E j) (ix y)) 201 = iA from fstN_eq hhA (by rw [hSA]; assumption) (by omega), if_pos (by omega)]) | (simp only [c1, cond_true]; rw [show fstN (fun j => hiddenS (yearsS n 0 E j) (ix y)) 201 = 201 from fstN_no (fun j hj => hhA j (by omega)), if_neg (by omega)]; try (first | rfl | (simp [hSA, hS6]; done)))))⟩
        · skip
          refine v_aload_n h pX4_hidden_0 18 rfl 0 rfl rfl (v_iload_n h pX4_hidden_0 19 rfl 1 rfl rfl (v_top (w := .int (nI (ix y))) (congrArg Value.int e_y) ?_))
          refine v_callV h pX4_hidden_0 20 mX4_108 (As := [.int (nI (ix y))]) (st := []) (kX4_isHidden _ _ cI cS b SA Kp Bf E Q (ix y) (by omega) n hWSA) v0B v0C (vEmb_rf _ _) 0 rfl rfl rfl rfl rfl rfl rfl (vDet_k ?_)
          show V K (mW cI b (SA, Kp, Bf, E, Q)) 40 [(0, .ref (b 0)), (1, .int y), (2, .int (nI iA))] [.int (bI (hiddenS SA (ix y)))]
          refine v_bif_ne (tgt := 54) h pX4_hidden_0 21 rfl rfl (fun c7 => ?_) (fun c7 => ?_)
          · skip
            refine v_aload_n h pX4_hidden_0 27 rfl 0 rfl rfl (v_get h pX4_hidden_0 28 fX4_19 0 rfl rfl rfl (v_aload_n h pX4_hidden_0 29 rfl 0 rfl rfl (v_get h pX4_hidden_0 30 fX4_7 0 rfl rfl rfl ?_)))
            refine v_callS h pX4_hidden_0 31 mX4_132 (As := [.ref (b 4), .ref (b 1)]) (st := []) (kX4_copyRow _ _ cI cS (b 4) (b 1) (pr (fl E) (fl SA))) v0B v0C emb_41 rfl rfl rfl rfl rfl (vDet_k ?_)
            show V K (mW cI b (E, Kp, Bf, E, Q)) 65 [(0, .ref (b 0)), (1, .int y), (2, .int (nI iA))] []
            refine v_iload_n h pX4_hidden_1 0 rfl 2 rfl rfl (v_sipush h pX4_hidden_1 1 rfl ks_200 ?_)
            refine v_ncmp_gt (a := iA) (b := 200) (tgt := 76) h pX4_hidden_1 2 rfl rfl (by omega) (by omega) (fun c8 => (by first | exact absurd c8 c4 | exact absurd c4 c8 | (exfalso; omega))) (fun c8 => ?_)
            refine v_iload_n h pX4_hidden_1 3 rfl 2 rfl rfl (v_goto (tgt := 82) h pX4_hidden_1 4 rfl rfl ?_)
            exact v_iret h pX4_hidden_1 8 hR hret rfl ((E, Kp, Bf, E, Q)) rfl ⟨vI (by first | (simp [c1, c4, c7, hSA]; done) | (simp only [c1, cond_true]; rw [show fstN (fun j => hiddenS (yearsS n 0 E j) (ix y)) 201 = iA from fstN_eq hhA (by rw [hSA]; assumption) (by omega), if_pos (by omega)]) | (simp only [c1, cond_true]; rw [show fstN (fun j => hiddenS (yearsS n 0 E j) (ix y)) 201 = 201 from fstN_no (fun j hj => hhA j (by omega)), if_neg (by omega)]; try (first | rfl | (simp [hSA]; done)))), rfl, rfl, (qR_of (by first | (simp [c1, c4, c7, hSA]; done) | (simp only [c1, cond_true]; rw [show fstN (fun j => hiddenS (yearsS n 0 E j) (ix y)) 201 = iA from fstN_eq hhA (by rw [hSA]; assumption) (by omega), if_pos (by omega)]) | (simp only [c1, cond_true]; rw [show fstN (fun j => hiddenS (yearsS n 0 E j) (ix y)) 201 = 201 from fstN_no (fun j hj => hhA j (by omega)), if_neg (by omega)]; try (first | rfl | (simp [hSA]; done)))))⟩
          · skip
            refine v_aload_n h pX4_hidden_0 22 rfl 0 rfl rfl (v_iconst h pX4_hidden_0 23 rfl ki_0 ?_)
            refine v_callV h pX4_hidden_0 24 mX4_111 (As := [.int 0]) (st := []) (kX4_yearBut _ _ cI cS b SA Kp Bf E Q n hWSA (yb + iA) hYA (by omega) 0) v0B v0C (vEmb_rf _ _) 0 rfl rfl rfl rfl rfl rfl rfl (vDet_k ?_)
            show V K (mW cI b (yearS n 0 SA, Kp, Bf, E, Q)) 48 [(0, .ref (b 0)), (1, .int y), (2, .int (nI iA))] []
            have hWS9 : Wf (yearS n 0 SA) n := (Wf_year hWSA _)
            generalize hS9 : yearS n 0 SA = S9 at hWS9 ⊢
            refine v_iinc h pX4_hidden_0 25 (v := nI (iA + 1)) (lv' := [(2, .int (nI (iA + 1))), (0, .ref (b 0)), (1, .int y)]) rfl 2 rfl hnL rfl rfl (nI_1 iA) (v_goto (tgt := 28) h pX4_hidden_0 26 rfl rfl (v_lv [1, 2, 0] (lv' := [(0, .ref (b 0)), (1, .int y), (2, .int (nI (iA + 1)))]) rfl (v_eqw (ws' := mW cI b (yearsS n 0 E (iA + 1), Kp, Bf, E, Q)) (by subst hS9; rw [yearsS, hSA]) ?_)))
            exact ihA (iA + 1) (by omega) (fun j hj => (Nat.lt_succ_iff_lt_or_eq.mp hj).elim (hhA j) (fun e => by rw [e, hSA]; exact c7)) (by omega)
    exact LA (201 + 1) 0 (by omega) (fun j hj => absurd hj (by omega)) (by omega)
  · skip
    refine v_aload_n h pX4_hidden_0 4 rfl 0 rfl rfl (v_ldc h pX4_hidden_0 5 wm_104 rfl ?_)
    refine v_callV h pX4_hidden_0 6 mX4_42 (As := [.int (-1000001)]) (st := []) (kX4_finds _ _ cI cS b E Kp Bf As Q 0 (by decide) (-1000001) (by decide)) v0B v0C (vEmb_rf _ _) 0 rfl rfl rfl rfl rfl rfl rfl (vDet_k ?_)
    show V K (mW cI b (E, Kp, Bf, As, fndS Q 0)) 14 [(0, .ref (b 0)), (1, .int y)] [.int (-1000001)]
    generalize hS10 : fndS Q 0 = S10
    exact v_iret h pX4_hidden_0 7 hR hret rfl ((E, Kp, Bf, As, S10)) rfl ⟨vI (by first | (simp [c1, hS10]; done) | (simp only [c1, cond_true]; rw [show fstN (fun j => hiddenS (yearsS n 0 E j) (ix y)) 201 = iA from fstN_eq hhA (by rw [hSA]; assumption) (by omega), if_pos (by omega)]) | (simp only [c1, cond_true]; rw [show fstN (fun j => hiddenS (yearsS n 0 E j) (ix y)) 201 = 201 from fstN_no (fun j hj => hhA j (by omega)), if_neg (by omega)]; try (first | rfl | (simp [hS10]; done)))), rfl, rfl, (qR_of (by first | (simp [c1, hS10]; done) | (simp only [c1, cond_true]; rw [show fstN (fun j => hiddenS (yearsS n 0 E j) (ix y)) 201 = iA from fstN_eq hhA (by rw [hSA]; assumption) (by omega), if_pos (by omega)]) | (simp only [c1, cond_true]; rw [show fstN (fun j => hiddenS (yearsS n 0 E j) (ix y)) 201 = 201 from fstN_no (fun j hj => hhA j (by omega)), if_neg (by omega)]; try (first | rfl | (simp [hS10]; done)))))⟩
set_option maxHeartbeats 300000 in
set_option maxRecDepth 100000 in
theorem kX4_told (l : Launch) (D : va_G) (cI cS : ClassId) (b : Nat → Nat) (E Kp Bf As Q : Nat → Nat → Int32) (n : Nat) (hW : Wf E n) (yb : Nat) (hY : bd (E 9 2) yb) (hyb : yb ≤ 99000) (y : Int32) : vMet l D (vT cI cS) yX4_told cX4_told 3 (some .int) 4 89 (mW cI b) v0 [.ref (b 0), .int y] (E, Kp, Bf, As, Q) (mPost (some (.int (cond (oyB y n) (if fstN (fun j => toldS (yearsS n 0 E j) (ix y)) 201 < 201 then nI (fstN (fun j => toldS (yearsS n 0 E j) (ix y)) 201) else (-1000004)) ((-1000001))))) (E) (Kp) (cond (oyB y n) (if fstN (fun j => toldS (yearsS n 0 E j) (ix y)) 201 < 201 then Q else fndS Q 3) (fndS Q 0))) := by
  refine vMet_of (by decide) rfl ?_
  intro K hl hD hnL hret h hR hEx
  subst hl hD
  show V K (mW cI b (E, Kp, Bf, As, Q)) 0 [(0, .ref (b 0)), (1, .int y)] []
  have hn8 := hW.1
  refine v_aload_n h pX4_told_0 0 rfl 0 rfl rfl (v_iload_n h pX4_told_0 1 rfl 1 rfl rfl ?_)
  refine v_callV h pX4_told_0 2 mX4_88 (As := [.int y]) (st := []) (kX4_isOyster _ _ cI cS b E Kp Bf As Q n hW.2.1 y) v0B v0C (vEmb_rf _ _) 0 rfl rfl rfl rfl rfl rfl rfl (vDet_k ?_)
  show V K (mW cI b (E, Kp, Bf, As, Q)) 5 [(0, .ref (b 0)), (1, .int y)] [.int (bI (oyB y n))]
  refine v_bif_ne (tgt := 15) h pX4_told_0 3 rfl rfl (fun c1 => ?_) (fun c1 => ?_)
  · skip
    obtain ⟨e_y, l_y⟩ := oyB_t hn8 c1
    refine v_aload_n h pX4_told_0 8 rfl 0 rfl rfl (v_get h pX4_told_0 9 fX4_7 0 rfl rfl rfl (v_aload_n h pX4_told_0 10 rfl 0 rfl rfl (v_get h pX4_told_0 11 fX4_19 0 rfl rfl rfl ?_)))
    refine v_callS h pX4_told_0 12 mX4_132 (As := [.ref (b 1), .ref (b 4)]) (st := []) (kX4_copyRow _ _ cI cS (b 1) (b 4) (pr (fl E) (fl As))) v0B v0C emb_14 rfl rfl rfl rfl rfl (vDet_k ?_)
    show V K (mW cI b (E, Kp, Bf, E, Q)) 26 [(0, .ref (b 0)), (1, .int y)] []
    refine v_iconst h pX4_told_0 13 rfl ki_0 (v_istore_n h pX4_told_0 14 (lv' := [(2, .int 0), (0, .ref (b 0)), (1, .int y)]) rfl rfl hnL rfl rfl ?_)
    refine v_lv [1, 2, 0] (lv' := [(0, .ref (b 0)), (1, .int y), (2, .int 0)]) rfl ?_
    have LA : ∀ (m iA : Nat), iA ≤ 201 → (∀ j, j < iA → toldS (yearsS n 0 E j) (ix y) = false) → 201 + 1 ≤ iA + m → V K (mW cI b (yearsS n 0 E iA, Kp, Bf, E, Q)) 28 [(0, .ref (b 0)), (1, .int y), (2, .int (nI iA))] [] := by
      intro m
      induction m with
      | zero => exact fun iA h1 hh h2 => absurd h2 (by omega)
      | succ m ihA =>
        intro iA hleA hhA hltA
        have hWSA : Wf (yearsS n 0 E iA) n := (Wf_years hW 0 iA)
        generalize hSA : yearsS n 0 E iA = SA at hWSA ⊢
        have hYA : bd (SA 9 2) (yb + iA) := by rw [← hSA]; exact years_bd hY _ (by omega)
        refine v_iload_n h pX4_told_0 15 rfl 2 rfl rfl (v_sipush h pX4_told_0 16 rfl ks_200 ?_)
        refine v_ncmp_gt (a := iA) (b := 200) (tgt := 54) h pX4_told_0 17 rfl rfl (by omega) (by omega) (fun c4 => ?_) (fun c4 => ?_)
        · skip
          refine v_aload_n h pX4_told_0 27 rfl 0 rfl rfl (v_get h pX4_told_0 28 fX4_19 0 rfl rfl rfl (v_aload_n h pX4_told_0 29 rfl 0 rfl rfl (v_get h pX4_told_0 30 fX4_7 0 rfl rfl rfl ?_)))
          refine v_callS h pX4_told_0 31 mX4_132 (As := [.ref (b 4), .ref (b 1)]) (st := []) (kX4_copyRow _ _ cI cS (b 4) (b 1) (pr (fl E) (fl SA))) v0B v0C emb_41 rfl rfl rfl rfl rfl (vDet_k ?_)
          show V K (mW cI b (E, Kp, Bf, E, Q)) 65 [(0, .ref (b 0)), (1, .int y), (2, .int (nI iA))] []
          refine v_iload_n h pX4_told_1 0 rfl 2 rfl rfl (v_sipush h pX4_told_1 1 rfl ks_200 ?_)
          refine v_ncmp_gt (a := iA) (b := 200) (tgt := 76) h pX4_told_1 2 rfl rfl (by omega) (by omega) (fun c5 => ?_) (fun c5 => (by first | exact absurd c5 c4 | exact absurd c4 c5 | (exfalso; omega)))
          refine v_aload_n h pX4_told_1 5 rfl 0 rfl rfl (v_ldc h pX4_told_1 6 wm_405 rfl ?_)
          refine v_callV h pX4_told_1 7 mX4_42 (As := [.int (-1000004)]) (st := []) (kX4_finds _ _ cI cS b E Kp Bf E Q 3 (by decide) (-1000004) (by decide)) v0B v0C (vEmb_rf _ _) 0 rfl rfl rfl rfl rfl rfl rfl (vDet_k ?_)
          show V K (mW cI b (E, Kp, Bf, E, fndS Q 3)) 82 [(0, .ref (b 0)), (1, .int y), (2, .int (nI iA))] [.int (-1000004)]
          generalize hS6 : fndS Q 3 = S6
          exact v_iret h pX4_told_1 8 hR hret rfl ((E, Kp, Bf, E, S6)) rfl ⟨vI (by first | (simp [c1, c4, hSA, hS6]; done) | (simp only [c1, cond_true]; rw [show fstN (fun j => toldS (yearsS n 0 E j) (ix y)) 201 = iA from fstN_eq hhA (by rw [hSA]; assumption) (by omega), if_pos (by omega)]) | (simp only [c1, cond_true]; rw [show fstN (fun j => toldS (yearsS n 0 E j) (ix y)) 201 = 201 from fstN_no (fun j hj => hhA j (by omega)), if_neg (by omega)]; try (first | rfl | (simp [hSA, hS6]; done)))), rfl, rfl, (qR_of (by first | (simp [c1, c4, hSA, hS6]; done) | (simp only [c1, cond_true]; rw [show fstN (fun j => toldS (yearsS n 0 E j) (ix y)) 201 = iA from fstN_eq hhA (by rw [hSA]; assumption) (by omega), if_pos (by omega)]) | (simp only [c1, cond_true]; rw [show fstN (fun j => toldS (yearsS n 0 E j) (ix y)) 201 = 201 from fstN_no (fun j hj => hhA j (by omega)), if_neg (by omega)]; try (first | rfl | (simp [hSA, hS6]; done)))))⟩
        · skip
          refine v_aload_n h pX4_told_0 18 rfl 0 rfl rfl (v_iload_n h pX4_told_0 19 rfl 1 rfl rfl (v_top (w := .int (nI (ix y))) (congrArg Value.int e_y) ?_))
          refine v_callV h pX4_told_0 20 mX4_85 (As := [.int (nI (ix y))]) (st := []) (kX4_isTold _ _ cI cS b SA Kp Bf E Q (ix y) (by omega)) v0B v0C (vEmb_rf _ _) 0 rfl rfl rfl rfl rfl rfl rfl (vDet_k ?_)
          show V K (mW cI b (SA, Kp, Bf, E, Q)) 40 [(0, .ref (b 0)), (1, .int y), (2, .int (nI iA))] [.int (bI (toldS SA (ix y)))]
          refine v_bif_ne (tgt := 54) h pX4_told_0 21 rfl rfl (fun c7 => ?_) (fun c7 => ?_)
          · skip
            refine v_aload_n h pX4_told_0 27 rfl 0 rfl rfl (v_get h pX4_told_0 28 fX4_19 0 rfl rfl rfl (v_aload_n h pX4_told_0 29 rfl 0 rfl rfl (v_get h pX4_told_0 30 fX4_7 0 rfl rfl rfl ?_)))
            refine v_callS h pX4_told_0 31 mX4_132 (As := [.ref (b 4), .ref (b 1)]) (st := []) (kX4_copyRow _ _ cI cS (b 4) (b 1) (pr (fl E) (fl SA))) v0B v0C emb_41 rfl rfl rfl rfl rfl (vDet_k ?_)
            show V K (mW cI b (E, Kp, Bf, E, Q)) 65 [(0, .ref (b 0)), (1, .int y), (2, .int (nI iA))] []
            refine v_iload_n h pX4_told_1 0 rfl 2 rfl rfl (v_sipush h pX4_told_1 1 rfl ks_200 ?_)
            refine v_ncmp_gt (a := iA) (b := 200) (tgt := 76) h pX4_told_1 2 rfl rfl (by omega) (by omega) (fun c8 => (by first | exact absurd c8 c4 | exact absurd c4 c8 | (exfalso; omega))) (fun c8 => ?_)
            refine v_iload_n h pX4_told_1 3 rfl 2 rfl rfl (v_goto (tgt := 82) h pX4_told_1 4 rfl rfl ?_)
            exact v_iret h pX4_told_1 8 hR hret rfl ((E, Kp, Bf, E, Q)) rfl ⟨vI (by first | (simp [c1, c4, c7, hSA]; done) | (simp only [c1, cond_true]; rw [show fstN (fun j => toldS (yearsS n 0 E j) (ix y)) 201 = iA from fstN_eq hhA (by rw [hSA]; assumption) (by omega), if_pos (by omega)]) | (simp only [c1, cond_true]; rw [show fstN (fun j => toldS (yearsS n 0 E j) (ix y)) 201 = 201 from fstN_no (fun j hj => hhA j (by omega)), if_neg (by omega)]; try (first | rfl | (simp [hSA]; done)))), rfl, rfl, (qR_of (by first | (simp [c1, c4, c7, hSA]; done) | (simp only [c1, cond_true]; rw [show fstN (fun j => toldS (yearsS n 0 E j) (ix y)) 201 = iA from fstN_eq hhA (by rw [hSA]; assumption) (by omega), if_pos (by omega)]) | (simp only [c1, cond_true]; rw [show fstN (fun j => toldS (yearsS n 0 E j) (ix y)) 201 = 201 from fstN_no (fun j hj => hhA j (by omega)), if_neg (by omega)]; try (first | rfl | (simp [hSA]; done)))))⟩
          · skip
            refine v_aload_n h pX4_told_0 22 rfl 0 rfl rfl (v_iconst h pX4_told_0 23 rfl ki_0 ?_)
            refine v_callV h pX4_told_0 24 mX4_111 (As := [.int 0]) (st := []) (kX4_yearBut _ _ cI cS b SA Kp Bf E Q n hWSA (yb + iA) hYA (by omega) 0) v0B v0C (vEmb_rf _ _) 0 rfl rfl rfl rfl rfl rfl rfl (vDet_k ?_)
            show V K (mW cI b (yearS n 0 SA, Kp, Bf, E, Q)) 48 [(0, .ref (b 0)), (1, .int y), (2, .int (nI iA))] []
            have hWS9 : Wf (yearS n 0 SA) n := (Wf_year hWSA _)
            generalize hS9 : yearS n 0 SA = S9 at hWS9 ⊢
            refine v_iinc h pX4_told_0 25 (v := nI (iA + 1)) (lv' := [(2, .int (nI (iA + 1))), (0, .ref (b 0)), (1, .int y)]) rfl 2 rfl hnL rfl rfl (nI_1 iA) (v_goto (tgt := 28) h pX4_told_0 26 rfl rfl (v_lv [1, 2, 0] (lv' := [(0, .ref (b 0)), (1, .int y), (2, .int (nI (iA + 1)))]) rfl (v_eqw (ws' := mW cI b (yearsS n 0 E (iA + 1), Kp, Bf, E, Q)) (by subst hS9; rw [yearsS, hSA]) ?_)))
            exact ihA (iA + 1) (by omega) (fun j hj => (Nat.lt_succ_iff_lt_or_eq.mp hj).elim (hhA j) (fun e => by rw [e, hSA]; exact c7)) (by omega)
    exact LA (201 + 1) 0 (by omega) (fun j hj => absurd hj (by omega)) (by omega)
  · skip
    refine v_aload_n h pX4_told_0 4 rfl 0 rfl rfl (v_ldc h pX4_told_0 5 wm_104 rfl ?_)
    refine v_callV h pX4_told_0 6 mX4_42 (As := [.int (-1000001)]) (st := []) (kX4_finds _ _ cI cS b E Kp Bf As Q 0 (by decide) (-1000001) (by decide)) v0B v0C (vEmb_rf _ _) 0 rfl rfl rfl rfl rfl rfl rfl (vDet_k ?_)
    show V K (mW cI b (E, Kp, Bf, As, fndS Q 0)) 14 [(0, .ref (b 0)), (1, .int y)] [.int (-1000001)]
    generalize hS10 : fndS Q 0 = S10
    exact v_iret h pX4_told_0 7 hR hret rfl ((E, Kp, Bf, As, S10)) rfl ⟨vI (by first | (simp [c1, hS10]; done) | (simp only [c1, cond_true]; rw [show fstN (fun j => toldS (yearsS n 0 E j) (ix y)) 201 = iA from fstN_eq hhA (by rw [hSA]; assumption) (by omega), if_pos (by omega)]) | (simp only [c1, cond_true]; rw [show fstN (fun j => toldS (yearsS n 0 E j) (ix y)) 201 = 201 from fstN_no (fun j hj => hhA j (by omega)), if_neg (by omega)]; try (first | rfl | (simp [hS10]; done)))), rfl, rfl, (qR_of (by first | (simp [c1, hS10]; done) | (simp only [c1, cond_true]; rw [show fstN (fun j => toldS (yearsS n 0 E j) (ix y)) 201 = iA from fstN_eq hhA (by rw [hSA]; assumption) (by omega), if_pos (by omega)]) | (simp only [c1, cond_true]; rw [show fstN (fun j => toldS (yearsS n 0 E j) (ix y)) 201 = 201 from fstN_no (fun j hj => hhA j (by omega)), if_neg (by omega)]; try (first | rfl | (simp [hS10]; done)))))⟩
