set_option maxHeartbeats 300000 in
set_option maxRecDepth 100000 in
theorem kX4_bed (l : Launch) (D : va_G) (cI cS : ClassId) (b : Nat → Nat) (E Kp Bf As Q : Nat → Nat → Int32) (n : Nat) (hW : Wf E n) (yb : Nat) (hY : bd (E 9 2) yb) (hyb : yb ≤ 99000) (bd w v : Int32) : vMet l D (vT cI cS) yX4_bed cX4_bed 4 (some .int) 1 25 (mW cI b) v0 [.ref (b 0), .int bd, .int w, .int v] (E, Kp, Bf, As, Q) (mPost (some (.int (cond (inB bd 0 5 && (inB w 0 1 && inB v 0 (if w = 0 then 999 else 9))) (E (ix w) (ix bd)) ((-1000001))))) (cond (inB bd 0 5 && (inB w 0 1 && inB v 0 (if w = 0 then 999 else 9))) (up E (ix w) (ix bd) v) (E)) (Kp) (cond (inB bd 0 5 && (inB w 0 1 && inB v 0 (if w = 0 then 999 else 9))) (Q) (fndS Q 0))) := by
  refine vMet_of (by decide) rfl ?_
  intro K hl hD hnL hret h hR hEx
  subst hl hD
  show V K (mW cI b (E, Kp, Bf, As, Q)) 0 [(0, .ref (b 0)), (1, .int bd), (2, .int w), (3, .int v)] []
  have hn8 := hW.1
  refine v_iload_n h pX4_bed_0 0 rfl 1 rfl rfl ?_
  refine v_callS h pX4_bed_0 1 mX4_46 (As := [.int bd]) (st := []) (kX4_isBed _ _ cI cS bd) v0B v0C (vEmb_u _) rfl rfl rfl rfl rfl (vDet_k ?_)
  show V K (mW cI b (E, Kp, Bf, As, Q)) 4 [(0, .ref (b 0)), (1, .int bd), (2, .int w), (3, .int v)] [.int (bI (inB bd 0 5))]
  refine v_bif_eq (tgt := 39) h pX4_bed_0 2 rfl rfl (fun c1 => ?_) (fun c1 => ?_)
  · skip
    refine v_aload_n h pX4_bed_0 19 rfl 0 rfl rfl (v_ldc h pX4_bed_0 20 wm_104 rfl ?_)
    refine v_callV h pX4_bed_0 21 mX4_42 (As := [.int (-1000001)]) (st := []) (kX4_finds _ _ cI cS b E Kp Bf As Q 0 (by decide) (-1000001) (by decide)) v0B v0C (vEmb_rf _ _) 0 rfl rfl rfl rfl rfl rfl rfl (vDet_k ?_)
    show V K (mW cI b (E, Kp, Bf, As, fndS Q 0)) 45 [(0, .ref (b 0)), (1, .int bd), (2, .int w), (3, .int v)] [.int (-1000001)]
    generalize hS2 : fndS Q 0 = S2
    exact v_iret h pX4_bed_0 22 hR hret rfl ((E, Kp, Bf, As, S2)) rfl ⟨vI (by simp [c1]), (by simp [c1, hS2]), rfl, (qR_of (by simp [c1, hS2]))⟩
  · skip
    obtain ⟨e_bd, l_bd⟩ := inB_t 5 rfl (by decide) c1
    refine v_iload_n h pX4_bed_0 3 rfl 2 rfl rfl (v_i2l h pX4_bed_0 4 rfl (v_lconst (v := (nI 0).toInt64) h pX4_bed_0 5 rfl kl_0 (v_lconst (v := (nI 1).toInt64) h pX4_bed_0 6 rfl kl_1 ?_)))
    refine v_callS h pX4_bed_0 7 mX4_50 (As := [.long w.toInt64, .long ((nI 0).toInt64), .long ((nI 1).toInt64)]) (st := []) (kX4_isIn _ _ cI cS w 0 1) v0B v0C (vEmb_u _) rfl rfl rfl rfl rfl (vDet_k ?_)
    show V K (mW cI b (E, Kp, Bf, As, Q)) 14 [(0, .ref (b 0)), (1, .int bd), (2, .int w), (3, .int v)] [.int (bI (inB w 0 1))]
    refine v_bif_eq (tgt := 39) h pX4_bed_0 8 rfl rfl (fun c3 => ?_) (fun c3 => ?_)
    · skip
      refine v_aload_n h pX4_bed_0 19 rfl 0 rfl rfl (v_ldc h pX4_bed_0 20 wm_104 rfl ?_)
      refine v_callV h pX4_bed_0 21 mX4_42 (As := [.int (-1000001)]) (st := []) (kX4_finds _ _ cI cS b E Kp Bf As Q 0 (by decide) (-1000001) (by decide)) v0B v0C (vEmb_rf _ _) 0 rfl rfl rfl rfl rfl rfl rfl (vDet_k ?_)
      show V K (mW cI b (E, Kp, Bf, As, fndS Q 0)) 45 [(0, .ref (b 0)), (1, .int bd), (2, .int w), (3, .int v)] [.int (-1000001)]
      generalize hS4 : fndS Q 0 = S4
      exact v_iret h pX4_bed_0 22 hR hret rfl ((E, Kp, Bf, As, S4)) rfl ⟨vI (by simp [c1, c3]), (by simp [c1, c3, hS4]), rfl, (qR_of (by simp [c1, c3, hS4]))⟩
    · skip
      obtain ⟨e_w, l_w⟩ := inB_t 1 rfl (by decide) c3
      refine v_iload_n h pX4_bed_0 9 rfl 3 rfl rfl (v_i2l h pX4_bed_0 10 rfl (v_lconst (v := (nI 0).toInt64) h pX4_bed_0 11 rfl kl_0 (v_iload_n h pX4_bed_0 12 rfl 2 rfl rfl ?_)))
      refine v_if_ne (tgt := 30) h pX4_bed_0 13 rfl rfl (fun c5 => ?_) (fun c5 => ?_)
      · skip
        refine v_ldc2 h pX4_bed_0 16 wm_103 rfl (v_top (w := .long (nI 9).toInt64) (kL 9 _ (by decide)) ?_)
        refine v_callS h pX4_bed_0 17 mX4_50 (As := [.long v.toInt64, .long ((nI 0).toInt64), .long ((nI 9).toInt64)]) (st := []) (kX4_isIn _ _ cI cS v 0 9) v0B v0C (vEmb_u _) rfl rfl rfl rfl rfl (vDet_k ?_)
        show V K (mW cI b (E, Kp, Bf, As, Q)) 36 [(0, .ref (b 0)), (1, .int bd), (2, .int w), (3, .int v)] [.int (bI (inB v 0 9))]
        refine v_bif_ne (tgt := 46) h pX4_bed_0 18 rfl rfl (fun c6 => ?_) (fun c6 => ?_)
        · skip
          refine v_aload_n h pX4_bed_0 23 rfl 0 rfl rfl (v_iconst h pX4_bed_0 24 rfl ki_4 (v_bipush h pX4_bed_0 25 rfl kb_6 (v_iload_n h pX4_bed_0 26 rfl 2 rfl rfl (v_top (w := .int (nI (ix w))) (congrArg Value.int e_w) (v_imuln h pX4_bed_0 27 6 (ix w) rfl ?_)))))
          refine v_iaddn h pX4_bed_0 28 4 (6 * (ix w)) rfl (v_iload_n h pX4_bed_0 29 rfl 1 rfl rfl (v_top (w := .int (nI (ix bd))) (congrArg Value.int e_bd) (v_iaddn h pX4_bed_0 30 (4 + 6 * (ix w)) (ix bd) rfl (v_iload_n h pX4_bed_0 31 rfl 3 rfl rfl ?_))))
          refine v_callV h pX4_bed_1 0 mX4_58 (As := [.int (nI (4 + 6 * (ix w) + ix bd)), .int v]) (st := []) (kX4_becomes _ _ cI cS b E Kp Bf As Q (4 + 6 * (ix w) + ix bd) (by omega) (ix w) (ix bd) (flR_b (by omega) (by omega)) (flI_b (by omega) (by omega)) (fl_b _ (by omega) (by omega)) v) v0B v0C (vEmb_rf _ _) 0 rfl rfl rfl rfl rfl rfl rfl (vDet_k ?_)
          show V K (mW cI b (up E (ix w) (ix bd) v, Kp, Bf, As, Q)) 59 [(0, .ref (b 0)), (1, .int bd), (2, .int w), (3, .int v)] [.int (E (ix w) (ix bd))]
          generalize hS7 : up E (ix w) (ix bd) v = S7
          exact v_iret h pX4_bed_1 1 hR hret rfl ((S7, Kp, Bf, As, Q)) rfl ⟨vI (by simp [c1, c3, c5, c6]), (by simp [c1, c3, c5, c6, hS7]), rfl, (qR_of (by simp [c1, c3, c5, c6, hS7]))⟩
        · skip
          refine v_aload_n h pX4_bed_0 19 rfl 0 rfl rfl (v_ldc h pX4_bed_0 20 wm_104 rfl ?_)
          refine v_callV h pX4_bed_0 21 mX4_42 (As := [.int (-1000001)]) (st := []) (kX4_finds _ _ cI cS b E Kp Bf As Q 0 (by decide) (-1000001) (by decide)) v0B v0C (vEmb_rf _ _) 0 rfl rfl rfl rfl rfl rfl rfl (vDet_k ?_)
          show V K (mW cI b (E, Kp, Bf, As, fndS Q 0)) 45 [(0, .ref (b 0)), (1, .int bd), (2, .int w), (3, .int v)] [.int (-1000001)]
          generalize hS8 : fndS Q 0 = S8
          exact v_iret h pX4_bed_0 22 hR hret rfl ((E, Kp, Bf, As, S8)) rfl ⟨vI (by simp [c1, c3, c5, c6]), (by simp [c1, c3, c5, c6, hS8]), rfl, (qR_of (by simp [c1, c3, c5, c6, hS8]))⟩
      · skip
        refine v_ldc2 h pX4_bed_0 14 wm_102 rfl (v_top (w := .long (nI 999).toInt64) (kL 999 _ (by decide)) (v_goto (tgt := 33) h pX4_bed_0 15 rfl rfl ?_))
        refine v_callS h pX4_bed_0 17 mX4_50 (As := [.long v.toInt64, .long ((nI 0).toInt64), .long ((nI 999).toInt64)]) (st := []) (kX4_isIn _ _ cI cS v 0 999) v0B v0C (vEmb_u _) rfl rfl rfl rfl rfl (vDet_k ?_)
        show V K (mW cI b (E, Kp, Bf, As, Q)) 36 [(0, .ref (b 0)), (1, .int bd), (2, .int w), (3, .int v)] [.int (bI (inB v 0 999))]
        refine v_bif_ne (tgt := 46) h pX4_bed_0 18 rfl rfl (fun c9 => ?_) (fun c9 => ?_)
        · skip
          refine v_aload_n h pX4_bed_0 23 rfl 0 rfl rfl (v_iconst h pX4_bed_0 24 rfl ki_4 (v_bipush h pX4_bed_0 25 rfl kb_6 (v_iload_n h pX4_bed_0 26 rfl 2 rfl rfl (v_top (w := .int (nI (ix w))) (congrArg Value.int e_w) (v_imuln h pX4_bed_0 27 6 (ix w) rfl ?_)))))
          refine v_iaddn h pX4_bed_0 28 4 (6 * (ix w)) rfl (v_iload_n h pX4_bed_0 29 rfl 1 rfl rfl (v_top (w := .int (nI (ix bd))) (congrArg Value.int e_bd) (v_iaddn h pX4_bed_0 30 (4 + 6 * (ix w)) (ix bd) rfl (v_iload_n h pX4_bed_0 31 rfl 3 rfl rfl ?_))))
          refine v_callV h pX4_bed_1 0 mX4_58 (As := [.int (nI (4 + 6 * (ix w) + ix bd)), .int v]) (st := []) (kX4_becomes _ _ cI cS b E Kp Bf As Q (4 + 6 * (ix w) + ix bd) (by omega) (ix w) (ix bd) (flR_b (by omega) (by omega)) (flI_b (by omega) (by omega)) (fl_b _ (by omega) (by omega)) v) v0B v0C (vEmb_rf _ _) 0 rfl rfl rfl rfl rfl rfl rfl (vDet_k ?_)
          show V K (mW cI b (up E (ix w) (ix bd) v, Kp, Bf, As, Q)) 59 [(0, .ref (b 0)), (1, .int bd), (2, .int w), (3, .int v)] [.int (E (ix w) (ix bd))]
          generalize hS10 : up E (ix w) (ix bd) v = S10
          exact v_iret h pX4_bed_1 1 hR hret rfl ((S10, Kp, Bf, As, Q)) rfl ⟨vI (by simp [c1, c3, (eq_true c5), c9]), (by simp [c1, c3, (eq_true c5), c9, hS10]), rfl, (qR_of (by simp [c1, c3, (eq_true c5), c9, hS10]))⟩
        · skip
          refine v_aload_n h pX4_bed_0 19 rfl 0 rfl rfl (v_ldc h pX4_bed_0 20 wm_104 rfl ?_)
          refine v_callV h pX4_bed_0 21 mX4_42 (As := [.int (-1000001)]) (st := []) (kX4_finds _ _ cI cS b E Kp Bf As Q 0 (by decide) (-1000001) (by decide)) v0B v0C (vEmb_rf _ _) 0 rfl rfl rfl rfl rfl rfl rfl (vDet_k ?_)
          show V K (mW cI b (E, Kp, Bf, As, fndS Q 0)) 45 [(0, .ref (b 0)), (1, .int bd), (2, .int w), (3, .int v)] [.int (-1000001)]
          generalize hS11 : fndS Q 0 = S11
          exact v_iret h pX4_bed_0 22 hR hret rfl ((E, Kp, Bf, As, S11)) rfl ⟨vI (by simp [c1, c3, (eq_true c5), c9]), (by simp [c1, c3, (eq_true c5), c9, hS11]), rfl, (qR_of (by simp [c1, c3, (eq_true c5), c9, hS11]))⟩
