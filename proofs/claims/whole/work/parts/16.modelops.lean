set_option maxHeartbeats 300000 in
set_option maxRecDepth 100000 in
theorem kX4_sheet (l : Launch) (D : va_G) (cI cS : ClassId) (b : Nat → Nat) (E Kp Bf As Q : Nat → Nat → Int32) (n : Nat) (hW : Wf E n) (yb : Nat) (hY : bd (E 9 2) yb) (hyb : yb ≤ 99000) (hQ : WfQ Q) (t bits sz : Int32) : vMet l D (vT cI cS) yX4_sheet cX4_sheet 5 (some .int) 1 21 (mW cI b) v0 [.ref (b 0), .int t, .int bits, .int sz] (E, Kp, Bf, As, Q) (mPost (some (.int (cond (inB t 0 3 && bitB bits) (if sz < 0 then (-1000007) else if 40 < sz then (-1000001) else if bits = 0 then 0 else sz) ((-1000001))))) (E) (Kp) (cond (inB t 0 3 && bitB bits) (if sz < 0 then fndS Q 6 else if 40 < sz then fndS Q 0 else shtQ Q (ix t) bits sz) (fndS Q 0))) := by
  refine vMet_of (by decide) rfl ?_
  intro K hl hD hnL hret h hR hEx
  subst hl hD
  show V K (mW cI b (E, Kp, Bf, As, Q)) 0 [(0, .ref (b 0)), (1, .int t), (2, .int bits), (3, .int sz)] []
  have hn8 := hW.1
  refine v_iload_n h pX4_sheet_0 0 rfl 1 rfl rfl ?_
  refine v_callS h pX4_sheet_0 1 mX4_269 (As := [.int t]) (st := []) (kX4_isSheet _ _ cI cS t) v0B v0C (vEmb_u _) rfl rfl rfl rfl rfl (vDet_k ?_)
  show V K (mW cI b (E, Kp, Bf, As, Q)) 4 [(0, .ref (b 0)), (1, .int t), (2, .int bits), (3, .int sz)] [.int (bI (inB t 0 3))]
  refine v_bif_eq (tgt := 29) h pX4_sheet_0 2 rfl rfl (fun c1 => ?_) (fun c1 => ?_)
  · skip
    refine v_aload_n h pX4_sheet_0 14 rfl 0 rfl rfl (v_ldc h pX4_sheet_0 15 wm_104 rfl ?_)
    refine v_callV h pX4_sheet_0 16 mX4_42 (As := [.int (-1000001)]) (st := []) (kX4_finds _ _ cI cS b E Kp Bf As Q 0 (by decide) (-1000001) (by decide)) v0B v0C (vEmb_rf _ _) 0 rfl rfl rfl rfl rfl rfl rfl (vDet_k ?_)
    show V K (mW cI b (E, Kp, Bf, As, fndS Q 0)) 35 [(0, .ref (b 0)), (1, .int t), (2, .int bits), (3, .int sz)] [.int (-1000001)]
    generalize hS2 : fndS Q 0 = S2
    exact v_iret h pX4_sheet_0 17 hR hret rfl ((E, Kp, Bf, As, S2)) rfl ⟨vI (by simp [bitB, c1, -Int32.not_lt]), rfl, rfl, (qR_of (by simp [bitB, shtQ, c1, hS2, -Int32.not_lt]))⟩
  · skip
    obtain ⟨e_t, l_t⟩ := inB_t 3 rfl (by decide) c1
    refine v_iload_n h pX4_sheet_0 3 rfl 2 rfl rfl ?_
    refine v_if_eq (tgt := 36) h pX4_sheet_0 4 rfl rfl (fun c3 => ?_) (fun c3 => ?_)
    · skip
      refine v_iload_n h pX4_sheet_0 18 rfl 3 rfl rfl ?_
      refine v_if_ge2 (tgt := 48) h pX4_sheet_0 19 rfl rfl (fun c4 => ?_) (fun c4 => ?_)
      · skip
        refine v_iload_n h pX4_sheet_0 24 rfl 3 rfl rfl (v_bipush h pX4_sheet_0 25 rfl kb_40 ?_)
        refine v_icmp_le2 (tgt := 61) h pX4_sheet_0 26 rfl rfl (fun c5 => ?_) (fun c5 => ?_)
        · skip
          refine v_aload_n h pX4_sheet_0 31 rfl 0 rfl rfl (v_get h pX4_sheet_1 0 fX4_28 0 rfl rfl rfl (v_iload_n h pX4_sheet_1 1 rfl 1 rfl rfl (v_top (w := .int (nI (ix t))) (congrArg Value.int e_t) (v_iload_n h pX4_sheet_1 2 rfl 2 rfl rfl ?_))))
          refine v_if_ne (tgt := 74) h pX4_sheet_1 3 rfl rfl (fun c6 => (by first | exact absurd c6 c3 | exact absurd c3 c6 | (exfalso; omega))) (fun c6 => ?_)
          refine v_iconst h pX4_sheet_1 4 rfl ki_m1 (v_goto (tgt := 75) h pX4_sheet_1 5 rfl rfl (v_iast h pX4_sheet_1 7 (ix t) 7 0 (ws' := mW cI b (E, Kp, Bf, As, up Q 2 (ix t) (-1))) rfl rfl rfl rfl rfl (by omega) mW_q2 (v_aload_n h pX4_sheet_1 8 rfl 0 rfl rfl (v_get h pX4_sheet_1 9 fX4_31 0 rfl rfl rfl (v_iload_n h pX4_sheet_1 10 rfl 1 rfl rfl ?_)))))
          refine v_top (w := .int (nI (ix t))) (congrArg Value.int e_t) (v_iload_n h pX4_sheet_1 11 rfl 2 rfl rfl ?_)
          refine v_if_ne (tgt := 89) h pX4_sheet_1 12 rfl rfl (fun c7 => (by first | exact absurd c7 c3 | exact absurd c3 c7 | (exfalso; omega))) (fun c7 => ?_)
          refine v_iconst h pX4_sheet_1 13 rfl ki_0 (v_goto (tgt := 90) h pX4_sheet_1 14 rfl rfl (v_iast h pX4_sheet_1 16 (ix t) 8 0 (ws' := mW cI b (E, Kp, Bf, As, up (up Q 2 (ix t) (-1)) 3 (ix t) 0)) rfl rfl rfl rfl rfl (by omega) mW_q3 ?_))
          refine v_iconst h pX4_sheet_1 17 rfl ki_0 (v_istore h pX4_sheet_1 18 (lv' := [(4, .int 0), (0, .ref (b 0)), (1, .int t), (2, .int bits), (3, .int sz)]) rfl hnL rfl rfl ?_)
          refine v_lv [1, 2, 3, 4, 0] (lv' := [(0, .ref (b 0)), (1, .int t), (2, .int bits), (3, .int sz), (4, .int 0)]) rfl ?_
          have L8 : ∀ (m i8 : Nat), i8 ≤ 40 → 40 + 1 ≤ i8 + m → V K (mW cI b (E, Kp, Bf, As, zS (up (up Q 2 (ix t) (-1)) 3 (ix t) 0) (ix t) i8)) 94 [(0, .ref (b 0)), (1, .int t), (2, .int bits), (3, .int sz), (4, .int (nI i8))] [] := by
            intro m
            induction m with
            | zero => exact fun i8 h1 h2 => absurd h2 (by omega)
            | succ m ih8 =>
              intro i8 hle8 hlt8
              generalize hSA : zS (up (up Q 2 (ix t) (-1)) 3 (ix t) 0) (ix t) i8 = SA
              refine v_iload h pX4_sheet_1 19 rfl 4 rfl (v_bipush h pX4_sheet_1 20 rfl kb_40 ?_)
              refine v_ncmp_ge (a := i8) (b := 40) (tgt := 120) h pX4_sheet_1 21 rfl rfl (by omega) (by omega) (fun c10 => ?_) (fun c10 => ?_)
              · skip
                obtain rfl : 40 = i8 := by omega
                refine v_aload_n h pX4_sheet_2 1 rfl 0 rfl rfl (v_get h pX4_sheet_2 2 fX4_31 0 rfl rfl rfl (v_iload_n h pX4_sheet_2 3 rfl 1 rfl rfl (v_top (w := .int (nI (ix t))) (congrArg Value.int e_t) (v_iald h pX4_sheet_2 4 (ix t) 8 0 rfl rfl rfl rfl rfl (by omega) ?_))))
                refine v_top (w := .int 0) (congrArg Value.int (show SA 3 (ix t) = 0 from by rw [← hSA, zS_n _ _ rfl]; exact upd_s _ _ _)) ?_
                exact v_iret h pX4_sheet_2 5 hR hret rfl ((E, Kp, Bf, As, SA)) rfl ⟨vI (by simp [bitB, c1, (eq_true c3), c4, c5, c10, -Int32.not_lt]), rfl, rfl, (qR_of (by simp [bitB, shtQ, c1, (eq_true c3), c4, c5, c10, hSA, -Int32.not_lt]))⟩
              · skip
                refine v_aload_n h pX4_sheet_1 22 rfl 0 rfl rfl (v_get h pX4_sheet_1 23 fX4_34 0 rfl rfl rfl (v_bipush h pX4_sheet_1 24 rfl kb_40 (v_iload_n h pX4_sheet_1 25 rfl 1 rfl rfl (v_top (w := .int (nI (ix t))) (congrArg Value.int e_t) (v_imuln h pX4_sheet_1 26 40 (ix t) rfl ?_)))))
                refine v_iload h pX4_sheet_1 27 rfl 4 rfl (v_iaddn h pX4_sheet_1 28 (40 * (ix t)) i8 rfl (v_iconst h pX4_sheet_1 29 rfl ki_0 (v_iast h pX4_sheet_1 30 (40 * (ix t) + i8) 9 0 (ws' := mW cI b (E, Kp, Bf, As, up SA 4 (40 * (ix t) + i8) 0)) rfl rfl rfl rfl rfl (by omega) mW_q4 (v_iinc h pX4_sheet_1 31 (v := nI (i8 + 1)) (lv' := [(4, .int (nI (i8 + 1))), (0, .ref (b 0)), (1, .int t), (2, .int bits), (3, .int sz)]) rfl 4 rfl hnL rfl rfl (nI_1 i8) (v_goto (tgt := 94) h pX4_sheet_2 0 rfl rfl ?_)))))
                refine v_lv [1, 2, 3, 4, 0] (lv' := [(0, .ref (b 0)), (1, .int t), (2, .int bits), (3, .int sz), (4, .int (nI (i8 + 1)))]) rfl (v_eqw (ws' := mW cI b (E, Kp, Bf, As, zS (up (up Q 2 (ix t) (-1)) 3 (ix t) 0) (ix t) (i8 + 1))) (by rw [zS, hSA]) ?_)
                exact ih8 (i8 + 1) (by omega) (by omega)
          exact L8 (40 + 1) 0 (by omega) (by omega)
        · skip
          refine v_aload_n h pX4_sheet_0 27 rfl 0 rfl rfl (v_ldc h pX4_sheet_0 28 wm_104 rfl ?_)
          refine v_callV h pX4_sheet_0 29 mX4_42 (As := [.int (-1000001)]) (st := []) (kX4_finds _ _ cI cS b E Kp Bf As Q 0 (by decide) (-1000001) (by decide)) v0B v0C (vEmb_rf _ _) 0 rfl rfl rfl rfl rfl rfl rfl (vDet_k ?_)
          show V K (mW cI b (E, Kp, Bf, As, fndS Q 0)) 60 [(0, .ref (b 0)), (1, .int t), (2, .int bits), (3, .int sz)] [.int (-1000001)]
          generalize hS11 : fndS Q 0 = S11
          exact v_iret h pX4_sheet_0 30 hR hret rfl ((E, Kp, Bf, As, S11)) rfl ⟨vI (by simp [bitB, c1, (eq_true c3), c4, c5, -Int32.not_lt]), rfl, rfl, (qR_of (by simp [bitB, shtQ, c1, (eq_true c3), c4, c5, hS11, -Int32.not_lt]))⟩
      · skip
        refine v_aload_n h pX4_sheet_0 20 rfl 0 rfl rfl (v_ldcw h pX4_sheet_0 21 wm_915 rfl ?_)
        refine v_callV h pX4_sheet_0 22 mX4_42 (As := [.int (-1000007)]) (st := []) (kX4_finds _ _ cI cS b E Kp Bf As Q 6 (by decide) (-1000007) (by decide)) v0B v0C (vEmb_rf _ _) 0 rfl rfl rfl rfl rfl rfl rfl (vDet_k ?_)
        show V K (mW cI b (E, Kp, Bf, As, fndS Q 6)) 47 [(0, .ref (b 0)), (1, .int t), (2, .int bits), (3, .int sz)] [.int (-1000007)]
        generalize hS12 : fndS Q 6 = S12
        exact v_iret h pX4_sheet_0 23 hR hret rfl ((E, Kp, Bf, As, S12)) rfl ⟨vI (by simp [bitB, c1, (eq_true c3), c4, -Int32.not_lt]), rfl, rfl, (qR_of (by simp [bitB, shtQ, c1, (eq_true c3), c4, hS12, -Int32.not_lt]))⟩
    · skip
      refine v_iload_n h pX4_sheet_0 5 rfl 2 rfl rfl (v_bipush h pX4_sheet_0 6 rfl kb_8 ?_)
      refine v_icmp_eq (tgt := 36) h pX4_sheet_0 7 rfl rfl (fun c13 => ?_) (fun c13 => ?_)
      · skip
        refine v_iload_n h pX4_sheet_0 18 rfl 3 rfl rfl ?_
        refine v_if_ge2 (tgt := 48) h pX4_sheet_0 19 rfl rfl (fun c14 => ?_) (fun c14 => ?_)
        · skip
          refine v_iload_n h pX4_sheet_0 24 rfl 3 rfl rfl (v_bipush h pX4_sheet_0 25 rfl kb_40 ?_)
          refine v_icmp_le2 (tgt := 61) h pX4_sheet_0 26 rfl rfl (fun c15 => ?_) (fun c15 => ?_)
          · skip
            refine v_aload_n h pX4_sheet_0 31 rfl 0 rfl rfl (v_get h pX4_sheet_1 0 fX4_28 0 rfl rfl rfl (v_iload_n h pX4_sheet_1 1 rfl 1 rfl rfl (v_top (w := .int (nI (ix t))) (congrArg Value.int e_t) (v_iload_n h pX4_sheet_1 2 rfl 2 rfl rfl ?_))))
            refine v_if_ne (tgt := 74) h pX4_sheet_1 3 rfl rfl (fun c16 => ?_) (fun c16 => (by first | exact absurd c16 c3 | exact absurd c3 c16 | (exfalso; omega)))
            refine v_iload_n h pX4_sheet_1 6 rfl 2 rfl rfl (v_iast h pX4_sheet_1 7 (ix t) 7 0 (ws' := mW cI b (E, Kp, Bf, As, up Q 2 (ix t) bits)) rfl rfl rfl rfl rfl (by omega) mW_q2 (v_aload_n h pX4_sheet_1 8 rfl 0 rfl rfl (v_get h pX4_sheet_1 9 fX4_31 0 rfl rfl rfl (v_iload_n h pX4_sheet_1 10 rfl 1 rfl rfl (v_top (w := .int (nI (ix t))) (congrArg Value.int e_t) ?_)))))
            refine v_iload_n h pX4_sheet_1 11 rfl 2 rfl rfl ?_
            refine v_if_ne (tgt := 89) h pX4_sheet_1 12 rfl rfl (fun c17 => ?_) (fun c17 => (by first | exact absurd c17 c3 | exact absurd c3 c17 | (exfalso; omega)))
            refine v_iload_n h pX4_sheet_1 15 rfl 3 rfl rfl (v_iast h pX4_sheet_1 16 (ix t) 8 0 (ws' := mW cI b (E, Kp, Bf, As, up (up Q 2 (ix t) bits) 3 (ix t) sz)) rfl rfl rfl rfl rfl (by omega) mW_q3 ?_)
            refine v_iconst h pX4_sheet_1 17 rfl ki_0 (v_istore h pX4_sheet_1 18 (lv' := [(4, .int 0), (0, .ref (b 0)), (1, .int t), (2, .int bits), (3, .int sz)]) rfl hnL rfl rfl ?_)
            refine v_lv [1, 2, 3, 4, 0] (lv' := [(0, .ref (b 0)), (1, .int t), (2, .int bits), (3, .int sz), (4, .int 0)]) rfl ?_
            have L18 : ∀ (m i18 : Nat), i18 ≤ 40 → 40 + 1 ≤ i18 + m → V K (mW cI b (E, Kp, Bf, As, zS (up (up Q 2 (ix t) bits) 3 (ix t) sz) (ix t) i18)) 94 [(0, .ref (b 0)), (1, .int t), (2, .int bits), (3, .int sz), (4, .int (nI i18))] [] := by
              intro m
              induction m with
              | zero => exact fun i18 h1 h2 => absurd h2 (by omega)
              | succ m ih18 =>
                intro i18 hle18 hlt18
                generalize hSA : zS (up (up Q 2 (ix t) bits) 3 (ix t) sz) (ix t) i18 = SA
                refine v_iload h pX4_sheet_1 19 rfl 4 rfl (v_bipush h pX4_sheet_1 20 rfl kb_40 ?_)
                refine v_ncmp_ge (a := i18) (b := 40) (tgt := 120) h pX4_sheet_1 21 rfl rfl (by omega) (by omega) (fun c20 => ?_) (fun c20 => ?_)
                · skip
                  obtain rfl : 40 = i18 := by omega
                  refine v_aload_n h pX4_sheet_2 1 rfl 0 rfl rfl (v_get h pX4_sheet_2 2 fX4_31 0 rfl rfl rfl (v_iload_n h pX4_sheet_2 3 rfl 1 rfl rfl (v_top (w := .int (nI (ix t))) (congrArg Value.int e_t) (v_iald h pX4_sheet_2 4 (ix t) 8 0 rfl rfl rfl rfl rfl (by omega) ?_))))
                  refine v_top (w := .int sz) (congrArg Value.int (show SA 3 (ix t) = sz from by rw [← hSA, zS_n _ _ rfl]; exact upd_s _ _ _)) ?_
                  exact v_iret h pX4_sheet_2 5 hR hret rfl ((E, Kp, Bf, As, SA)) rfl ⟨vI (by simp [bitB, c1, c3, (eq_true c13), c14, c15, c20, -Int32.not_lt]), rfl, rfl, (qR_of (by simp [bitB, shtQ, c1, c3, (eq_true c13), c14, c15, c20, hSA, -Int32.not_lt]))⟩
                · skip
                  refine v_aload_n h pX4_sheet_1 22 rfl 0 rfl rfl (v_get h pX4_sheet_1 23 fX4_34 0 rfl rfl rfl (v_bipush h pX4_sheet_1 24 rfl kb_40 (v_iload_n h pX4_sheet_1 25 rfl 1 rfl rfl (v_top (w := .int (nI (ix t))) (congrArg Value.int e_t) (v_imuln h pX4_sheet_1 26 40 (ix t) rfl ?_)))))
                  refine v_iload h pX4_sheet_1 27 rfl 4 rfl (v_iaddn h pX4_sheet_1 28 (40 * (ix t)) i18 rfl (v_iconst h pX4_sheet_1 29 rfl ki_0 (v_iast h pX4_sheet_1 30 (40 * (ix t) + i18) 9 0 (ws' := mW cI b (E, Kp, Bf, As, up SA 4 (40 * (ix t) + i18) 0)) rfl rfl rfl rfl rfl (by omega) mW_q4 (v_iinc h pX4_sheet_1 31 (v := nI (i18 + 1)) (lv' := [(4, .int (nI (i18 + 1))), (0, .ref (b 0)), (1, .int t), (2, .int bits), (3, .int sz)]) rfl 4 rfl hnL rfl rfl (nI_1 i18) (v_goto (tgt := 94) h pX4_sheet_2 0 rfl rfl ?_)))))
                  refine v_lv [1, 2, 3, 4, 0] (lv' := [(0, .ref (b 0)), (1, .int t), (2, .int bits), (3, .int sz), (4, .int (nI (i18 + 1)))]) rfl (v_eqw (ws' := mW cI b (E, Kp, Bf, As, zS (up (up Q 2 (ix t) bits) 3 (ix t) sz) (ix t) (i18 + 1))) (by rw [zS, hSA]) ?_)
                  exact ih18 (i18 + 1) (by omega) (by omega)
            exact L18 (40 + 1) 0 (by omega) (by omega)
          · skip
            refine v_aload_n h pX4_sheet_0 27 rfl 0 rfl rfl (v_ldc h pX4_sheet_0 28 wm_104 rfl ?_)
            refine v_callV h pX4_sheet_0 29 mX4_42 (As := [.int (-1000001)]) (st := []) (kX4_finds _ _ cI cS b E Kp Bf As Q 0 (by decide) (-1000001) (by decide)) v0B v0C (vEmb_rf _ _) 0 rfl rfl rfl rfl rfl rfl rfl (vDet_k ?_)
            show V K (mW cI b (E, Kp, Bf, As, fndS Q 0)) 60 [(0, .ref (b 0)), (1, .int t), (2, .int bits), (3, .int sz)] [.int (-1000001)]
            generalize hS21 : fndS Q 0 = S21
            exact v_iret h pX4_sheet_0 30 hR hret rfl ((E, Kp, Bf, As, S21)) rfl ⟨vI (by simp [bitB, c1, c3, (eq_true c13), c14, c15, -Int32.not_lt]), rfl, rfl, (qR_of (by simp [bitB, shtQ, c1, c3, (eq_true c13), c14, c15, hS21, -Int32.not_lt]))⟩
        · skip
          refine v_aload_n h pX4_sheet_0 20 rfl 0 rfl rfl (v_ldcw h pX4_sheet_0 21 wm_915 rfl ?_)
          refine v_callV h pX4_sheet_0 22 mX4_42 (As := [.int (-1000007)]) (st := []) (kX4_finds _ _ cI cS b E Kp Bf As Q 6 (by decide) (-1000007) (by decide)) v0B v0C (vEmb_rf _ _) 0 rfl rfl rfl rfl rfl rfl rfl (vDet_k ?_)
          show V K (mW cI b (E, Kp, Bf, As, fndS Q 6)) 47 [(0, .ref (b 0)), (1, .int t), (2, .int bits), (3, .int sz)] [.int (-1000007)]
          generalize hS22 : fndS Q 6 = S22
          exact v_iret h pX4_sheet_0 23 hR hret rfl ((E, Kp, Bf, As, S22)) rfl ⟨vI (by simp [bitB, c1, c3, (eq_true c13), c14, -Int32.not_lt]), rfl, rfl, (qR_of (by simp [bitB, shtQ, c1, c3, (eq_true c13), c14, hS22, -Int32.not_lt]))⟩
      · skip
        refine v_iload_n h pX4_sheet_0 8 rfl 2 rfl rfl (v_bipush h pX4_sheet_0 9 rfl kb_16 ?_)
        refine v_icmp_eq (tgt := 36) h pX4_sheet_0 10 rfl rfl (fun c23 => ?_) (fun c23 => ?_)
        · skip
          refine v_iload_n h pX4_sheet_0 18 rfl 3 rfl rfl ?_
          refine v_if_ge2 (tgt := 48) h pX4_sheet_0 19 rfl rfl (fun c24 => ?_) (fun c24 => ?_)
          · skip
            refine v_iload_n h pX4_sheet_0 24 rfl 3 rfl rfl (v_bipush h pX4_sheet_0 25 rfl kb_40 ?_)
            refine v_icmp_le2 (tgt := 61) h pX4_sheet_0 26 rfl rfl (fun c25 => ?_) (fun c25 => ?_)
            · skip
              refine v_aload_n h pX4_sheet_0 31 rfl 0 rfl rfl (v_get h pX4_sheet_1 0 fX4_28 0 rfl rfl rfl (v_iload_n h pX4_sheet_1 1 rfl 1 rfl rfl (v_top (w := .int (nI (ix t))) (congrArg Value.int e_t) (v_iload_n h pX4_sheet_1 2 rfl 2 rfl rfl ?_))))
              refine v_if_ne (tgt := 74) h pX4_sheet_1 3 rfl rfl (fun c26 => ?_) (fun c26 => (by first | exact absurd c26 c3 | exact absurd c3 c26 | (exfalso; omega)))
              refine v_iload_n h pX4_sheet_1 6 rfl 2 rfl rfl (v_iast h pX4_sheet_1 7 (ix t) 7 0 (ws' := mW cI b (E, Kp, Bf, As, up Q 2 (ix t) bits)) rfl rfl rfl rfl rfl (by omega) mW_q2 (v_aload_n h pX4_sheet_1 8 rfl 0 rfl rfl (v_get h pX4_sheet_1 9 fX4_31 0 rfl rfl rfl (v_iload_n h pX4_sheet_1 10 rfl 1 rfl rfl (v_top (w := .int (nI (ix t))) (congrArg Value.int e_t) ?_)))))
              refine v_iload_n h pX4_sheet_1 11 rfl 2 rfl rfl ?_
              refine v_if_ne (tgt := 89) h pX4_sheet_1 12 rfl rfl (fun c27 => ?_) (fun c27 => (by first | exact absurd c27 c3 | exact absurd c3 c27 | (exfalso; omega)))
              refine v_iload_n h pX4_sheet_1 15 rfl 3 rfl rfl (v_iast h pX4_sheet_1 16 (ix t) 8 0 (ws' := mW cI b (E, Kp, Bf, As, up (up Q 2 (ix t) bits) 3 (ix t) sz)) rfl rfl rfl rfl rfl (by omega) mW_q3 ?_)
              refine v_iconst h pX4_sheet_1 17 rfl ki_0 (v_istore h pX4_sheet_1 18 (lv' := [(4, .int 0), (0, .ref (b 0)), (1, .int t), (2, .int bits), (3, .int sz)]) rfl hnL rfl rfl ?_)
              refine v_lv [1, 2, 3, 4, 0] (lv' := [(0, .ref (b 0)), (1, .int t), (2, .int bits), (3, .int sz), (4, .int 0)]) rfl ?_
              have L28 : ∀ (m i28 : Nat), i28 ≤ 40 → 40 + 1 ≤ i28 + m → V K (mW cI b (E, Kp, Bf, As, zS (up (up Q 2 (ix t) bits) 3 (ix t) sz) (ix t) i28)) 94 [(0, .ref (b 0)), (1, .int t), (2, .int bits), (3, .int sz), (4, .int (nI i28))] [] := by
                intro m
                induction m with
                | zero => exact fun i28 h1 h2 => absurd h2 (by omega)
                | succ m ih28 =>
                  intro i28 hle28 hlt28
                  generalize hSA : zS (up (up Q 2 (ix t) bits) 3 (ix t) sz) (ix t) i28 = SA
                  refine v_iload h pX4_sheet_1 19 rfl 4 rfl (v_bipush h pX4_sheet_1 20 rfl kb_40 ?_)
                  refine v_ncmp_ge (a := i28) (b := 40) (tgt := 120) h pX4_sheet_1 21 rfl rfl (by omega) (by omega) (fun c30 => ?_) (fun c30 => ?_)
                  · skip
                    obtain rfl : 40 = i28 := by omega
                    refine v_aload_n h pX4_sheet_2 1 rfl 0 rfl rfl (v_get h pX4_sheet_2 2 fX4_31 0 rfl rfl rfl (v_iload_n h pX4_sheet_2 3 rfl 1 rfl rfl (v_top (w := .int (nI (ix t))) (congrArg Value.int e_t) (v_iald h pX4_sheet_2 4 (ix t) 8 0 rfl rfl rfl rfl rfl (by omega) ?_))))
                    refine v_top (w := .int sz) (congrArg Value.int (show SA 3 (ix t) = sz from by rw [← hSA, zS_n _ _ rfl]; exact upd_s _ _ _)) ?_
                    exact v_iret h pX4_sheet_2 5 hR hret rfl ((E, Kp, Bf, As, SA)) rfl ⟨vI (by simp [bitB, c1, c3, c13, (eq_true c23), c24, c25, c30, -Int32.not_lt]), rfl, rfl, (qR_of (by simp [bitB, shtQ, c1, c3, c13, (eq_true c23), c24, c25, c30, hSA, -Int32.not_lt]))⟩
                  · skip
                    refine v_aload_n h pX4_sheet_1 22 rfl 0 rfl rfl (v_get h pX4_sheet_1 23 fX4_34 0 rfl rfl rfl (v_bipush h pX4_sheet_1 24 rfl kb_40 (v_iload_n h pX4_sheet_1 25 rfl 1 rfl rfl (v_top (w := .int (nI (ix t))) (congrArg Value.int e_t) (v_imuln h pX4_sheet_1 26 40 (ix t) rfl ?_)))))
                    refine v_iload h pX4_sheet_1 27 rfl 4 rfl (v_iaddn h pX4_sheet_1 28 (40 * (ix t)) i28 rfl (v_iconst h pX4_sheet_1 29 rfl ki_0 (v_iast h pX4_sheet_1 30 (40 * (ix t) + i28) 9 0 (ws' := mW cI b (E, Kp, Bf, As, up SA 4 (40 * (ix t) + i28) 0)) rfl rfl rfl rfl rfl (by omega) mW_q4 (v_iinc h pX4_sheet_1 31 (v := nI (i28 + 1)) (lv' := [(4, .int (nI (i28 + 1))), (0, .ref (b 0)), (1, .int t), (2, .int bits), (3, .int sz)]) rfl 4 rfl hnL rfl rfl (nI_1 i28) (v_goto (tgt := 94) h pX4_sheet_2 0 rfl rfl ?_)))))
                    refine v_lv [1, 2, 3, 4, 0] (lv' := [(0, .ref (b 0)), (1, .int t), (2, .int bits), (3, .int sz), (4, .int (nI (i28 + 1)))]) rfl (v_eqw (ws' := mW cI b (E, Kp, Bf, As, zS (up (up Q 2 (ix t) bits) 3 (ix t) sz) (ix t) (i28 + 1))) (by rw [zS, hSA]) ?_)
                    exact ih28 (i28 + 1) (by omega) (by omega)
              exact L28 (40 + 1) 0 (by omega) (by omega)
            · skip
              refine v_aload_n h pX4_sheet_0 27 rfl 0 rfl rfl (v_ldc h pX4_sheet_0 28 wm_104 rfl ?_)
              refine v_callV h pX4_sheet_0 29 mX4_42 (As := [.int (-1000001)]) (st := []) (kX4_finds _ _ cI cS b E Kp Bf As Q 0 (by decide) (-1000001) (by decide)) v0B v0C (vEmb_rf _ _) 0 rfl rfl rfl rfl rfl rfl rfl (vDet_k ?_)
              show V K (mW cI b (E, Kp, Bf, As, fndS Q 0)) 60 [(0, .ref (b 0)), (1, .int t), (2, .int bits), (3, .int sz)] [.int (-1000001)]
              generalize hS31 : fndS Q 0 = S31
              exact v_iret h pX4_sheet_0 30 hR hret rfl ((E, Kp, Bf, As, S31)) rfl ⟨vI (by simp [bitB, c1, c3, c13, (eq_true c23), c24, c25, -Int32.not_lt]), rfl, rfl, (qR_of (by simp [bitB, shtQ, c1, c3, c13, (eq_true c23), c24, c25, hS31, -Int32.not_lt]))⟩
          · skip
            refine v_aload_n h pX4_sheet_0 20 rfl 0 rfl rfl (v_ldcw h pX4_sheet_0 21 wm_915 rfl ?_)
            refine v_callV h pX4_sheet_0 22 mX4_42 (As := [.int (-1000007)]) (st := []) (kX4_finds _ _ cI cS b E Kp Bf As Q 6 (by decide) (-1000007) (by decide)) v0B v0C (vEmb_rf _ _) 0 rfl rfl rfl rfl rfl rfl rfl (vDet_k ?_)
            show V K (mW cI b (E, Kp, Bf, As, fndS Q 6)) 47 [(0, .ref (b 0)), (1, .int t), (2, .int bits), (3, .int sz)] [.int (-1000007)]
            generalize hS32 : fndS Q 6 = S32
            exact v_iret h pX4_sheet_0 23 hR hret rfl ((E, Kp, Bf, As, S32)) rfl ⟨vI (by simp [bitB, c1, c3, c13, (eq_true c23), c24, -Int32.not_lt]), rfl, rfl, (qR_of (by simp [bitB, shtQ, c1, c3, c13, (eq_true c23), c24, hS32, -Int32.not_lt]))⟩
        · skip
          refine v_iload_n h pX4_sheet_0 11 rfl 2 rfl rfl (v_bipush h pX4_sheet_0 12 rfl kb_32 ?_)
          refine v_icmp_eq (tgt := 36) h pX4_sheet_0 13 rfl rfl (fun c33 => ?_) (fun c33 => ?_)
          · skip
            refine v_iload_n h pX4_sheet_0 18 rfl 3 rfl rfl ?_
            refine v_if_ge2 (tgt := 48) h pX4_sheet_0 19 rfl rfl (fun c34 => ?_) (fun c34 => ?_)
            · skip
              refine v_iload_n h pX4_sheet_0 24 rfl 3 rfl rfl (v_bipush h pX4_sheet_0 25 rfl kb_40 ?_)
              refine v_icmp_le2 (tgt := 61) h pX4_sheet_0 26 rfl rfl (fun c35 => ?_) (fun c35 => ?_)
              · skip
                refine v_aload_n h pX4_sheet_0 31 rfl 0 rfl rfl (v_get h pX4_sheet_1 0 fX4_28 0 rfl rfl rfl (v_iload_n h pX4_sheet_1 1 rfl 1 rfl rfl (v_top (w := .int (nI (ix t))) (congrArg Value.int e_t) (v_iload_n h pX4_sheet_1 2 rfl 2 rfl rfl ?_))))
                refine v_if_ne (tgt := 74) h pX4_sheet_1 3 rfl rfl (fun c36 => ?_) (fun c36 => (by first | exact absurd c36 c3 | exact absurd c3 c36 | (exfalso; omega)))
                refine v_iload_n h pX4_sheet_1 6 rfl 2 rfl rfl (v_iast h pX4_sheet_1 7 (ix t) 7 0 (ws' := mW cI b (E, Kp, Bf, As, up Q 2 (ix t) bits)) rfl rfl rfl rfl rfl (by omega) mW_q2 (v_aload_n h pX4_sheet_1 8 rfl 0 rfl rfl (v_get h pX4_sheet_1 9 fX4_31 0 rfl rfl rfl (v_iload_n h pX4_sheet_1 10 rfl 1 rfl rfl (v_top (w := .int (nI (ix t))) (congrArg Value.int e_t) ?_)))))
                refine v_iload_n h pX4_sheet_1 11 rfl 2 rfl rfl ?_
                refine v_if_ne (tgt := 89) h pX4_sheet_1 12 rfl rfl (fun c37 => ?_) (fun c37 => (by first | exact absurd c37 c3 | exact absurd c3 c37 | (exfalso; omega)))
                refine v_iload_n h pX4_sheet_1 15 rfl 3 rfl rfl (v_iast h pX4_sheet_1 16 (ix t) 8 0 (ws' := mW cI b (E, Kp, Bf, As, up (up Q 2 (ix t) bits) 3 (ix t) sz)) rfl rfl rfl rfl rfl (by omega) mW_q3 ?_)
                refine v_iconst h pX4_sheet_1 17 rfl ki_0 (v_istore h pX4_sheet_1 18 (lv' := [(4, .int 0), (0, .ref (b 0)), (1, .int t), (2, .int bits), (3, .int sz)]) rfl hnL rfl rfl ?_)
                refine v_lv [1, 2, 3, 4, 0] (lv' := [(0, .ref (b 0)), (1, .int t), (2, .int bits), (3, .int sz), (4, .int 0)]) rfl ?_
                have L38 : ∀ (m i38 : Nat), i38 ≤ 40 → 40 + 1 ≤ i38 + m → V K (mW cI b (E, Kp, Bf, As, zS (up (up Q 2 (ix t) bits) 3 (ix t) sz) (ix t) i38)) 94 [(0, .ref (b 0)), (1, .int t), (2, .int bits), (3, .int sz), (4, .int (nI i38))] [] := by
                  intro m
                  induction m with
                  | zero => exact fun i38 h1 h2 => absurd h2 (by omega)
                  | succ m ih38 =>
                    intro i38 hle38 hlt38
                    generalize hSA : zS (up (up Q 2 (ix t) bits) 3 (ix t) sz) (ix t) i38 = SA
                    refine v_iload h pX4_sheet_1 19 rfl 4 rfl (v_bipush h pX4_sheet_1 20 rfl kb_40 ?_)
                    refine v_ncmp_ge (a := i38) (b := 40) (tgt := 120) h pX4_sheet_1 21 rfl rfl (by omega) (by omega) (fun c40 => ?_) (fun c40 => ?_)
                    · skip
                      obtain rfl : 40 = i38 := by omega
                      refine v_aload_n h pX4_sheet_2 1 rfl 0 rfl rfl (v_get h pX4_sheet_2 2 fX4_31 0 rfl rfl rfl (v_iload_n h pX4_sheet_2 3 rfl 1 rfl rfl (v_top (w := .int (nI (ix t))) (congrArg Value.int e_t) (v_iald h pX4_sheet_2 4 (ix t) 8 0 rfl rfl rfl rfl rfl (by omega) ?_))))
                      refine v_top (w := .int sz) (congrArg Value.int (show SA 3 (ix t) = sz from by rw [← hSA, zS_n _ _ rfl]; exact upd_s _ _ _)) ?_
                      exact v_iret h pX4_sheet_2 5 hR hret rfl ((E, Kp, Bf, As, SA)) rfl ⟨vI (by simp [bitB, c1, c3, c13, c23, (eq_true c33), c34, c35, c40, -Int32.not_lt]), rfl, rfl, (qR_of (by simp [bitB, shtQ, c1, c3, c13, c23, (eq_true c33), c34, c35, c40, hSA, -Int32.not_lt]))⟩
                    · skip
                      refine v_aload_n h pX4_sheet_1 22 rfl 0 rfl rfl (v_get h pX4_sheet_1 23 fX4_34 0 rfl rfl rfl (v_bipush h pX4_sheet_1 24 rfl kb_40 (v_iload_n h pX4_sheet_1 25 rfl 1 rfl rfl (v_top (w := .int (nI (ix t))) (congrArg Value.int e_t) (v_imuln h pX4_sheet_1 26 40 (ix t) rfl ?_)))))
                      refine v_iload h pX4_sheet_1 27 rfl 4 rfl (v_iaddn h pX4_sheet_1 28 (40 * (ix t)) i38 rfl (v_iconst h pX4_sheet_1 29 rfl ki_0 (v_iast h pX4_sheet_1 30 (40 * (ix t) + i38) 9 0 (ws' := mW cI b (E, Kp, Bf, As, up SA 4 (40 * (ix t) + i38) 0)) rfl rfl rfl rfl rfl (by omega) mW_q4 (v_iinc h pX4_sheet_1 31 (v := nI (i38 + 1)) (lv' := [(4, .int (nI (i38 + 1))), (0, .ref (b 0)), (1, .int t), (2, .int bits), (3, .int sz)]) rfl 4 rfl hnL rfl rfl (nI_1 i38) (v_goto (tgt := 94) h pX4_sheet_2 0 rfl rfl ?_)))))
                      refine v_lv [1, 2, 3, 4, 0] (lv' := [(0, .ref (b 0)), (1, .int t), (2, .int bits), (3, .int sz), (4, .int (nI (i38 + 1)))]) rfl (v_eqw (ws' := mW cI b (E, Kp, Bf, As, zS (up (up Q 2 (ix t) bits) 3 (ix t) sz) (ix t) (i38 + 1))) (by rw [zS, hSA]) ?_)
                      exact ih38 (i38 + 1) (by omega) (by omega)
                exact L38 (40 + 1) 0 (by omega) (by omega)
              · skip
                refine v_aload_n h pX4_sheet_0 27 rfl 0 rfl rfl (v_ldc h pX4_sheet_0 28 wm_104 rfl ?_)
                refine v_callV h pX4_sheet_0 29 mX4_42 (As := [.int (-1000001)]) (st := []) (kX4_finds _ _ cI cS b E Kp Bf As Q 0 (by decide) (-1000001) (by decide)) v0B v0C (vEmb_rf _ _) 0 rfl rfl rfl rfl rfl rfl rfl (vDet_k ?_)
                show V K (mW cI b (E, Kp, Bf, As, fndS Q 0)) 60 [(0, .ref (b 0)), (1, .int t), (2, .int bits), (3, .int sz)] [.int (-1000001)]
                generalize hS41 : fndS Q 0 = S41
                exact v_iret h pX4_sheet_0 30 hR hret rfl ((E, Kp, Bf, As, S41)) rfl ⟨vI (by simp [bitB, c1, c3, c13, c23, (eq_true c33), c34, c35, -Int32.not_lt]), rfl, rfl, (qR_of (by simp [bitB, shtQ, c1, c3, c13, c23, (eq_true c33), c34, c35, hS41, -Int32.not_lt]))⟩
            · skip
              refine v_aload_n h pX4_sheet_0 20 rfl 0 rfl rfl (v_ldcw h pX4_sheet_0 21 wm_915 rfl ?_)
              refine v_callV h pX4_sheet_0 22 mX4_42 (As := [.int (-1000007)]) (st := []) (kX4_finds _ _ cI cS b E Kp Bf As Q 6 (by decide) (-1000007) (by decide)) v0B v0C (vEmb_rf _ _) 0 rfl rfl rfl rfl rfl rfl rfl (vDet_k ?_)
              show V K (mW cI b (E, Kp, Bf, As, fndS Q 6)) 47 [(0, .ref (b 0)), (1, .int t), (2, .int bits), (3, .int sz)] [.int (-1000007)]
              generalize hS42 : fndS Q 6 = S42
              exact v_iret h pX4_sheet_0 23 hR hret rfl ((E, Kp, Bf, As, S42)) rfl ⟨vI (by simp [bitB, c1, c3, c13, c23, (eq_true c33), c34, -Int32.not_lt]), rfl, rfl, (qR_of (by simp [bitB, shtQ, c1, c3, c13, c23, (eq_true c33), c34, hS42, -Int32.not_lt]))⟩
          · skip
            refine v_aload_n h pX4_sheet_0 14 rfl 0 rfl rfl (v_ldc h pX4_sheet_0 15 wm_104 rfl ?_)
            refine v_callV h pX4_sheet_0 16 mX4_42 (As := [.int (-1000001)]) (st := []) (kX4_finds _ _ cI cS b E Kp Bf As Q 0 (by decide) (-1000001) (by decide)) v0B v0C (vEmb_rf _ _) 0 rfl rfl rfl rfl rfl rfl rfl (vDet_k ?_)
            show V K (mW cI b (E, Kp, Bf, As, fndS Q 0)) 35 [(0, .ref (b 0)), (1, .int t), (2, .int bits), (3, .int sz)] [.int (-1000001)]
            generalize hS43 : fndS Q 0 = S43
            exact v_iret h pX4_sheet_0 17 hR hret rfl ((E, Kp, Bf, As, S43)) rfl ⟨vI (by simp [bitB, c1, c3, c13, c23, c33, -Int32.not_lt]), rfl, rfl, (qR_of (by simp [bitB, shtQ, c1, c3, c13, c23, c33, hS43, -Int32.not_lt]))⟩
set_option maxHeartbeats 300000 in
set_option maxRecDepth 100000 in
theorem kX4_write (l : Launch) (D : va_G) (cI cS : ClassId) (b : Nat → Nat) (E Kp Bf As Q : Nat → Nat → Int32) (n : Nat) (hW : Wf E n) (yb : Nat) (hY : bd (E 9 2) yb) (hyb : yb ≤ 99000) (hQ : WfQ Q) (t i v : Int32) : vMet l D (vT cI cS) yX4_write cX4_write 4 (some .int) 1 25 (mW cI b) v0 [.ref (b 0), .int t, .int i, .int v] (E, Kp, Bf, As, Q) (mPost (some (.int (if inB t 0 3 = true then (if Q 2 (ix t) < 0 then (-1000006) else (if inB i 0 (Q 3 (ix t) - 1) = true then 1 else (-1000001))) else (-1000001)))) (E) (Kp) (if inB t 0 3 = true then (if Q 2 (ix t) < 0 then fndS Q 5 else (if inB i 0 (Q 3 (ix t) - 1) = true then up Q 4 (40 * ix t + ix i) (cutS (Q 2 (ix t)) v) else fndS Q 0)) else fndS Q 0)) := by
  refine vMet_of (by decide) rfl ?_
  intro K hl hD hnL hret h hR hEx
  subst hl hD
  show V K (mW cI b (E, Kp, Bf, As, Q)) 0 [(0, .ref (b 0)), (1, .int t), (2, .int i), (3, .int v)] []
  have hn8 := hW.1
  refine v_iload_n h pX4_write_0 0 rfl 1 rfl rfl ?_
  refine v_callS h pX4_write_0 1 mX4_269 (As := [.int t]) (st := []) (kX4_isSheet _ _ cI cS t) v0B v0C (vEmb_u _) rfl rfl rfl rfl rfl (vDet_k ?_)
  show V K (mW cI b (E, Kp, Bf, As, Q)) 4 [(0, .ref (b 0)), (1, .int t), (2, .int i), (3, .int v)] [.int (bI (inB t 0 3))]
  refine v_bif_ne (tgt := 14) h pX4_write_0 2 rfl rfl (fun c1 => ?_) (fun c1 => ?_)
  · skip
    obtain ⟨e_t, l_t⟩ := inB_t 3 rfl (by decide) c1
    refine v_aload_n h pX4_write_0 7 rfl 0 rfl rfl (v_get h pX4_write_0 8 fX4_28 0 rfl rfl rfl (v_iload_n h pX4_write_0 9 rfl 1 rfl rfl (v_top (w := .int (nI (ix t))) (congrArg Value.int e_t) (v_iald h pX4_write_0 10 (ix t) 7 0 rfl rfl rfl rfl rfl (by omega) ?_))))
    refine v_if_ge2 (tgt := 31) h pX4_write_0 11 rfl rfl (fun c2 => ?_) (fun c2 => ?_)
    · skip
      refine v_iload_n h pX4_write_0 16 rfl 2 rfl rfl (v_i2l h pX4_write_0 17 rfl (v_lconst (v := (nI 0).toInt64) h pX4_write_0 18 rfl kl_0 (v_aload_n h pX4_write_0 19 rfl 0 rfl rfl (v_get h pX4_write_0 20 fX4_31 0 rfl rfl rfl (v_iload_n h pX4_write_0 21 rfl 1 rfl rfl ?_)))))
      refine v_top (w := .int (nI (ix t))) (congrArg Value.int e_t) (v_iald h pX4_write_0 22 (ix t) 8 0 rfl rfl rfl rfl rfl (by omega) (v_iconst h pX4_write_0 23 rfl ki_1 (v_isub h pX4_write_0 24 rfl (v_i2l h pX4_write_0 25 rfl ?_))))
      refine v_callS h pX4_write_0 26 mX4_50 (As := [.long i.toInt64, .long ((nI 0).toInt64), .long (((Q 3 (ix t)) - 1 : Int32).toInt64)]) (st := []) (kX4_isIn _ _ cI cS i 0 ((Q 3 (ix t)) - 1)) v0B v0C (vEmb_u _) rfl rfl rfl rfl rfl (vDet_k ?_)
      show V K (mW cI b (E, Kp, Bf, As, Q)) 46 [(0, .ref (b 0)), (1, .int t), (2, .int i), (3, .int v)] [.int (bI (inB i 0 ((Q 3 (ix t)) - 1)))]
      refine v_bif_ne (tgt := 56) h pX4_write_0 27 rfl rfl (fun c3 => ?_) (fun c3 => ?_)
      · skip
        have hsz := hQ.sizeL (t := ix t) (by omega)
        obtain ⟨e_i, l_i⟩ := inQ_t hQ (by omega) c3
        refine v_aload_n h pX4_write_1 0 rfl 0 rfl rfl (v_get h pX4_write_1 1 fX4_34 0 rfl rfl rfl (v_bipush h pX4_write_1 2 rfl kb_40 (v_iload_n h pX4_write_1 3 rfl 1 rfl rfl (v_top (w := .int (nI (ix t))) (congrArg Value.int e_t) (v_imuln h pX4_write_1 4 40 (ix t) rfl ?_)))))
        refine v_iload_n h pX4_write_1 5 rfl 2 rfl rfl (v_top (w := .int (nI (ix i))) (congrArg Value.int e_i) (v_iaddn h pX4_write_1 6 (40 * (ix t)) (ix i) rfl (v_aload_n h pX4_write_1 7 rfl 0 rfl rfl (v_get h pX4_write_1 8 fX4_28 0 rfl rfl rfl (v_iload_n h pX4_write_1 9 rfl 1 rfl rfl ?_)))))
        refine v_top (w := .int (nI (ix t))) (congrArg Value.int e_t) (v_iald h pX4_write_1 10 (ix t) 7 0 rfl rfl rfl rfl rfl (by omega) (v_bipush h pX4_write_1 11 rfl kb_8 ?_))
        refine v_icmp_ne (tgt := 82) h pX4_write_1 12 rfl rfl (fun c4 => ?_) (fun c4 => ?_)
        · skip
          refine v_aload_n h pX4_write_1 16 rfl 0 rfl rfl (v_get h pX4_write_1 17 fX4_28 0 rfl rfl rfl (v_iload_n h pX4_write_1 18 rfl 1 rfl rfl (v_top (w := .int (nI (ix t))) (congrArg Value.int e_t) (v_iald h pX4_write_1 19 (ix t) 7 0 rfl rfl rfl rfl rfl (by omega) (v_bipush h pX4_write_1 20 rfl kb_16 ?_)))))
          refine v_icmp_ne (tgt := 98) h pX4_write_1 21 rfl rfl (fun c5 => ?_) (fun c5 => ?_)
          · skip
            refine v_iload_n h pX4_write_1 25 rfl 3 rfl rfl (v_iast h pX4_write_1 26 (40 * (ix t) + ix i) 9 0 (ws' := mW cI b (E, Kp, Bf, As, up Q 4 (40 * (ix t) + ix i) v)) rfl rfl rfl rfl rfl (by omega) mW_q4 (v_iconst h pX4_write_1 27 rfl ki_1 ?_))
            exact v_iret h pX4_write_1 28 hR hret rfl ((E, Kp, Bf, As, up Q 4 (40 * (ix t) + ix i) v)) rfl ⟨vI (by simp [c1, c2, c3, c4, c5, -Int32.not_lt]), rfl, rfl, (qR_of (by simp [cutS, c1, c2, c3, c4, c5, True, -Int32.not_lt]))⟩
          · skip
            refine v_iload_n h pX4_write_1 22 rfl 3 rfl rfl (v_i2s h pX4_write_1 23 rfl (v_goto (tgt := 99) h pX4_write_1 24 rfl rfl (v_iast h pX4_write_1 26 (40 * (ix t) + ix i) 9 0 (ws' := mW cI b (E, Kp, Bf, As, up Q 4 (40 * (ix t) + ix i) v.toInt16.toInt32)) rfl rfl rfl rfl rfl (by omega) mW_q4 (v_iconst h pX4_write_1 27 rfl ki_1 ?_))))
            exact v_iret h pX4_write_1 28 hR hret rfl ((E, Kp, Bf, As, up Q 4 (40 * (ix t) + ix i) v.toInt16.toInt32)) rfl ⟨vI (by simp [c1, c2, c3, c4, (eq_true c5), -Int32.not_lt]), rfl, rfl, (qR_of (by simp [cutS, c1, c2, c3, c4, (eq_true c5), True, -Int32.not_lt]))⟩
        · skip
          refine v_iload_n h pX4_write_1 13 rfl 3 rfl rfl (v_i2b h pX4_write_1 14 rfl (v_goto (tgt := 99) h pX4_write_1 15 rfl rfl (v_iast h pX4_write_1 26 (40 * (ix t) + ix i) 9 0 (ws' := mW cI b (E, Kp, Bf, As, up Q 4 (40 * (ix t) + ix i) v.toInt8.toInt32)) rfl rfl rfl rfl rfl (by omega) mW_q4 (v_iconst h pX4_write_1 27 rfl ki_1 ?_))))
          exact v_iret h pX4_write_1 28 hR hret rfl ((E, Kp, Bf, As, up Q 4 (40 * (ix t) + ix i) v.toInt8.toInt32)) rfl ⟨vI (by simp [c1, c2, c3, (eq_true c4), -Int32.not_lt]), rfl, rfl, (qR_of (by simp [cutS, c1, c2, c3, (eq_true c4), True, -Int32.not_lt]))⟩
      · skip
        refine v_aload_n h pX4_write_0 28 rfl 0 rfl rfl (v_ldc h pX4_write_0 29 wm_104 rfl ?_)
        refine v_callV h pX4_write_0 30 mX4_42 (As := [.int (-1000001)]) (st := []) (kX4_finds _ _ cI cS b E Kp Bf As Q 0 (by decide) (-1000001) (by decide)) v0B v0C (vEmb_rf _ _) 0 rfl rfl rfl rfl rfl rfl rfl (vDet_k ?_)
        show V K (mW cI b (E, Kp, Bf, As, fndS Q 0)) 55 [(0, .ref (b 0)), (1, .int t), (2, .int i), (3, .int v)] [.int (-1000001)]
        generalize hS6 : fndS Q 0 = S6
        exact v_iret h pX4_write_0 31 hR hret rfl ((E, Kp, Bf, As, S6)) rfl ⟨vI (by simp [c1, c2, c3, -Int32.not_lt]), rfl, rfl, (qR_of (by simp [cutS, c1, c2, c3, hS6, -Int32.not_lt]))⟩
    · skip
      refine v_aload_n h pX4_write_0 12 rfl 0 rfl rfl (v_ldcw h pX4_write_0 13 wm_589 rfl ?_)
      refine v_callV h pX4_write_0 14 mX4_42 (As := [.int (-1000006)]) (st := []) (kX4_finds _ _ cI cS b E Kp Bf As Q 5 (by decide) (-1000006) (by decide)) v0B v0C (vEmb_rf _ _) 0 rfl rfl rfl rfl rfl rfl rfl (vDet_k ?_)
      show V K (mW cI b (E, Kp, Bf, As, fndS Q 5)) 30 [(0, .ref (b 0)), (1, .int t), (2, .int i), (3, .int v)] [.int (-1000006)]
      generalize hS7 : fndS Q 5 = S7
      exact v_iret h pX4_write_0 15 hR hret rfl ((E, Kp, Bf, As, S7)) rfl ⟨vI (by simp [c1, c2, -Int32.not_lt]), rfl, rfl, (qR_of (by simp [cutS, c1, c2, hS7, -Int32.not_lt]))⟩
  · skip
    refine v_aload_n h pX4_write_0 3 rfl 0 rfl rfl (v_ldc h pX4_write_0 4 wm_104 rfl ?_)
    refine v_callV h pX4_write_0 5 mX4_42 (As := [.int (-1000001)]) (st := []) (kX4_finds _ _ cI cS b E Kp Bf As Q 0 (by decide) (-1000001) (by decide)) v0B v0C (vEmb_rf _ _) 0 rfl rfl rfl rfl rfl rfl rfl (vDet_k ?_)
    show V K (mW cI b (E, Kp, Bf, As, fndS Q 0)) 13 [(0, .ref (b 0)), (1, .int t), (2, .int i), (3, .int v)] [.int (-1000001)]
    generalize hS8 : fndS Q 0 = S8
    exact v_iret h pX4_write_0 6 hR hret rfl ((E, Kp, Bf, As, S8)) rfl ⟨vI (by simp [c1, -Int32.not_lt]), rfl, rfl, (qR_of (by simp [cutS, c1, hS8, -Int32.not_lt]))⟩
set_option maxHeartbeats 300000 in
set_option maxRecDepth 100000 in
theorem kX4_copy (l : Launch) (D : va_G) (cI cS : ClassId) (b : Nat → Nat) (E Kp Bf As Q : Nat → Nat → Int32) (n : Nat) (hW : Wf E n) (yb : Nat) (hY : bd (E 9 2) yb) (hyb : yb ≤ 99000) (hQ : WfQ Q) (t p u q c : Int32) : vMet l D (vT cI cS) yX4_copy cX4_copy 10 (some .int) 1 21 (mW cI b) v0 [.ref (b 0), .int t, .int p, .int u, .int q, .int c] (E, Kp, Bf, As, Q) (mPost (some (.int (cond (inB t 0 3 && inB u 0 3) (if Q 2 (ix t) < 0 then (-1000006) else if Q 2 (ix u) < 0 then (-1000006) else if Q 2 (ix t) = Q 2 (ix u) then (if copB Q (ix t) p (ix u) q c = true then c else (-1000001)) else (-1000003)) ((-1000001))))) (E) (Kp) (cond (inB t 0 3 && inB u 0 3) (if Q 2 (ix t) < 0 then fndS Q 5 else if Q 2 (ix u) < 0 then fndS Q 5 else if Q 2 (ix t) = Q 2 (ix u) then (if copB Q (ix t) p (ix u) q c = true then mvQ Q (40 * (ix t) + ix p) (40 * (ix u) + ix q) 0 (ix c) else fndS Q 0) else fndS Q 2) (fndS Q 0))) := by
  refine vMet_of (by decide) rfl ?_
  intro K hl hD hnL hret h hR hEx
  subst hl hD
  show V K (mW cI b (E, Kp, Bf, As, Q)) 0 [(0, .ref (b 0)), (1, .int t), (2, .int p), (3, .int u), (4, .int q), (5, .int c)] []
  have hn8 := hW.1
  refine v_iload_n h pX4_copy_0 0 rfl 1 rfl rfl ?_
  refine v_callS h pX4_copy_0 1 mX4_269 (As := [.int t]) (st := []) (kX4_isSheet _ _ cI cS t) v0B v0C (vEmb_u _) rfl rfl rfl rfl rfl (vDet_k ?_)
  show V K (mW cI b (E, Kp, Bf, As, Q)) 4 [(0, .ref (b 0)), (1, .int t), (2, .int p), (3, .int u), (4, .int q), (5, .int c)] [.int (bI (inB t 0 3))]
  refine v_bif_eq (tgt := 14) h pX4_copy_0 2 rfl rfl (fun c1 => ?_) (fun c1 => ?_)
  · skip
    refine v_aload_n h pX4_copy_0 6 rfl 0 rfl rfl (v_ldc h pX4_copy_0 7 wm_104 rfl ?_)
    refine v_callV h pX4_copy_0 8 mX4_42 (As := [.int (-1000001)]) (st := []) (kX4_finds _ _ cI cS b E Kp Bf As Q 0 (by decide) (-1000001) (by decide)) v0B v0C (vEmb_rf _ _) 0 rfl rfl rfl rfl rfl rfl rfl (vDet_k ?_)
    show V K (mW cI b (E, Kp, Bf, As, fndS Q 0)) 20 [(0, .ref (b 0)), (1, .int t), (2, .int p), (3, .int u), (4, .int q), (5, .int c)] [.int (-1000001)]
    generalize hS2 : fndS Q 0 = S2
    exact v_iret h pX4_copy_0 9 hR hret rfl ((E, Kp, Bf, As, S2)) rfl ⟨vI (by simp [copB, c1, -Int32.not_lt]), rfl, rfl, (qR_of (by first | (simp [copB, c1, hS2, -Int32.not_lt]; done) | (simp [copB, c1, -Int32.not_lt]; rw [← hS2, Nat.sub_self])))⟩
  · skip
    obtain ⟨e_t, l_t⟩ := inB_t 3 rfl (by decide) c1
    refine v_iload_n h pX4_copy_0 3 rfl 3 rfl rfl ?_
    refine v_callS h pX4_copy_0 4 mX4_269 (As := [.int u]) (st := []) (kX4_isSheet _ _ cI cS u) v0B v0C (vEmb_u _) rfl rfl rfl rfl rfl (vDet_k ?_)
    show V K (mW cI b (E, Kp, Bf, As, Q)) 11 [(0, .ref (b 0)), (1, .int t), (2, .int p), (3, .int u), (4, .int q), (5, .int c)] [.int (bI (inB u 0 3))]
    refine v_bif_ne (tgt := 21) h pX4_copy_0 5 rfl rfl (fun c3 => ?_) (fun c3 => ?_)
    · skip
      obtain ⟨e_u, l_u⟩ := inB_t 3 rfl (by decide) c3
      refine v_aload_n h pX4_copy_0 10 rfl 0 rfl rfl (v_get h pX4_copy_0 11 fX4_28 0 rfl rfl rfl (v_iload_n h pX4_copy_0 12 rfl 1 rfl rfl (v_top (w := .int (nI (ix t))) (congrArg Value.int e_t) (v_iald h pX4_copy_0 13 (ix t) 7 0 rfl rfl rfl rfl rfl (by omega) ?_))))
      refine v_if_lt (tgt := 39) h pX4_copy_0 14 rfl rfl (fun c4 => ?_) (fun c4 => ?_)
      · skip
        refine v_aload_n h pX4_copy_0 20 rfl 0 rfl rfl (v_ldcw h pX4_copy_0 21 wm_589 rfl ?_)
        refine v_callV h pX4_copy_0 22 mX4_42 (As := [.int (-1000006)]) (st := []) (kX4_finds _ _ cI cS b E Kp Bf As Q 5 (by decide) (-1000006) (by decide)) v0B v0C (vEmb_rf _ _) 0 rfl rfl rfl rfl rfl rfl rfl (vDet_k ?_)
        show V K (mW cI b (E, Kp, Bf, As, fndS Q 5)) 46 [(0, .ref (b 0)), (1, .int t), (2, .int p), (3, .int u), (4, .int q), (5, .int c)] [.int (-1000006)]
        generalize hS5 : fndS Q 5 = S5
        exact v_iret h pX4_copy_0 23 hR hret rfl ((E, Kp, Bf, As, S5)) rfl ⟨vI (by simp [copB, c1, c3, c4, -Int32.not_lt]), rfl, rfl, (qR_of (by first | (simp [copB, c1, c3, c4, hS5, -Int32.not_lt]; done) | (simp [copB, c1, c3, c4, -Int32.not_lt]; rw [← hS5, Nat.sub_self])))⟩
      · skip
        refine v_aload_n h pX4_copy_0 15 rfl 0 rfl rfl (v_get h pX4_copy_0 16 fX4_28 0 rfl rfl rfl (v_iload_n h pX4_copy_0 17 rfl 3 rfl rfl (v_top (w := .int (nI (ix u))) (congrArg Value.int e_u) (v_iald h pX4_copy_0 18 (ix u) 7 0 rfl rfl rfl rfl rfl (by omega) ?_))))
        refine v_if_ge2 (tgt := 47) h pX4_copy_0 19 rfl rfl (fun c6 => ?_) (fun c6 => ?_)
        · skip
          refine v_aload_n h pX4_copy_0 24 rfl 0 rfl rfl (v_get h pX4_copy_0 25 fX4_28 0 rfl rfl rfl (v_iload_n h pX4_copy_0 26 rfl 1 rfl rfl (v_top (w := .int (nI (ix t))) (congrArg Value.int e_t) (v_iald h pX4_copy_0 27 (ix t) 7 0 rfl rfl rfl rfl rfl (by omega) (v_aload_n h pX4_copy_0 28 rfl 0 rfl rfl ?_)))))
          refine v_get h pX4_copy_0 29 fX4_28 0 rfl rfl rfl (v_iload_n h pX4_copy_0 30 rfl 3 rfl rfl (v_top (w := .int (nI (ix u))) (congrArg Value.int e_u) (v_iald h pX4_copy_0 31 (ix u) 7 0 rfl rfl rfl rfl rfl (by omega) ?_)))
          refine v_icmp_eq (tgt := 70) h pX4_copy_1 0 rfl rfl (fun c7 => ?_) (fun c7 => ?_)
          · skip
            refine v_iload_n h pX4_copy_1 5 rfl 2 rfl rfl ?_
            refine v_if_lt (tgt := 111) h pX4_copy_1 6 rfl rfl (fun c8 => ?_) (fun c8 => ?_)
            · skip
              refine v_aload_n h pX4_copy_1 27 rfl 0 rfl rfl (v_ldc h pX4_copy_1 28 wm_104 rfl ?_)
              refine v_callV h pX4_copy_1 29 mX4_42 (As := [.int (-1000001)]) (st := []) (kX4_finds _ _ cI cS b E Kp Bf As Q 0 (by decide) (-1000001) (by decide)) v0B v0C (vEmb_rf _ _) 0 rfl rfl rfl rfl rfl rfl rfl (vDet_k ?_)
              show V K (mW cI b (E, Kp, Bf, As, fndS Q 0)) 117 [(0, .ref (b 0)), (1, .int t), (2, .int p), (3, .int u), (4, .int q), (5, .int c)] [.int (-1000001)]
              generalize hS9 : fndS Q 0 = S9
              exact v_iret h pX4_copy_1 30 hR hret rfl ((E, Kp, Bf, As, S9)) rfl ⟨vI (by simp [copB, c1, c3, c4, c6, (eq_true c7), c8, -Int32.not_lt]), rfl, rfl, (qR_of (by first | (simp [copB, c1, c3, c4, c6, (eq_true c7), c8, hS9, -Int32.not_lt]; done) | (simp [copB, c1, c3, c4, c6, (eq_true c7), c8, -Int32.not_lt]; rw [← hS9, Nat.sub_self])))⟩
            · skip
              refine v_iload h pX4_copy_1 7 rfl 4 rfl ?_
              refine v_if_lt (tgt := 111) h pX4_copy_1 8 rfl rfl (fun c10 => ?_) (fun c10 => ?_)
              · skip
                refine v_aload_n h pX4_copy_1 27 rfl 0 rfl rfl (v_ldc h pX4_copy_1 28 wm_104 rfl ?_)
                refine v_callV h pX4_copy_1 29 mX4_42 (As := [.int (-1000001)]) (st := []) (kX4_finds _ _ cI cS b E Kp Bf As Q 0 (by decide) (-1000001) (by decide)) v0B v0C (vEmb_rf _ _) 0 rfl rfl rfl rfl rfl rfl rfl (vDet_k ?_)
                show V K (mW cI b (E, Kp, Bf, As, fndS Q 0)) 117 [(0, .ref (b 0)), (1, .int t), (2, .int p), (3, .int u), (4, .int q), (5, .int c)] [.int (-1000001)]
                generalize hS11 : fndS Q 0 = S11
                exact v_iret h pX4_copy_1 30 hR hret rfl ((E, Kp, Bf, As, S11)) rfl ⟨vI (by simp [copB, c1, c3, c4, c6, (eq_true c7), c8, c10, -Int32.not_lt]), rfl, rfl, (qR_of (by first | (simp [copB, c1, c3, c4, c6, (eq_true c7), c8, c10, hS11, -Int32.not_lt]; done) | (simp [copB, c1, c3, c4, c6, (eq_true c7), c8, c10, -Int32.not_lt]; rw [← hS11, Nat.sub_self])))⟩
              · skip
                refine v_iload h pX4_copy_1 9 rfl 5 rfl ?_
                refine v_if_lt (tgt := 111) h pX4_copy_1 10 rfl rfl (fun c12 => ?_) (fun c12 => ?_)
                · skip
                  refine v_aload_n h pX4_copy_1 27 rfl 0 rfl rfl (v_ldc h pX4_copy_1 28 wm_104 rfl ?_)
                  refine v_callV h pX4_copy_1 29 mX4_42 (As := [.int (-1000001)]) (st := []) (kX4_finds _ _ cI cS b E Kp Bf As Q 0 (by decide) (-1000001) (by decide)) v0B v0C (vEmb_rf _ _) 0 rfl rfl rfl rfl rfl rfl rfl (vDet_k ?_)
                  show V K (mW cI b (E, Kp, Bf, As, fndS Q 0)) 117 [(0, .ref (b 0)), (1, .int t), (2, .int p), (3, .int u), (4, .int q), (5, .int c)] [.int (-1000001)]
                  generalize hS13 : fndS Q 0 = S13
                  exact v_iret h pX4_copy_1 30 hR hret rfl ((E, Kp, Bf, As, S13)) rfl ⟨vI (by simp [copB, c1, c3, c4, c6, (eq_true c7), c8, c10, c12, -Int32.not_lt]), rfl, rfl, (qR_of (by first | (simp [copB, c1, c3, c4, c6, (eq_true c7), c8, c10, c12, hS13, -Int32.not_lt]; done) | (simp [copB, c1, c3, c4, c6, (eq_true c7), c8, c10, c12, -Int32.not_lt]; rw [← hS13, Nat.sub_self])))⟩
                · skip
                  refine v_iload h pX4_copy_1 11 rfl 5 rfl (v_aload_n h pX4_copy_1 12 rfl 0 rfl rfl (v_get h pX4_copy_1 13 fX4_31 0 rfl rfl rfl (v_iload_n h pX4_copy_1 14 rfl 1 rfl rfl (v_top (w := .int (nI (ix t))) (congrArg Value.int e_t) (v_iald h pX4_copy_1 15 (ix t) 8 0 rfl rfl rfl rfl rfl (by omega) ?_)))))
                  refine v_iload_n h pX4_copy_1 16 rfl 2 rfl rfl (v_isub h pX4_copy_1 17 rfl ?_)
                  refine v_icmp_gt (tgt := 111) h pX4_copy_1 18 rfl rfl (fun c14 => ?_) (fun c14 => ?_)
                  · skip
                    refine v_aload_n h pX4_copy_1 27 rfl 0 rfl rfl (v_ldc h pX4_copy_1 28 wm_104 rfl ?_)
                    refine v_callV h pX4_copy_1 29 mX4_42 (As := [.int (-1000001)]) (st := []) (kX4_finds _ _ cI cS b E Kp Bf As Q 0 (by decide) (-1000001) (by decide)) v0B v0C (vEmb_rf _ _) 0 rfl rfl rfl rfl rfl rfl rfl (vDet_k ?_)
                    show V K (mW cI b (E, Kp, Bf, As, fndS Q 0)) 117 [(0, .ref (b 0)), (1, .int t), (2, .int p), (3, .int u), (4, .int q), (5, .int c)] [.int (-1000001)]
                    generalize hS15 : fndS Q 0 = S15
                    exact v_iret h pX4_copy_1 30 hR hret rfl ((E, Kp, Bf, As, S15)) rfl ⟨vI (by simp [copB, c1, c3, c4, c6, (eq_true c7), c8, c10, c12, c14, -Int32.not_lt]), rfl, rfl, (qR_of (by first | (simp [copB, c1, c3, c4, c6, (eq_true c7), c8, c10, c12, c14, hS15, -Int32.not_lt]; done) | (simp [copB, c1, c3, c4, c6, (eq_true c7), c8, c10, c12, c14, -Int32.not_lt]; rw [← hS15, Nat.sub_self])))⟩
                  · skip
                    refine v_iload h pX4_copy_1 19 rfl 5 rfl (v_aload_n h pX4_copy_1 20 rfl 0 rfl rfl (v_get h pX4_copy_1 21 fX4_31 0 rfl rfl rfl (v_iload_n h pX4_copy_1 22 rfl 3 rfl rfl (v_top (w := .int (nI (ix u))) (congrArg Value.int e_u) (v_iald h pX4_copy_1 23 (ix u) 8 0 rfl rfl rfl rfl rfl (by omega) ?_)))))
                    refine v_iload h pX4_copy_1 24 rfl 4 rfl (v_isub h pX4_copy_1 25 rfl ?_)
                    refine v_icmp_le2 (tgt := 118) h pX4_copy_1 26 rfl rfl (fun c16 => ?_) (fun c16 => ?_)
                    · skip
                      obtain ⟨e_p, e_c, l_p⟩ := cop_t (hQ.1 _ (by omega)).2 (by omega) c8 c12 c14
                      obtain ⟨e_q, -, l_q⟩ := cop_t (hQ.1 _ (by omega)).2 (by omega) c10 c12 c16
                      have hst := hQ.sizeL (t := ix t) (by omega)
                      have hsu := hQ.sizeL (t := ix u) (by omega)
                      refine v_bipush h pX4_copy_1 31 rfl kb_40 (v_iload_n h pX4_copy_2 0 rfl 1 rfl rfl (v_top (w := .int (nI (ix t))) (congrArg Value.int e_t) (v_imuln h pX4_copy_2 1 40 (ix t) rfl (v_iload_n h pX4_copy_2 2 rfl 2 rfl rfl (v_top (w := .int (nI (ix p))) (congrArg Value.int e_p) ?_)))))
                      refine v_iaddn h pX4_copy_2 3 (40 * (ix t)) (ix p) rfl (v_istore h pX4_copy_2 4 (lv' := [(6, .int (nI (40 * (ix t) + ix p))), (0, .ref (b 0)), (1, .int t), (2, .int p), (3, .int u), (4, .int q), (5, .int c)]) rfl hnL rfl rfl (v_bipush h pX4_copy_2 5 rfl kb_40 (v_iload_n h pX4_copy_2 6 rfl 4 rfl rfl (v_top (w := .int (nI (ix u))) (congrArg Value.int e_u) (v_imuln h pX4_copy_2 7 40 (ix u) rfl ?_)))))
                      refine v_iload h pX4_copy_2 8 rfl 5 rfl (v_top (w := .int (nI (ix q))) (congrArg Value.int e_q) (v_iaddn h pX4_copy_2 9 (40 * (ix u)) (ix q) rfl (v_istore h pX4_copy_2 10 (lv' := [(7, .int (nI (40 * (ix u) + ix q))), (6, .int (nI (40 * (ix t) + ix p))), (0, .ref (b 0)), (1, .int t), (2, .int p), (3, .int u), (4, .int q), (5, .int c)]) rfl hnL rfl rfl ?_)))
                      rcases Nat.lt_or_ge (40 * (ix t) + ix p) (40 * (ix u) + ix q) with hab | hab
                      · skip
                        refine v_iconst h pX4_copy_2 11 rfl ki_0 ?_
                        refine v_eqw (ws' := mW cI b (E, Kp, Bf, As, mvQ Q (40 * (ix t) + ix p) (40 * (ix u) + ix q) (ix c - 0) (ix c))) (by rw [Nat.sub_zero, mvQ_0]) ?_
                        refine v_istore h pX4_copy_2 12 (lv' := [(8, .int 0), (7, .int (nI (40 * (ix u) + ix q))), (6, .int (nI (40 * (ix t) + ix p))), (0, .ref (b 0)), (1, .int t), (2, .int p), (3, .int u), (4, .int q), (5, .int c)]) rfl hnL rfl rfl ?_
                        refine v_lv [3, 4, 5, 6, 7, 8, 2, 1, 0] (lv' := [(0, .ref (b 0)), (1, .int t), (2, .int p), (3, .int u), (4, .int q), (5, .int c), (6, .int (nI (40 * (ix t) + ix p))), (7, .int (nI (40 * (ix u) + ix q))), (8, .int 0)]) rfl ?_
                        have LA : ∀ (m iA : Nat), iA ≤ ix c → (True) → ix c + 1 ≤ iA + m → V K (mW cI b (E, Kp, Bf, As, mvQ Q (40 * (ix t) + ix p) (40 * (ix u) + ix q) (ix c - iA) (ix c))) 138 [(0, .ref (b 0)), (1, .int t), (2, .int p), (3, .int u), (4, .int q), (5, .int c), (6, .int (nI (40 * (ix t) + ix p))), (7, .int (nI (40 * (ix u) + ix q))), (8, .int (nI iA))] [] := by
                          intro m
                          induction m with
                          | zero => exact fun iA h1 hh h2 => absurd h2 (by omega)
                          | succ m ihA =>
                            intro iA hleA hhA hltA
                            generalize hSA : mvQ Q (40 * (ix t) + ix p) (40 * (ix u) + ix q) (ix c - iA) (ix c) = SA
                            refine v_iload h pX4_copy_2 13 rfl 8 rfl (v_iload h pX4_copy_2 14 rfl 5 rfl (v_top (w := .int (nI (ix c))) (congrArg Value.int e_c) ?_))
                            refine v_ncmp_ge (a := iA) (b := ix c) (tgt := 192) h pX4_copy_2 15 rfl rfl (by omega) (by omega) (fun c19 => ?_) (fun c19 => ?_)
                            · skip
                              obtain rfl : ix c = iA := by omega
                              refine v_iload h pX4_copy_3 9 rfl 5 rfl ?_
                              exact v_iret h pX4_copy_3 10 hR hret rfl ((E, Kp, Bf, As, SA)) rfl ⟨vI (by simp [copB, c1, c3, c4, c6, (eq_true c7), c8, c10, c12, c14, c16, hab, c19, -Int32.not_lt]), rfl, rfl, (qR_of (by first | (simp [copB, c1, c3, c4, c6, (eq_true c7), c8, c10, c12, c14, c16, hab, c19, hSA, -Int32.not_lt]; done) | (simp [copB, c1, c3, c4, c6, (eq_true c7), c8, c10, c12, c14, c16, hab, c19, -Int32.not_lt]; rw [← hSA, Nat.sub_self])))⟩
                            · skip
                              refine v_iload h pX4_copy_2 16 rfl 6 rfl (v_iload h pX4_copy_2 17 rfl 7 rfl ?_)
                              refine v_ncmp_ge (a := 40 * (ix t) + ix p) (b := 40 * (ix u) + ix q) (tgt := 162) h pX4_copy_2 18 rfl rfl (by omega) (by omega) (fun c20 => (by first | exact absurd c20 hab | exact absurd hab c20 | (exfalso; omega))) (fun c20 => ?_)
                              refine v_iload h pX4_copy_2 19 rfl 5 rfl (v_top (w := .int (nI (ix c))) (congrArg Value.int e_c) (v_iconst h pX4_copy_2 20 rfl ki_1 (v_isub h pX4_copy_2 21 rfl (v_iload h pX4_copy_2 22 rfl 8 rfl (v_isub h pX4_copy_2 23 rfl ?_)))))
                              refine v_goto (tgt := 164) h pX4_copy_2 24 rfl rfl ?_
                              refine v_top (w := .int (nI (ix c - 1 - iA))) (congrArg Value.int (nI_sub1 (by omega) (by omega))) (v_istore h pX4_copy_2 26 (lv' := [(9, .int (nI (ix c - 1 - iA))), (0, .ref (b 0)), (1, .int t), (2, .int p), (3, .int u), (4, .int q), (5, .int c), (6, .int (nI (40 * (ix t) + ix p))), (7, .int (nI (40 * (ix u) + ix q))), (8, .int (nI iA))]) rfl hnL rfl rfl (v_aload_n h pX4_copy_2 27 rfl 1 rfl rfl (v_get h pX4_copy_2 28 fX4_34 0 rfl rfl rfl (v_iload h pX4_copy_2 29 rfl 8 rfl (v_iload h pX4_copy_2 30 rfl 0 rfl ?_)))))
                              refine v_iaddn h pX4_copy_2 31 (40 * (ix u) + ix q) (ix c - 1 - iA) rfl (v_aload_n h pX4_copy_3 0 rfl 1 rfl rfl (v_get h pX4_copy_3 1 fX4_34 0 rfl rfl rfl (v_iload h pX4_copy_3 2 rfl 7 rfl (v_iload h pX4_copy_3 3 rfl 0 rfl (v_iaddn h pX4_copy_3 4 (40 * (ix t) + ix p) (ix c - 1 - iA) rfl ?_)))))
                              refine v_iald h pX4_copy_3 5 (40 * (ix t) + ix p + (ix c - 1 - iA)) 9 0 rfl rfl rfl rfl rfl (by omega) (v_iast h pX4_copy_3 6 (40 * (ix u) + ix q + (ix c - 1 - iA)) 9 0 (ws' := mW cI b (E, Kp, Bf, As, up SA 4 (40 * (ix u) + ix q + (ix c - 1 - iA)) (SA 4 (40 * (ix t) + ix p + (ix c - 1 - iA))))) rfl rfl rfl rfl rfl (by omega) mW_q4 (v_iinc h pX4_copy_3 7 (v := nI (iA + 1)) (lv' := [(8, .int (nI (iA + 1))), (9, .int (nI (ix c - 1 - iA))), (0, .ref (b 0)), (1, .int t), (2, .int p), (3, .int u), (4, .int q), (5, .int c), (6, .int (nI (40 * (ix t) + ix p))), (7, .int (nI (40 * (ix u) + ix q)))]) rfl 9 rfl hnL rfl rfl (nI_1 iA) (v_goto (tgt := 138) h pX4_copy_3 8 rfl rfl (v_lv [2, 3, 4, 5, 6, 7, 8, 9, 0] (lv' := [(0, .ref (b 0)), (1, .int t), (2, .int p), (3, .int u), (4, .int q), (5, .int c), (6, .int (nI (40 * (ix t) + ix p))), (7, .int (nI (40 * (ix u) + ix q))), (8, .int (nI (iA + 1)))]) rfl (v_eqw (ws' := mW cI b (E, Kp, Bf, As, mvQ Q (40 * (ix t) + ix p) (40 * (ix u) + ix q) (ix c - (iA + 1)) (ix c))) (by rw [← hSA]; refine congrArg (fun z => mW cI b (E, Kp, Bf, As, z)) (mvQ_up _ _ _ _ _ _ _ _ _ ?_); have e := mvR_b (Q 4) hab (ix c - 1 - iA) (ix c) (by omega); rw [show ix c - 1 - iA + 1 = ix c - iA by omega] at e; rw [show ix c - (iA + 1) = ix c - 1 - iA by omega]; exact e) ?_)))))
                              exact ihA (iA + 1) (by omega) (trivial) (by omega)
                        exact LA (ix c + 1) 0 (by omega) trivial (by omega)
                      · skip
                        refine v_iconst h pX4_copy_2 11 rfl ki_0 ?_
                        refine v_eqw (ws' := mW cI b (E, Kp, Bf, As, mvQ Q (40 * (ix t) + ix p) (40 * (ix u) + ix q) 0 0)) (by rw [mvQ_0]) ?_
                        refine v_istore h pX4_copy_2 12 (lv' := [(8, .int 0), (7, .int (nI (40 * (ix u) + ix q))), (6, .int (nI (40 * (ix t) + ix p))), (0, .ref (b 0)), (1, .int t), (2, .int p), (3, .int u), (4, .int q), (5, .int c)]) rfl hnL rfl rfl ?_
                        refine v_lv [3, 4, 5, 6, 7, 8, 2, 1, 0] (lv' := [(0, .ref (b 0)), (1, .int t), (2, .int p), (3, .int u), (4, .int q), (5, .int c), (6, .int (nI (40 * (ix t) + ix p))), (7, .int (nI (40 * (ix u) + ix q))), (8, .int 0)]) rfl ?_
                        have LA : ∀ (m iA : Nat), iA ≤ ix c → (True) → ix c + 1 ≤ iA + m → V K (mW cI b (E, Kp, Bf, As, mvQ Q (40 * (ix t) + ix p) (40 * (ix u) + ix q) 0 iA)) 138 [(0, .ref (b 0)), (1, .int t), (2, .int p), (3, .int u), (4, .int q), (5, .int c), (6, .int (nI (40 * (ix t) + ix p))), (7, .int (nI (40 * (ix u) + ix q))), (8, .int (nI iA))] [] := by
                          intro m
                          induction m with
                          | zero => exact fun iA h1 hh h2 => absurd h2 (by omega)
                          | succ m ihA =>
                            intro iA hleA hhA hltA
                            generalize hSA : mvQ Q (40 * (ix t) + ix p) (40 * (ix u) + ix q) 0 iA = SA
                            refine v_iload h pX4_copy_2 13 rfl 8 rfl (v_iload h pX4_copy_2 14 rfl 5 rfl (v_top (w := .int (nI (ix c))) (congrArg Value.int e_c) ?_))
                            refine v_ncmp_ge (a := iA) (b := ix c) (tgt := 192) h pX4_copy_2 15 rfl rfl (by omega) (by omega) (fun c23 => ?_) (fun c23 => ?_)
                            · skip
                              obtain rfl : ix c = iA := by omega
                              refine v_iload h pX4_copy_3 9 rfl 5 rfl ?_
                              exact v_iret h pX4_copy_3 10 hR hret rfl ((E, Kp, Bf, As, SA)) rfl ⟨vI (by simp [copB, c1, c3, c4, c6, (eq_true c7), c8, c10, c12, c14, c16, hab, c23, -Int32.not_lt]), rfl, rfl, (qR_of (by first | (simp [copB, c1, c3, c4, c6, (eq_true c7), c8, c10, c12, c14, c16, hab, c23, hSA, -Int32.not_lt]; done) | (simp [copB, c1, c3, c4, c6, (eq_true c7), c8, c10, c12, c14, c16, hab, c23, -Int32.not_lt]; rw [← hSA, Nat.sub_self])))⟩
                            · skip
                              refine v_iload h pX4_copy_2 16 rfl 6 rfl (v_iload h pX4_copy_2 17 rfl 7 rfl ?_)
                              refine v_ncmp_ge (a := 40 * (ix t) + ix p) (b := 40 * (ix u) + ix q) (tgt := 162) h pX4_copy_2 18 rfl rfl (by omega) (by omega) (fun c24 => ?_) (fun c24 => (by first | exact absurd c24 hab | exact absurd hab c24 | (exfalso; omega)))
                              refine v_iload h pX4_copy_2 25 rfl 8 rfl ?_
                              refine v_istore h pX4_copy_2 26 (lv' := [(9, .int (nI iA)), (0, .ref (b 0)), (1, .int t), (2, .int p), (3, .int u), (4, .int q), (5, .int c), (6, .int (nI (40 * (ix t) + ix p))), (7, .int (nI (40 * (ix u) + ix q))), (8, .int (nI iA))]) rfl hnL rfl rfl (v_aload_n h pX4_copy_2 27 rfl 1 rfl rfl (v_get h pX4_copy_2 28 fX4_34 0 rfl rfl rfl (v_iload h pX4_copy_2 29 rfl 8 rfl (v_iload h pX4_copy_2 30 rfl 0 rfl (v_iaddn h pX4_copy_2 31 (40 * (ix u) + ix q) iA rfl ?_)))))
                              refine v_aload_n h pX4_copy_3 0 rfl 1 rfl rfl (v_get h pX4_copy_3 1 fX4_34 0 rfl rfl rfl (v_iload h pX4_copy_3 2 rfl 7 rfl (v_iload h pX4_copy_3 3 rfl 0 rfl (v_iaddn h pX4_copy_3 4 (40 * (ix t) + ix p) iA rfl (v_iald h pX4_copy_3 5 (40 * (ix t) + ix p + iA) 9 0 rfl rfl rfl rfl rfl (by omega) ?_)))))
                              refine v_iast h pX4_copy_3 6 (40 * (ix u) + ix q + iA) 9 0 (ws' := mW cI b (E, Kp, Bf, As, up SA 4 (40 * (ix u) + ix q + iA) (SA 4 (40 * (ix t) + ix p + iA)))) rfl rfl rfl rfl rfl (by omega) mW_q4 (v_iinc h pX4_copy_3 7 (v := nI (iA + 1)) (lv' := [(8, .int (nI (iA + 1))), (9, .int (nI iA)), (0, .ref (b 0)), (1, .int t), (2, .int p), (3, .int u), (4, .int q), (5, .int c), (6, .int (nI (40 * (ix t) + ix p))), (7, .int (nI (40 * (ix u) + ix q)))]) rfl 9 rfl hnL rfl rfl (nI_1 iA) (v_goto (tgt := 138) h pX4_copy_3 8 rfl rfl (v_lv [2, 3, 4, 5, 6, 7, 8, 9, 0] (lv' := [(0, .ref (b 0)), (1, .int t), (2, .int p), (3, .int u), (4, .int q), (5, .int c), (6, .int (nI (40 * (ix t) + ix p))), (7, .int (nI (40 * (ix u) + ix q))), (8, .int (nI (iA + 1)))]) rfl (v_eqw (ws' := mW cI b (E, Kp, Bf, As, mvQ Q (40 * (ix t) + ix p) (40 * (ix u) + ix q) 0 (iA + 1))) (by rw [← hSA]; refine congrArg (fun z => mW cI b (E, Kp, Bf, As, z)) (mvQ_up _ _ _ _ _ _ _ _ _ ?_); exact mvR_f (Q 4) hab iA) ?_))))
                              exact ihA (iA + 1) (by omega) (trivial) (by omega)
                        exact LA (ix c + 1) 0 (by omega) trivial (by omega)
                    · skip
                      refine v_aload_n h pX4_copy_1 27 rfl 0 rfl rfl (v_ldc h pX4_copy_1 28 wm_104 rfl ?_)
                      refine v_callV h pX4_copy_1 29 mX4_42 (As := [.int (-1000001)]) (st := []) (kX4_finds _ _ cI cS b E Kp Bf As Q 0 (by decide) (-1000001) (by decide)) v0B v0C (vEmb_rf _ _) 0 rfl rfl rfl rfl rfl rfl rfl (vDet_k ?_)
                      show V K (mW cI b (E, Kp, Bf, As, fndS Q 0)) 117 [(0, .ref (b 0)), (1, .int t), (2, .int p), (3, .int u), (4, .int q), (5, .int c)] [.int (-1000001)]
                      generalize hS25 : fndS Q 0 = S25
                      exact v_iret h pX4_copy_1 30 hR hret rfl ((E, Kp, Bf, As, S25)) rfl ⟨vI (by simp [copB, c1, c3, c4, c6, (eq_true c7), c8, c10, c12, c14, c16, -Int32.not_lt]), rfl, rfl, (qR_of (by first | (simp [copB, c1, c3, c4, c6, (eq_true c7), c8, c10, c12, c14, c16, hS25, -Int32.not_lt]; done) | (simp [copB, c1, c3, c4, c6, (eq_true c7), c8, c10, c12, c14, c16, -Int32.not_lt]; rw [← hS25, Nat.sub_self])))⟩
          · skip
            refine v_aload_n h pX4_copy_1 1 rfl 0 rfl rfl (v_ldcw h pX4_copy_1 2 wm_899 rfl ?_)
            refine v_callV h pX4_copy_1 3 mX4_42 (As := [.int (-1000003)]) (st := []) (kX4_finds _ _ cI cS b E Kp Bf As Q 2 (by decide) (-1000003) (by decide)) v0B v0C (vEmb_rf _ _) 0 rfl rfl rfl rfl rfl rfl rfl (vDet_k ?_)
            show V K (mW cI b (E, Kp, Bf, As, fndS Q 2)) 69 [(0, .ref (b 0)), (1, .int t), (2, .int p), (3, .int u), (4, .int q), (5, .int c)] [.int (-1000003)]
            generalize hS26 : fndS Q 2 = S26
            exact v_iret h pX4_copy_1 4 hR hret rfl ((E, Kp, Bf, As, S26)) rfl ⟨vI (by simp [copB, c1, c3, c4, c6, c7, -Int32.not_lt]), rfl, rfl, (qR_of (by first | (simp [copB, c1, c3, c4, c6, c7, hS26, -Int32.not_lt]; done) | (simp [copB, c1, c3, c4, c6, c7, -Int32.not_lt]; rw [← hS26, Nat.sub_self])))⟩
        · skip
          refine v_aload_n h pX4_copy_0 20 rfl 0 rfl rfl (v_ldcw h pX4_copy_0 21 wm_589 rfl ?_)
          refine v_callV h pX4_copy_0 22 mX4_42 (As := [.int (-1000006)]) (st := []) (kX4_finds _ _ cI cS b E Kp Bf As Q 5 (by decide) (-1000006) (by decide)) v0B v0C (vEmb_rf _ _) 0 rfl rfl rfl rfl rfl rfl rfl (vDet_k ?_)
          show V K (mW cI b (E, Kp, Bf, As, fndS Q 5)) 46 [(0, .ref (b 0)), (1, .int t), (2, .int p), (3, .int u), (4, .int q), (5, .int c)] [.int (-1000006)]
          generalize hS27 : fndS Q 5 = S27
          exact v_iret h pX4_copy_0 23 hR hret rfl ((E, Kp, Bf, As, S27)) rfl ⟨vI (by simp [copB, c1, c3, c4, c6, -Int32.not_lt]), rfl, rfl, (qR_of (by first | (simp [copB, c1, c3, c4, c6, hS27, -Int32.not_lt]; done) | (simp [copB, c1, c3, c4, c6, -Int32.not_lt]; rw [← hS27, Nat.sub_self])))⟩
    · skip
      refine v_aload_n h pX4_copy_0 6 rfl 0 rfl rfl (v_ldc h pX4_copy_0 7 wm_104 rfl ?_)
      refine v_callV h pX4_copy_0 8 mX4_42 (As := [.int (-1000001)]) (st := []) (kX4_finds _ _ cI cS b E Kp Bf As Q 0 (by decide) (-1000001) (by decide)) v0B v0C (vEmb_rf _ _) 0 rfl rfl rfl rfl rfl rfl rfl (vDet_k ?_)
      show V K (mW cI b (E, Kp, Bf, As, fndS Q 0)) 20 [(0, .ref (b 0)), (1, .int t), (2, .int p), (3, .int u), (4, .int q), (5, .int c)] [.int (-1000001)]
      generalize hS28 : fndS Q 0 = S28
      exact v_iret h pX4_copy_0 9 hR hret rfl ((E, Kp, Bf, As, S28)) rfl ⟨vI (by simp [copB, c1, c3, -Int32.not_lt]), rfl, rfl, (qR_of (by first | (simp [copB, c1, c3, hS28, -Int32.not_lt]; done) | (simp [copB, c1, c3, -Int32.not_lt]; rw [← hS28, Nat.sub_self])))⟩
