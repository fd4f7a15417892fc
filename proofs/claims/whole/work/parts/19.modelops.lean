set_option maxHeartbeats 300000 in
set_option maxRecDepth 100000 in
theorem kX4_draw (l : Launch) (D : va_G) (cI cS : ClassId) (b : Nat → Nat) (E Kp Bf As Q : Nat → Nat → Int32)  : vDet l D (vT cI cS) yX4_draw cX4_draw 1 (some .int) 0 0 (mW cI b) [.ref (b 0)] (E, Kp, Bf, As, Q) (some (.int (drwV (drwZ (E 9 3))))) ((up E 9 3 (drwZ (E 9 3)), Kp, Bf, As, Q)) := by
  refine vMet_of (by decide) rfl ?_
  intro K hl hD hnL hret h hR hEx
  subst hl hD
  show V K (mW cI b (E, Kp, Bf, As, Q)) 0 [(0, .ref (b 0))] []
  refine v_aload_n h pX4_draw_0 0 rfl 0 rfl rfl (v_get h pX4_draw_0 1 fX4_7 0 rfl rfl rfl (v_iconst h pX4_draw_0 2 rfl ki_2 (v_aload_n h pX4_draw_0 3 rfl 0 rfl rfl (v_get h pX4_draw_0 4 fX4_7 0 rfl rfl rfl (v_iconst h pX4_draw_0 5 rfl ki_2 ?_)))))
  refine v_iald h pX4_draw_0 6 2 1 0 rfl rfl rfl rfl rfl (by omega) (v_top (w := .int (E 9 3)) (congrArg Value.int rfl) (v_ldc h pX4_draw_0 7 wm_635 rfl (v_imul h pX4_draw_0 8 rfl (v_sipush h pX4_draw_0 9 rfl ks_12345 (v_iadd h pX4_draw_0 10 rfl ?_)))))
  refine v_iast h pX4_draw_0 11 2 1 0 (ws' := mW cI b (up E 9 3 (((E 9 3) * 1103515245) + 12345), Kp, Bf, As, Q)) rfl rfl rfl rfl rfl (by omega) (mW_s 2 9 3 rfl rfl) (v_aload_n h pX4_draw_0 12 rfl 0 rfl rfl (v_get h pX4_draw_0 13 fX4_7 0 rfl rfl rfl (v_iconst h pX4_draw_0 14 rfl ki_2 (v_iald h pX4_draw_0 15 2 1 0 rfl rfl rfl rfl rfl (by omega) (v_top (w := .int ((up E 9 3 (((E 9 3) * 1103515245) + 12345)) 9 3)) (congrArg Value.int rfl) ?_)))))
  refine v_top (w := .int (((E 9 3) * 1103515245) + 12345)) rfl (v_bipush h pX4_draw_0 16 rfl kb_8 (v_iushr h pX4_draw_0 17 rfl ?_))
  exact v_iret h pX4_draw_0 18 hR hret rfl ((up E 9 3 (((E 9 3) * 1103515245) + 12345), Kp, Bf, As, Q)) rfl ⟨vI (by rfl), rfl⟩
set_option maxHeartbeats 300000 in
set_option maxRecDepth 100000 in
theorem kX4_storms (l : Launch) (D : va_G) (cI cS : ClassId) (b : Nat → Nat) (E Kp Bf As Q : Nat → Nat → Int32) (n : Nat) (hW : Wf E n) (yb : Nat) (hY : bd (E 9 2) yb) (hyb : yb ≤ 99000) (k : Int32) : vMet l D (vT cI cS) yX4_storms cX4_storms 5 (some .int) 4 89 (mW cI b) v0 [.ref (b 0), .int k] (E, Kp, Bf, As, Q) (mPost (some (.int (cond (inB k 1 20) (if 99999 < E 9 2 + k then (-1000005) else sumS (stmsS n E (ix k) 5) n) ((-1000001))))) (cond (inB k 1 20) (if 99999 < E 9 2 + k then E else stmsS n E (ix k)) (E)) (Kp) (cond (inB k 1 20) (if 99999 < E 9 2 + k then fndS Q 4 else Q) (fndS Q 0))) := by
  refine vMet_of (by decide) rfl ?_
  intro K hl hD hnL hret h hR hEx
  subst hl hD
  show V K (mW cI b (E, Kp, Bf, As, Q)) 0 [(0, .ref (b 0)), (1, .int k)] []
  have hn8 := hW.1
  refine v_iload_n h pX4_storms_0 0 rfl 1 rfl rfl (v_i2l h pX4_storms_0 1 rfl (v_lconst (v := (nI 1).toInt64) h pX4_storms_0 2 rfl kl_1 (v_ldc2 h pX4_storms_0 3 wm_503 rfl (v_top (w := .long (nI 20).toInt64) (kL 20 _ (by decide)) ?_))))
  refine v_callS h pX4_storms_0 4 mX4_50 (As := [.long k.toInt64, .long ((nI 1).toInt64), .long ((nI 20).toInt64)]) (st := []) (kX4_isIn _ _ cI cS k 1 20) v0B v0C (vEmb_u _) rfl rfl rfl rfl rfl (vDet_k ?_)
  show V K (mW cI b (E, Kp, Bf, As, Q)) 9 [(0, .ref (b 0)), (1, .int k)] [.int (bI (inB k 1 20))]
  refine v_bif_ne (tgt := 19) h pX4_storms_0 5 rfl rfl (fun c1 => ?_) (fun c1 => ?_)
  · skip
    obtain ⟨e_k, l_k⟩ := inBl_t 1 20 rfl rfl (by decide) (by decide) c1
    refine v_aload_n h pX4_storms_0 10 rfl 0 rfl rfl (v_get h pX4_storms_0 11 fX4_7 0 rfl rfl rfl (v_iconst h pX4_storms_0 12 rfl ki_1 (v_iald h pX4_storms_0 13 1 1 0 rfl rfl rfl rfl rfl (by omega) (v_top (w := .int (E 9 2)) (congrArg Value.int rfl) (v_iload_n h pX4_storms_0 14 rfl 1 rfl rfl ?_)))))
    refine v_iadd h pX4_storms_0 15 rfl (v_ldc h pX4_storms_0 16 wm_311 rfl ?_)
    refine v_icmp_le2 (tgt := 39) h pX4_storms_0 17 rfl rfl (fun c2 => ?_) (fun c2 => ?_)
    · skip
      refine v_iconst h pX4_storms_0 22 rfl ki_0 (v_istore_n h pX4_storms_0 23 (lv' := [(2, .int 0), (0, .ref (b 0)), (1, .int k)]) rfl rfl hnL rfl rfl ?_)
      refine v_lv [1, 2, 0] (lv' := [(0, .ref (b 0)), (1, .int k), (2, .int 0)]) rfl ?_
      have LA : ∀ (m iA : Nat), iA ≤ (ix k) → (True) → (ix k) + 1 ≤ iA + m → V K (mW cI b (stmsS n E iA, Kp, Bf, As, Q)) 41 [(0, .ref (b 0)), (1, .int k), (2, .int (nI iA))] [] := by
        intro m
        induction m with
        | zero => exact fun iA h1 hh h2 => absurd h2 (by omega)
        | succ m ihA =>
          intro iA hleA hhA hltA
          have hWSA : Wf (stmsS n E iA) n := (Wf_stms hW iA)
          generalize hSA : stmsS n E iA = SA at hWSA ⊢
          have hYA : bd (SA 9 2) (yb + iA) := by rw [← hSA]; exact stms_bd hY _ (by omega)
          refine v_iload_n h pX4_storms_0 24 rfl 2 rfl rfl (v_iload_n h pX4_storms_0 25 rfl 1 rfl rfl (v_top (w := .int (nI (ix k))) (congrArg Value.int e_k) ?_))
          refine v_ncmp_ge (a := iA) (b := ix k) (tgt := 94) h pX4_storms_0 26 rfl rfl (by omega) (by omega) (fun c5 => ?_) (fun c5 => ?_)
          · skip
            obtain rfl : (ix k) = iA := by omega
            refine v_aload_n h pX4_storms_1 21 rfl 0 rfl rfl (v_iconst h pX4_storms_1 22 rfl ki_3 ?_)
            refine v_callV h pX4_storms_1 23 mX4_122 (As := [.int 3]) (st := []) (kX4_sumOf _ _ cI cS b SA Kp Bf As Q n hWSA 3 (by omega)) v0B v0C (vEmb_rf _ _) 0 rfl rfl rfl rfl rfl rfl rfl (vDet_k ?_)
            show V K (mW cI b (SA, Kp, Bf, As, Q)) 99 [(0, .ref (b 0)), (1, .int k), (2, .int (nI ((ix k))))] [.int (sumS (SA 5) n)]
            exact v_iret h pX4_storms_1 24 hR hret rfl ((SA, Kp, Bf, As, Q)) rfl ⟨vI (by simp [c1, c2, c5, hSA, -Int32.not_lt]), (by simp [c1, c2, c5, hSA, -Int32.not_lt]), rfl, (qR_of (by simp [c1, c2, c5, hSA, -Int32.not_lt]))⟩
          · skip
            refine v_aload_n h pX4_storms_0 27 rfl 0 rfl rfl ?_
            refine v_callV h pX4_storms_0 28 mX4_186 (As := []) (st := []) (kX4_draw _ _ cI cS b SA Kp Bf As Q) v0B v0C (vEmb_rf _ _) 0 rfl rfl rfl rfl rfl rfl rfl (vDet_k ?_)
            show V K (mW cI b (up SA 9 3 (drwZ (SA 9 3)), Kp, Bf, As, Q)) 50 [(0, .ref (b 0)), (1, .int k), (2, .int (nI iA))] [.int (drwV (drwZ (SA 9 3)))]
            refine v_bipush h pX4_storms_0 29 rfl kb_8 (v_irem2 h pX4_storms_0 30 rfl (by decide) ?_)
            generalize hyy : rem (drwV (drwZ (SA 9 3))) 8 = y
            refine v_istore_n h pX4_storms_0 31 (lv' := [(3, .int y), (0, .ref (b 0)), (1, .int k), (2, .int (nI iA))]) rfl rfl hnL rfl rfl (v_aload_n h pX4_storms_1 0 rfl 1 rfl rfl ?_)
            refine v_callV h pX4_storms_1 1 mX4_186 (As := []) (st := []) (kX4_draw _ _ cI cS b (up SA 9 3 (drwZ (SA 9 3))) Kp Bf As Q) v0B v0C (vEmb_rf _ _) 0 rfl rfl rfl rfl rfl rfl rfl (vDet_k ?_)
            show V K (mW cI b (up (up SA 9 3 (drwZ (SA 9 3))) 9 3 (drwZ (drwZ (SA 9 3))), Kp, Bf, As, Q)) 58 [(3, .int y), (0, .ref (b 0)), (1, .int k), (2, .int (nI iA))] [.int (drwV (drwZ (drwZ (SA 9 3))))]
            refine v_bipush h pX4_storms_1 2 rfl kb_6 (v_irem2 h pX4_storms_1 3 rfl (by decide) ?_)
            generalize hbd1 : rem (drwV (drwZ (drwZ (SA 9 3)))) 6 = bd1
            refine v_istore h pX4_storms_1 4 (lv' := [(4, .int bd1), (3, .int y), (0, .ref (b 0)), (1, .int k), (2, .int (nI iA))]) rfl hnL rfl rfl ?_
            have hbb : bd bd1 5 := by rw [← hbd1]; exact drw_bd _ 6 (by decide) (by decide)
            refine v_aload_n h pX4_storms_1 5 rfl 2 rfl rfl (v_iload_n h pX4_storms_1 6 rfl 1 rfl rfl ?_)
            refine v_callV h pX4_storms_1 7 mX4_88 (As := [.int y]) (st := []) (kX4_isOyster _ _ cI cS b (up (up SA 9 3 (drwZ (SA 9 3))) 9 3 (drwZ (drwZ (SA 9 3)))) Kp Bf As Q n (Wf_up9 (Wf_up9 hWSA (by decide)) (by decide)).2.1 y) v0B v0C (vEmb_rf _ _) 0 rfl rfl rfl rfl rfl rfl rfl (vDet_k ?_)
            show V K (mW cI b (up (up SA 9 3 (drwZ (SA 9 3))) 9 3 (drwZ (drwZ (SA 9 3))), Kp, Bf, As, Q)) 68 [(4, .int bd1), (3, .int y), (0, .ref (b 0)), (1, .int k), (2, .int (nI iA))] [.int (bI (oyB y n))]
            refine v_bif_eq (tgt := 83) h pX4_storms_1 8 rfl rfl (fun c6 => ?_) (fun c6 => ?_)
            · skip
              refine v_aload_n h pX4_storms_1 16 rfl 2 rfl rfl (v_iconst h pX4_storms_1 17 rfl ki_0 ?_)
              refine v_callV h pX4_storms_1 18 mX4_111 (As := [.int 0]) (st := []) (kX4_yearBut _ _ cI cS b (up (up SA 9 3 (drwZ (SA 9 3))) 9 3 (drwZ (drwZ (SA 9 3)))) Kp Bf As Q n (Wf_up9 (Wf_up9 hWSA (by decide)) (by decide)) (yb + iA) hYA (by omega) 0) v0B v0C (vEmb_rf _ _) 0 rfl rfl rfl rfl rfl rfl rfl (vDet_k ?_)
              show V K (mW cI b (yearS n 0 (up (up SA 9 3 (drwZ (SA 9 3))) 9 3 (drwZ (drwZ (SA 9 3)))), Kp, Bf, As, Q)) 88 [(4, .int bd1), (3, .int y), (0, .ref (b 0)), (1, .int k), (2, .int (nI iA))] []
              have hWS7 : Wf (yearS n 0 (up (up SA 9 3 (drwZ (SA 9 3))) 9 3 (drwZ (drwZ (SA 9 3))))) n := (Wf_year (Wf_up9 (Wf_up9 hWSA (by decide)) (by decide)) _)
              generalize hS7 : yearS n 0 (up (up SA 9 3 (drwZ (SA 9 3))) 9 3 (drwZ (drwZ (SA 9 3)))) = S7 at hWS7 ⊢
              refine v_iinc h pX4_storms_1 19 (v := nI (iA + 1)) (lv' := [(2, .int (nI (iA + 1))), (4, .int bd1), (3, .int y), (0, .ref (b 0)), (1, .int k)]) rfl 4 rfl hnL rfl rfl (nI_1 iA) (v_goto (tgt := 41) h pX4_storms_1 20 rfl rfl (v_lv [3, 4, 0] (lv' := [(0, .ref (b 0)), (1, .int k), (2, .int (nI (iA + 1)))]) rfl (v_eqw (ws' := mW cI b (stmsS n E (iA + 1), Kp, Bf, As, Q)) (by subst hS7; subst hbd1; subst hyy; rw [stmsS, hSA]; simp [stmS, c1, c2, c5, c6]; try rfl) ?_)))
              exact ihA (iA + 1) (by omega) (trivial) (by omega)
            · skip
              obtain ⟨e_y, l_y⟩ := oyB_t hn8 c6
              refine v_aload_n h pX4_storms_1 9 rfl 2 rfl rfl (v_get h pX4_storms_1 10 fX4_7 0 rfl rfl rfl (v_iload_n h pX4_storms_1 11 rfl 1 rfl rfl (v_top (w := .int (nI (ix y))) (congrArg Value.int e_y) (v_iconst h pX4_storms_1 12 rfl ki_1 ?_))))
              refine v_callS h pX4_storms_1 13 mX4_69 (As := [.int (nI (ix y)), .int 1]) (st := [.ref (b 1)]) (kX4_at _ _ cI cS (ix y) 1) v0B v0C (vEmb_u _) rfl rfl rfl rfl rfl (vDet_k ?_)
              show V K (mW cI b (up (up SA 9 3 (drwZ (SA 9 3))) 9 3 (drwZ (drwZ (SA 9 3))), Kp, Bf, As, Q)) 80 [(4, .int bd1), (3, .int y), (0, .ref (b 0)), (1, .int k), (2, .int (nI iA))] [.int (nI (16 + 6 * (ix y) + 1)), .ref (b 1)]
              refine v_iload h pX4_storms_1 14 rfl 0 rfl (v_iast h pX4_storms_1 15 (16 + 6 * (ix y) + 1) 1 0 (ws' := mW cI b (up (up (up SA 9 3 (drwZ (SA 9 3))) 9 3 (drwZ (drwZ (SA 9 3)))) 3 (ix y) bd1, Kp, Bf, As, Q)) rfl rfl rfl rfl rfl (by omega) (mW_s (16 + 6 * (ix y) + 1) 3 (ix y) (flR_y (by omega) (by omega)) (flI_y (by omega) (by omega))) ?_)
              refine v_aload_n h pX4_storms_1 16 rfl 2 rfl rfl (v_iconst h pX4_storms_1 17 rfl ki_0 ?_)
              refine v_callV h pX4_storms_1 18 mX4_111 (As := [.int 0]) (st := []) (kX4_yearBut _ _ cI cS b (up (up (up SA 9 3 (drwZ (SA 9 3))) 9 3 (drwZ (drwZ (SA 9 3)))) 3 (ix y) bd1) Kp Bf As Q n (Wf_up3 (Wf_up9 (Wf_up9 hWSA (by decide)) (by decide)) hbb) (yb + iA) hYA (by omega) 0) v0B v0C (vEmb_rf _ _) 0 rfl rfl rfl rfl rfl rfl rfl (vDet_k ?_)
              show V K (mW cI b (yearS n 0 (up (up (up SA 9 3 (drwZ (SA 9 3))) 9 3 (drwZ (drwZ (SA 9 3)))) 3 (ix y) bd1), Kp, Bf, As, Q)) 88 [(4, .int bd1), (3, .int y), (0, .ref (b 0)), (1, .int k), (2, .int (nI iA))] []
              have hWS8 : Wf (yearS n 0 (up (up (up SA 9 3 (drwZ (SA 9 3))) 9 3 (drwZ (drwZ (SA 9 3)))) 3 (ix y) bd1)) n := (Wf_year (Wf_up3 (Wf_up9 (Wf_up9 hWSA (by decide)) (by decide)) hbb) _)
              generalize hS8 : yearS n 0 (up (up (up SA 9 3 (drwZ (SA 9 3))) 9 3 (drwZ (drwZ (SA 9 3)))) 3 (ix y) bd1) = S8 at hWS8 ⊢
              refine v_iinc h pX4_storms_1 19 (v := nI (iA + 1)) (lv' := [(2, .int (nI (iA + 1))), (4, .int bd1), (3, .int y), (0, .ref (b 0)), (1, .int k)]) rfl 4 rfl hnL rfl rfl (nI_1 iA) (v_goto (tgt := 41) h pX4_storms_1 20 rfl rfl (v_lv [3, 4, 0] (lv' := [(0, .ref (b 0)), (1, .int k), (2, .int (nI (iA + 1)))]) rfl (v_eqw (ws' := mW cI b (stmsS n E (iA + 1), Kp, Bf, As, Q)) (by subst hS8; subst hbd1; subst hyy; rw [stmsS, hSA]; simp [stmS, c1, c2, c5, c6]; try rfl) ?_)))
              exact ihA (iA + 1) (by omega) (trivial) (by omega)
      exact LA ((ix k) + 1) 0 (by omega) trivial (by omega)
    · skip
      refine v_aload_n h pX4_storms_0 18 rfl 0 rfl rfl (v_ldc h pX4_storms_0 19 wm_312 rfl ?_)
      refine v_callV h pX4_storms_0 20 mX4_42 (As := [.int (-1000005)]) (st := []) (kX4_finds _ _ cI cS b E Kp Bf As Q 4 (by decide) (-1000005) (by decide)) v0B v0C (vEmb_rf _ _) 0 rfl rfl rfl rfl rfl rfl rfl (vDet_k ?_)
      show V K (mW cI b (E, Kp, Bf, As, fndS Q 4)) 38 [(0, .ref (b 0)), (1, .int k)] [.int (-1000005)]
      generalize hS9 : fndS Q 4 = S9
      exact v_iret h pX4_storms_0 21 hR hret rfl ((E, Kp, Bf, As, S9)) rfl ⟨vI (by simp [c1, c2, hS9, -Int32.not_lt]), (by simp [c1, c2, hS9, -Int32.not_lt]), rfl, (qR_of (by simp [c1, c2, hS9, -Int32.not_lt]))⟩
  · skip
    refine v_aload_n h pX4_storms_0 6 rfl 0 rfl rfl (v_ldc h pX4_storms_0 7 wm_104 rfl ?_)
    refine v_callV h pX4_storms_0 8 mX4_42 (As := [.int (-1000001)]) (st := []) (kX4_finds _ _ cI cS b E Kp Bf As Q 0 (by decide) (-1000001) (by decide)) v0B v0C (vEmb_rf _ _) 0 rfl rfl rfl rfl rfl rfl rfl (vDet_k ?_)
    show V K (mW cI b (E, Kp, Bf, As, fndS Q 0)) 18 [(0, .ref (b 0)), (1, .int k)] [.int (-1000001)]
    generalize hS10 : fndS Q 0 = S10
    exact v_iret h pX4_storms_0 9 hR hret rfl ((E, Kp, Bf, As, S10)) rfl ⟨vI (by simp [c1, hS10, -Int32.not_lt]), (by simp [c1, hS10, -Int32.not_lt]), rfl, (qR_of (by simp [c1, hS10, -Int32.not_lt]))⟩
set_option maxHeartbeats 300000 in
set_option maxRecDepth 100000 in
theorem kX4_odds (l : Launch) (D : va_G) (cI cS : ClassId) (b : Nat → Nat) (E Kp Bf As Q : Nat → Nat → Int32) (n : Nat) (hW : Wf E n) (yb : Nat) (hY : bd (E 9 2) yb) (hyb : yb ≤ 99000) (k w : Int32) : vMet l D (vT cI cS) yX4_odds cX4_odds 9 (some .long) 4 87 (mW cI b) v0 [.ref (b 0), .int k, .int w] (E, Kp, Bf, As, Q) (mPost (some (.long (cond (inB k 0 20 && inB w 0 1) (odS (n - popc (setN (hiddenS E) n)) (ix k) w) (((-1000001) : Int32).toInt64)))) (E) (Kp) (cond (inB k 0 20 && inB w 0 1) (Q) (fndS Q 0))) := by
  refine vMet_of (by decide) rfl ?_
  intro K hl hD hnL hret h hR hEx
  subst hl hD
  show V K (mW cI b (E, Kp, Bf, As, Q)) 0 [(0, .ref (b 0)), (1, .int k), (2, .int w)] []
  have hn8 := hW.1
  refine v_iload_n h pX4_odds_0 0 rfl 1 rfl rfl (v_i2l h pX4_odds_0 1 rfl (v_lconst (v := (nI 0).toInt64) h pX4_odds_0 2 rfl kl_0 (v_ldc2 h pX4_odds_0 3 wm_503 rfl (v_top (w := .long (nI 20).toInt64) (kL 20 _ (by decide)) ?_))))
  refine v_callS h pX4_odds_0 4 mX4_50 (As := [.long k.toInt64, .long ((nI 0).toInt64), .long ((nI 20).toInt64)]) (st := []) (kX4_isIn _ _ cI cS k 0 20) v0B v0C (vEmb_u _) rfl rfl rfl rfl rfl (vDet_k ?_)
  show V K (mW cI b (E, Kp, Bf, As, Q)) 9 [(0, .ref (b 0)), (1, .int k), (2, .int w)] [.int (bI (inB k 0 20))]
  refine v_bif_eq (tgt := 22) h pX4_odds_0 5 rfl rfl (fun c1 => ?_) (fun c1 => ?_)
  · skip
    refine v_aload_n h pX4_odds_0 12 rfl 0 rfl rfl (v_ldc h pX4_odds_0 13 wm_104 rfl ?_)
    refine v_callV h pX4_odds_0 14 mX4_42 (As := [.int (-1000001)]) (st := []) (kX4_finds _ _ cI cS b E Kp Bf As Q 0 (by decide) (-1000001) (by decide)) v0B v0C (vEmb_rf _ _) 0 rfl rfl rfl rfl rfl rfl rfl (vDet_k ?_)
    show V K (mW cI b (E, Kp, Bf, As, fndS Q 0)) 28 [(0, .ref (b 0)), (1, .int k), (2, .int w)] [.int (-1000001)]
    generalize hS2 : fndS Q 0 = S2
    refine v_i2l h pX4_odds_0 15 rfl ?_
    exact v_lret h pX4_odds_0 16 hR hret rfl ((E, Kp, Bf, As, S2)) rfl ⟨vL (by first | (simp [c1]; done) | (rw [show (inB k 0 20 && inB w 0 1) = true by simp [c1]]; show _ = odS (n - popc (setN (hiddenS E) n)) (ix k) w; rw [ho]; unfold odS; first | (rw [if_pos (by assumption), ← hr, rdL_0 hev]; done) | (rw [if_neg (by assumption), ← hr, rdL_0 hev]; done))), rfl, rfl, (qR_of (by simp [c1, hS2]))⟩
  · skip
    obtain ⟨e_k, l_k⟩ := inB_t 20 rfl (by decide) c1
    refine v_iload_n h pX4_odds_0 6 rfl 2 rfl rfl (v_i2l h pX4_odds_0 7 rfl (v_lconst (v := (nI 0).toInt64) h pX4_odds_0 8 rfl kl_0 (v_lconst (v := (nI 1).toInt64) h pX4_odds_0 9 rfl kl_1 ?_)))
    refine v_callS h pX4_odds_0 10 mX4_50 (As := [.long w.toInt64, .long ((nI 0).toInt64), .long ((nI 1).toInt64)]) (st := []) (kX4_isIn _ _ cI cS w 0 1) v0B v0C (vEmb_u _) rfl rfl rfl rfl rfl (vDet_k ?_)
    show V K (mW cI b (E, Kp, Bf, As, Q)) 19 [(0, .ref (b 0)), (1, .int k), (2, .int w)] [.int (bI (inB w 0 1))]
    refine v_bif_ne (tgt := 30) h pX4_odds_0 11 rfl rfl (fun c3 => ?_) (fun c3 => ?_)
    · skip
      refine v_lconst (v := 1) h pX4_odds_0 17 rfl rfl (v_lstore_n h pX4_odds_0 18 (lv' := [(3, .long 1), (0, .ref (b 0)), (1, .int k), (2, .int w)]) rfl rfl hnL rfl rfl (v_lconst (v := 1) h pX4_odds_0 19 rfl rfl (v_lstore h pX4_odds_0 20 (lv' := [(5, .long 1), (3, .long 1), (0, .ref (b 0)), (1, .int k), (2, .int w)]) rfl hnL rfl rfl (v_aload_n h pX4_odds_0 21 rfl 2 rfl rfl (v_get h pX4_odds_0 22 fX4_7 0 rfl rfl rfl ?_)))))
      refine v_iconst h pX4_odds_0 23 rfl ki_0 (v_iald h pX4_odds_0 24 0 1 0 rfl rfl rfl rfl rfl (by omega) (v_top (w := .int (E 9 0)) (congrArg Value.int rfl) (v_top (w := .int (nI n)) (congrArg Value.int hW.2.1) (v_aload_n h pX4_odds_0 25 rfl 2 rfl rfl ?_))))
      refine v_callV h pX4_odds_0 26 mX4_129 (As := []) (st := [.int (nI n)]) (kX4_hiddenOnes _ _ cI cS b E Kp Bf As Q n hW) v0B v0C (vEmb_rf _ _) 0 rfl rfl rfl rfl rfl rfl rfl (vDet_k ?_)
      show V K (mW cI b (E, Kp, Bf, As, Q)) 45 [(5, .long 1), (3, .long 1), (0, .ref (b 0)), (1, .int k), (2, .int w)] [.int (setS (hiddenS E) n), .int (nI n)]
      refine v_top (w := .int (nI (setN (hiddenS E) n))) (congrArg Value.int (setS_N _ n (by omega))) ?_
      refine v_callS h pX4_odds_0 27 mX4_160 (As := [.int (nI (setN (hiddenS E) n))]) (st := [.int (nI n)]) (kX4_many _ _ cI cS (setN (hiddenS E) n) (by first | exact setN_256 _ (by omega) | omega)) v0B v0C (vEmb_u _) rfl rfl rfl rfl rfl (vDet_k ?_)
      show V K (mW cI b (E, Kp, Bf, As, Q)) 48 [(5, .long 1), (3, .long 1), (0, .ref (b 0)), (1, .int k), (2, .int w)] [.int (nI (popc (setN (hiddenS E) n))), .int (nI n)]
      refine v_isub h pX4_odds_0 28 rfl ?_
      refine v_top (w := .int (nI (n - popc (setN (hiddenS E) n)))) (congrArg Value.int (nI_sb (popc_set _ _ (by omega)))) ?_
      have ho8 : n - popc (setN (hiddenS E) n) ≤ 8 := by omega
      generalize ho : n - popc (setN (hiddenS E) n) = o at ho8 ⊢
      refine v_istore h pX4_odds_0 29 (lv' := [(7, .int (nI o)), (5, .long 1), (3, .long 1), (0, .ref (b 0)), (1, .int k), (2, .int w)]) rfl hnL rfl rfl (v_iconst h pX4_odds_0 30 rfl ki_0 (v_istore h pX4_odds_0 31 (lv' := [(8, .int 0), (7, .int (nI o)), (5, .long 1), (3, .long 1), (0, .ref (b 0)), (1, .int k), (2, .int w)]) rfl hnL rfl rfl ?_))
      refine v_lv [4, 5, 6, 3, 2, 1, 0] (lv' := [(0, .ref (b 0)), (1, .int k), (2, .int w), (3, .long 1), (5, .long 1), (7, .int (nI o)), (8, .int 0)]) rfl ?_
      have L4 : ∀ (m i4 : Nat), i4 ≤ (ix k) → (ix k) + 1 ≤ i4 + m → V K (mW cI b (E, Kp, Bf, As, Q)) 54 [(0, .ref (b 0)), (1, .int k), (2, .int w), (3, .long (pwL (nI o).toInt64 i4)), (5, .long (pwL 8 i4)), (7, .int (nI o)), (8, .int (nI i4))] [] := by
        intro m
        induction m with
        | zero => exact fun i4 h1 h2 => absurd h2 (by omega)
        | succ m ih4 =>
          intro i4 hle4 hlt4
          refine v_iload h pX4_odds_1 0 rfl 6 rfl (v_iload_n h pX4_odds_1 1 rfl 1 rfl rfl (v_top (w := .int (nI (ix k))) (congrArg Value.int e_k) ?_))
          refine v_ncmp_ge (a := i4) (b := ix k) (tgt := 80) h pX4_odds_1 2 rfl rfl (by omega) (by omega) (fun c5 => ?_) (fun c5 => ?_)
          · skip
            obtain rfl : (ix k) = i4 := by omega
            refine v_lload_n h pX4_odds_1 14 rfl 3 rfl rfl (v_lconst (v := 0) h pX4_odds_1 15 rfl rfl (v_lcmp h pX4_odds_1 16 rfl ?_))
            refine v_if_ne (tgt := 90) h pX4_odds_1 17 rfl rfl (fun c6 => ?_) (fun c6 => ?_)
            · skip
              refine v_lload h pX4_odds_1 20 rfl 4 rfl (v_lstore h pX4_odds_1 21 (lv' := [(5, .long (pwL 8 ((ix k)))), (0, .ref (b 0)), (1, .int k), (2, .int w), (3, .long (pwL (nI o).toInt64 ((ix k)))), (7, .int (nI o)), (8, .int (nI ((ix k))))]) rfl hnL rfl rfl ?_)
              refine v_lv [1, 2, 3, 4, 0] (lv' := [(0, .ref (b 0)), (1, .int k), (2, .int w), (3, .long (pwL (nI o).toInt64 ((ix k)))), (5, .long (pwL 8 ((ix k))))]) rfl ?_
              have LB : ∀ (m : Nat) (a b2 : Int64), fnL m a b2 = true → rdL m a b2 = rdL 62 (pwL (nI o).toInt64 (ix k)) (bel (pwL (nI o).toInt64 (ix k)) (pwL 8 (ix k))) → V K (mW cI b (E, Kp, Bf, As, Q)) 94 [(0, .ref (b 0)), (1, .int k), (2, .int w), (3, .long a), (5, .long b2)] [] := by
                intro m
                induction m with
                | zero => exact fun a b2 h1 h2 => absurd (show false = true from h1) (by decide)
                | succ m ihB =>
                  intro a b2 hf hr
                  refine v_lload_n h pX4_odds_1 22 rfl 3 rfl rfl (v_ldc2 h pX4_odds_1 23 wm_131 rfl (v_lrem h pX4_odds_1 24 rfl (by decide) (v_lconst (v := 0) h pX4_odds_1 25 rfl rfl (v_lcmp h pX4_odds_1 26 rfl ?_))))
                  refine v_if_ne (tgt := 132) h pX4_odds_1 27 rfl rfl (fun c7 => ?_) (fun c7 => ?_)
                  · skip
                    have hev : (evL a && evL b2) = false := by rw [show evL a = false from decide_eq_false c7]; simp
                    refine v_iload_n h pX4_odds_2 11 rfl 2 rfl rfl ?_
                    refine v_if_ne (tgt := 140) h pX4_odds_2 12 rfl rfl (fun c8 => ?_) (fun c8 => ?_)
                    · skip
                      refine v_lload h pX4_odds_2 15 rfl 4 rfl ?_
                      exact v_lret h pX4_odds_2 16 hR hret rfl ((E, Kp, Bf, As, Q)) rfl ⟨vL (by first | (simp [c1, c3, c5, c6, c7, c8]; done) | (rw [show (inB k 0 20 && inB w 0 1) = true by simp [c1, c3, c5, c6, c7, c8]]; show _ = odS (n - popc (setN (hiddenS E) n)) (ix k) w; rw [ho]; unfold odS; first | (rw [if_pos (by assumption), ← hr, rdL_0 hev]; done) | (rw [if_neg (by assumption), ← hr, rdL_0 hev]; done))), rfl, rfl, (qR_of (by simp [c1, c3, c5, c6, c7, c8, True]))⟩
                    · skip
                      refine v_lload_n h pX4_odds_2 13 rfl 3 rfl rfl (v_goto (tgt := 142) h pX4_odds_2 14 rfl rfl ?_)
                      exact v_lret h pX4_odds_2 16 hR hret rfl ((E, Kp, Bf, As, Q)) rfl ⟨vL (by first | (simp [c1, c3, c5, c6, c7, (eq_true c8)]; done) | (rw [show (inB k 0 20 && inB w 0 1) = true by simp [c1, c3, c5, c6, c7, (eq_true c8)]]; show _ = odS (n - popc (setN (hiddenS E) n)) (ix k) w; rw [ho]; unfold odS; first | (rw [if_pos (by assumption), ← hr, rdL_0 hev]; done) | (rw [if_neg (by assumption), ← hr, rdL_0 hev]; done))), rfl, rfl, (qR_of (by simp [c1, c3, c5, c6, c7, (eq_true c8), True]))⟩
                  · skip
                    have hev1 : evL a = true := decide_eq_true c7
                    refine v_lload h pX4_odds_1 28 rfl 4 rfl (v_ldc2 h pX4_odds_1 29 wm_131 rfl (v_lrem h pX4_odds_1 30 rfl (by decide) (v_lconst (v := 0) h pX4_odds_1 31 rfl rfl (v_lcmp h pX4_odds_2 0 rfl ?_))))
                    refine v_if_ne (tgt := 132) h pX4_odds_2 1 rfl rfl (fun c9 => ?_) (fun c9 => ?_)
                    · skip
                      have hev : (evL a && evL b2) = false := by rw [show evL b2 = false from decide_eq_false c9]; simp
                      refine v_iload_n h pX4_odds_2 11 rfl 2 rfl rfl ?_
                      refine v_if_ne (tgt := 140) h pX4_odds_2 12 rfl rfl (fun c10 => ?_) (fun c10 => ?_)
                      · skip
                        refine v_lload h pX4_odds_2 15 rfl 4 rfl ?_
                        exact v_lret h pX4_odds_2 16 hR hret rfl ((E, Kp, Bf, As, Q)) rfl ⟨vL (by first | (simp [c1, c3, c5, c6, (eq_true c7), c9, c10]; done) | (rw [show (inB k 0 20 && inB w 0 1) = true by simp [c1, c3, c5, c6, (eq_true c7), c9, c10]]; show _ = odS (n - popc (setN (hiddenS E) n)) (ix k) w; rw [ho]; unfold odS; first | (rw [if_pos (by assumption), ← hr, rdL_0 hev]; done) | (rw [if_neg (by assumption), ← hr, rdL_0 hev]; done))), rfl, rfl, (qR_of (by simp [c1, c3, c5, c6, (eq_true c7), c9, c10, True]))⟩
                      · skip
                        refine v_lload_n h pX4_odds_2 13 rfl 3 rfl rfl (v_goto (tgt := 142) h pX4_odds_2 14 rfl rfl ?_)
                        exact v_lret h pX4_odds_2 16 hR hret rfl ((E, Kp, Bf, As, Q)) rfl ⟨vL (by first | (simp [c1, c3, c5, c6, (eq_true c7), c9, (eq_true c10)]; done) | (rw [show (inB k 0 20 && inB w 0 1) = true by simp [c1, c3, c5, c6, (eq_true c7), c9, (eq_true c10)]]; show _ = odS (n - popc (setN (hiddenS E) n)) (ix k) w; rw [ho]; unfold odS; first | (rw [if_pos (by assumption), ← hr, rdL_0 hev]; done) | (rw [if_neg (by assumption), ← hr, rdL_0 hev]; done))), rfl, rfl, (qR_of (by simp [c1, c3, c5, c6, (eq_true c7), c9, (eq_true c10), True]))⟩
                    · skip
                      have hev2 : evL b2 = true := decide_eq_true c9
                      refine v_lload_n h pX4_odds_2 2 rfl 3 rfl rfl (v_ldc2 h pX4_odds_2 3 wm_131 rfl (v_ldiv h pX4_odds_2 4 rfl (by decide) (v_lstore_n h pX4_odds_2 5 (lv' := [(3, .long (a / 2)), (0, .ref (b 0)), (1, .int k), (2, .int w), (5, .long b2)]) rfl rfl hnL rfl rfl (v_lload h pX4_odds_2 6 rfl 4 rfl (v_ldc2 h pX4_odds_2 7 wm_131 rfl ?_)))))
                      refine v_ldiv h pX4_odds_2 8 rfl (by decide) (v_lstore h pX4_odds_2 9 (lv' := [(5, .long (b2 / 2)), (3, .long (a / 2)), (0, .ref (b 0)), (1, .int k), (2, .int w)]) rfl hnL rfl rfl (v_goto (tgt := 94) h pX4_odds_2 10 rfl rfl (v_lv [2, 3, 4, 1, 0] (lv' := [(0, .ref (b 0)), (1, .int k), (2, .int w), (3, .long (a / 2)), (5, .long (b2 / 2))]) rfl ?_)))
                      exact ihB _ _ (fnL_1 hev1 hev2 hf) (by rw [← hr, rdL_1 hev1 hev2])
              exact LB 62 _ _ (by have e := fn_tab o (by omega) (ix k) (by omega); simpa [bel, c6] using e) (by simp [bel, c6])
            · skip
              refine v_lconst (v := 1) h pX4_odds_1 18 rfl rfl (v_goto (tgt := 92) h pX4_odds_1 19 rfl rfl (v_lstore h pX4_odds_1 21 (lv' := [(5, .long 1), (0, .ref (b 0)), (1, .int k), (2, .int w), (3, .long (pwL (nI o).toInt64 ((ix k)))), (7, .int (nI o)), (8, .int (nI ((ix k))))]) rfl hnL rfl rfl ?_))
              refine v_lv [1, 2, 3, 4, 0] (lv' := [(0, .ref (b 0)), (1, .int k), (2, .int w), (3, .long (pwL (nI o).toInt64 ((ix k)))), (5, .long 1)]) rfl ?_
              have LB : ∀ (m : Nat) (a b2 : Int64), fnL m a b2 = true → rdL m a b2 = rdL 62 (pwL (nI o).toInt64 (ix k)) (bel (pwL (nI o).toInt64 (ix k)) (pwL 8 (ix k))) → V K (mW cI b (E, Kp, Bf, As, Q)) 94 [(0, .ref (b 0)), (1, .int k), (2, .int w), (3, .long a), (5, .long b2)] [] := by
                intro m
                induction m with
                | zero => exact fun a b2 h1 h2 => absurd (show false = true from h1) (by decide)
                | succ m ihB =>
                  intro a b2 hf hr
                  refine v_lload_n h pX4_odds_1 22 rfl 3 rfl rfl (v_ldc2 h pX4_odds_1 23 wm_131 rfl (v_lrem h pX4_odds_1 24 rfl (by decide) (v_lconst (v := 0) h pX4_odds_1 25 rfl rfl (v_lcmp h pX4_odds_1 26 rfl ?_))))
                  refine v_if_ne (tgt := 132) h pX4_odds_1 27 rfl rfl (fun c11 => ?_) (fun c11 => ?_)
                  · skip
                    have hev : (evL a && evL b2) = false := by rw [show evL a = false from decide_eq_false c11]; simp
                    refine v_iload_n h pX4_odds_2 11 rfl 2 rfl rfl ?_
                    refine v_if_ne (tgt := 140) h pX4_odds_2 12 rfl rfl (fun c12 => ?_) (fun c12 => ?_)
                    · skip
                      refine v_lload h pX4_odds_2 15 rfl 4 rfl ?_
                      exact v_lret h pX4_odds_2 16 hR hret rfl ((E, Kp, Bf, As, Q)) rfl ⟨vL (by first | (simp [c1, c3, c5, (eq_true c6), c11, c12]; done) | (rw [show (inB k 0 20 && inB w 0 1) = true by simp [c1, c3, c5, (eq_true c6), c11, c12]]; show _ = odS (n - popc (setN (hiddenS E) n)) (ix k) w; rw [ho]; unfold odS; first | (rw [if_pos (by assumption), ← hr, rdL_0 hev]; done) | (rw [if_neg (by assumption), ← hr, rdL_0 hev]; done))), rfl, rfl, (qR_of (by simp [c1, c3, c5, (eq_true c6), c11, c12, True]))⟩
                    · skip
                      refine v_lload_n h pX4_odds_2 13 rfl 3 rfl rfl (v_goto (tgt := 142) h pX4_odds_2 14 rfl rfl ?_)
                      exact v_lret h pX4_odds_2 16 hR hret rfl ((E, Kp, Bf, As, Q)) rfl ⟨vL (by first | (simp [c1, c3, c5, (eq_true c6), c11, (eq_true c12)]; done) | (rw [show (inB k 0 20 && inB w 0 1) = true by simp [c1, c3, c5, (eq_true c6), c11, (eq_true c12)]]; show _ = odS (n - popc (setN (hiddenS E) n)) (ix k) w; rw [ho]; unfold odS; first | (rw [if_pos (by assumption), ← hr, rdL_0 hev]; done) | (rw [if_neg (by assumption), ← hr, rdL_0 hev]; done))), rfl, rfl, (qR_of (by simp [c1, c3, c5, (eq_true c6), c11, (eq_true c12), True]))⟩
                  · skip
                    have hev1 : evL a = true := decide_eq_true c11
                    refine v_lload h pX4_odds_1 28 rfl 4 rfl (v_ldc2 h pX4_odds_1 29 wm_131 rfl (v_lrem h pX4_odds_1 30 rfl (by decide) (v_lconst (v := 0) h pX4_odds_1 31 rfl rfl (v_lcmp h pX4_odds_2 0 rfl ?_))))
                    refine v_if_ne (tgt := 132) h pX4_odds_2 1 rfl rfl (fun c13 => ?_) (fun c13 => ?_)
                    · skip
                      have hev : (evL a && evL b2) = false := by rw [show evL b2 = false from decide_eq_false c13]; simp
                      refine v_iload_n h pX4_odds_2 11 rfl 2 rfl rfl ?_
                      refine v_if_ne (tgt := 140) h pX4_odds_2 12 rfl rfl (fun c14 => ?_) (fun c14 => ?_)
                      · skip
                        refine v_lload h pX4_odds_2 15 rfl 4 rfl ?_
                        exact v_lret h pX4_odds_2 16 hR hret rfl ((E, Kp, Bf, As, Q)) rfl ⟨vL (by first | (simp [c1, c3, c5, (eq_true c6), (eq_true c11), c13, c14]; done) | (rw [show (inB k 0 20 && inB w 0 1) = true by simp [c1, c3, c5, (eq_true c6), (eq_true c11), c13, c14]]; show _ = odS (n - popc (setN (hiddenS E) n)) (ix k) w; rw [ho]; unfold odS; first | (rw [if_pos (by assumption), ← hr, rdL_0 hev]; done) | (rw [if_neg (by assumption), ← hr, rdL_0 hev]; done))), rfl, rfl, (qR_of (by simp [c1, c3, c5, (eq_true c6), (eq_true c11), c13, c14, True]))⟩
                      · skip
                        refine v_lload_n h pX4_odds_2 13 rfl 3 rfl rfl (v_goto (tgt := 142) h pX4_odds_2 14 rfl rfl ?_)
                        exact v_lret h pX4_odds_2 16 hR hret rfl ((E, Kp, Bf, As, Q)) rfl ⟨vL (by first | (simp [c1, c3, c5, (eq_true c6), (eq_true c11), c13, (eq_true c14)]; done) | (rw [show (inB k 0 20 && inB w 0 1) = true by simp [c1, c3, c5, (eq_true c6), (eq_true c11), c13, (eq_true c14)]]; show _ = odS (n - popc (setN (hiddenS E) n)) (ix k) w; rw [ho]; unfold odS; first | (rw [if_pos (by assumption), ← hr, rdL_0 hev]; done) | (rw [if_neg (by assumption), ← hr, rdL_0 hev]; done))), rfl, rfl, (qR_of (by simp [c1, c3, c5, (eq_true c6), (eq_true c11), c13, (eq_true c14), True]))⟩
                    · skip
                      have hev2 : evL b2 = true := decide_eq_true c13
                      refine v_lload_n h pX4_odds_2 2 rfl 3 rfl rfl (v_ldc2 h pX4_odds_2 3 wm_131 rfl (v_ldiv h pX4_odds_2 4 rfl (by decide) (v_lstore_n h pX4_odds_2 5 (lv' := [(3, .long (a / 2)), (0, .ref (b 0)), (1, .int k), (2, .int w), (5, .long b2)]) rfl rfl hnL rfl rfl (v_lload h pX4_odds_2 6 rfl 4 rfl (v_ldc2 h pX4_odds_2 7 wm_131 rfl ?_)))))
                      refine v_ldiv h pX4_odds_2 8 rfl (by decide) (v_lstore h pX4_odds_2 9 (lv' := [(5, .long (b2 / 2)), (3, .long (a / 2)), (0, .ref (b 0)), (1, .int k), (2, .int w)]) rfl hnL rfl rfl (v_goto (tgt := 94) h pX4_odds_2 10 rfl rfl (v_lv [2, 3, 4, 1, 0] (lv' := [(0, .ref (b 0)), (1, .int k), (2, .int w), (3, .long (a / 2)), (5, .long (b2 / 2))]) rfl ?_)))
                      exact ihB _ _ (fnL_1 hev1 hev2 hf) (by rw [← hr, rdL_1 hev1 hev2])
              exact LB 62 _ _ (by have e := fn_tab o (by omega) (ix k) (by omega); simpa [bel, c6] using e) (by simp [bel, c6])
          · skip
            refine v_lload_n h pX4_odds_1 3 rfl 3 rfl rfl (v_iload h pX4_odds_1 4 rfl 5 rfl (v_i2l h pX4_odds_1 5 rfl (v_lmul h pX4_odds_1 6 rfl (v_lstore_n h pX4_odds_1 7 (lv' := [(3, .long ((pwL (nI o).toInt64 i4) * ((nI o : Int32).toInt64))), (0, .ref (b 0)), (1, .int k), (2, .int w), (5, .long (pwL 8 i4)), (7, .int (nI o)), (8, .int (nI i4))]) rfl rfl hnL rfl rfl (v_lload h pX4_odds_1 8 rfl 4 rfl ?_)))))
            refine v_ldc2 h pX4_odds_1 9 wm_644 rfl (v_lmul h pX4_odds_1 10 rfl (v_lstore h pX4_odds_1 11 (lv' := [(5, .long ((pwL 8 i4) * 8)), (3, .long ((pwL (nI o).toInt64 i4) * ((nI o : Int32).toInt64))), (0, .ref (b 0)), (1, .int k), (2, .int w), (7, .int (nI o)), (8, .int (nI i4))]) rfl hnL rfl rfl (v_iinc h pX4_odds_1 12 (v := nI (i4 + 1)) (lv' := [(8, .int (nI (i4 + 1))), (5, .long ((pwL 8 i4) * 8)), (3, .long ((pwL (nI o).toInt64 i4) * ((nI o : Int32).toInt64))), (0, .ref (b 0)), (1, .int k), (2, .int w), (7, .int (nI o))]) rfl 6 rfl hnL rfl rfl (nI_1 i4) (v_goto (tgt := 54) h pX4_odds_1 13 rfl rfl (v_lv [3, 4, 5, 2, 1, 6, 0] (lv' := [(0, .ref (b 0)), (1, .int k), (2, .int w), (3, .long ((pwL (nI o).toInt64 i4) * ((nI o : Int32).toInt64))), (5, .long ((pwL 8 i4) * 8)), (7, .int (nI o)), (8, .int (nI (i4 + 1)))]) rfl ?_)))))
            exact ih4 (i4 + 1) (by omega) (by omega)
      exact L4 ((ix k) + 1) 0 (by omega) (by omega)
    · skip
      refine v_aload_n h pX4_odds_0 12 rfl 0 rfl rfl (v_ldc h pX4_odds_0 13 wm_104 rfl ?_)
      refine v_callV h pX4_odds_0 14 mX4_42 (As := [.int (-1000001)]) (st := []) (kX4_finds _ _ cI cS b E Kp Bf As Q 0 (by decide) (-1000001) (by decide)) v0B v0C (vEmb_rf _ _) 0 rfl rfl rfl rfl rfl rfl rfl (vDet_k ?_)
      show V K (mW cI b (E, Kp, Bf, As, fndS Q 0)) 28 [(0, .ref (b 0)), (1, .int k), (2, .int w)] [.int (-1000001)]
      generalize hS15 : fndS Q 0 = S15
      refine v_i2l h pX4_odds_0 15 rfl ?_
      exact v_lret h pX4_odds_0 16 hR hret rfl ((E, Kp, Bf, As, S15)) rfl ⟨vL (by first | (simp [c1, c3]; done) | (rw [show (inB k 0 20 && inB w 0 1) = true by simp [c1, c3]]; show _ = odS (n - popc (setN (hiddenS E) n)) (ix k) w; rw [ho]; unfold odS; first | (rw [if_pos (by assumption), ← hr, rdL_0 hev]; done) | (rw [if_neg (by assumption), ← hr, rdL_0 hev]; done))), rfl, rfl, (qR_of (by simp [c1, c3, hS15]))⟩
set_option maxHeartbeats 300000 in
set_option maxRecDepth 100000 in
theorem kX4_feed (l : Launch) (D : va_G) (cI cS : ClassId) (b : Nat → Nat) (E Kp Bf As Q : Nat → Nat → Int32) (n : Nat) (hW : Wf E n) (yb : Nat) (hY : bd (E 9 2) yb) (hyb : yb ≤ 99000) (hQ : WfQ Q) (v k : Int32) : vMet l D (vT cI cS) yX4_feed cX4_feed 4 (some .int) 1 25 (mW cI b) v0 [.ref (b 0), .int v, .int k] (E, Kp, Bf, As, Q) (mPost (some (.int (cond (inB k 1 4) (if 120 < ix (Q 6 1) + ix k then (-1000002) else nI (ix (Q 6 1) + ix k)) ((-1000001))))) (E) (Kp) (cond (inB k 1 4) (if 120 < ix (Q 6 1) + ix k then fndS Q 1 else fdS v (ix k) (ix (Q 6 1)) Q) (fndS Q 0))) := by
  refine vMet_of (by decide) rfl ?_
  intro K hl hD hnL hret h hR hEx
  subst hl hD
  show V K (mW cI b (E, Kp, Bf, As, Q)) 0 [(0, .ref (b 0)), (1, .int v), (2, .int k)] []
  have hn8 := hW.1
  have htl := hQ.tapedL
  refine v_iload_n h pX4_feed_0 0 rfl 2 rfl rfl (v_i2l h pX4_feed_0 1 rfl (v_lconst (v := (nI 1).toInt64) h pX4_feed_0 2 rfl kl_1 (v_ldc2 h pX4_feed_0 3 wm_667 rfl (v_top (w := .long (nI 4).toInt64) (kL 4 _ (by decide)) ?_))))
  refine v_callS h pX4_feed_0 4 mX4_50 (As := [.long k.toInt64, .long ((nI 1).toInt64), .long ((nI 4).toInt64)]) (st := []) (kX4_isIn _ _ cI cS k 1 4) v0B v0C (vEmb_u _) rfl rfl rfl rfl rfl (vDet_k ?_)
  show V K (mW cI b (E, Kp, Bf, As, Q)) 9 [(0, .ref (b 0)), (1, .int v), (2, .int k)] [.int (bI (inB k 1 4))]
  refine v_bif_ne (tgt := 19) h pX4_feed_0 5 rfl rfl (fun c1 => ?_) (fun c1 => ?_)
  · skip
    obtain ⟨e_k, l_k⟩ := inBl_t 1 4 rfl rfl (by decide) (by decide) c1
    rcases (show ix k = 1 ∨ ix k = 2 ∨ ix k = 3 ∨ ix k = 4 by omega) with hkl | hkl | hkl | hkl
    · skip
      have ekl : k = 1 := by rw [e_k, hkl]; rfl
      refine v_aload_n h pX4_feed_0 10 rfl 0 rfl rfl (v_get h pX4_feed_0 11 fX4_193 0 rfl rfl rfl (v_top (w := .int (nI (ix (Q 6 1)))) (congrArg Value.int hQ.taped) (v_iload_n h pX4_feed_0 12 rfl 2 rfl rfl (v_top (w := .int 1) (congrArg Value.int ekl) (v_iaddn h pX4_feed_0 13 (ix (Q 6 1)) 1 rfl ?_)))))
      refine v_bipush h pX4_feed_0 14 rfl kb_120 ?_
      refine v_ncmp_le (a := ix (Q 6 1) + 1) (b := 120) (tgt := 37) h pX4_feed_0 15 rfl rfl (by omega) (by omega) (fun c2 => ?_) (fun c2 => ?_)
      · skip
        have c2n := Nat.not_lt.mpr c2
        refine v_iload_n h pX4_feed_0 20 rfl 2 rfl rfl (v_top (w := .int 1) (congrArg Value.int ekl) (v_iconst h pX4_feed_0 21 rfl ki_1 (v_isub h pX4_feed_0 22 rfl ?_)))
        refine v_top (w := .int 0) (by decide) (v_istore_n h pX4_feed_0 23 (lv' := [(3, .int 0), (0, .ref (b 0)), (1, .int v), (2, .int k)]) rfl rfl hnL rfl rfl (v_iload_n h pX4_feed_0 24 rfl 0 rfl rfl ?_))
        refine v_if_lt (tgt := 80) h pX4_feed_0 25 rfl rfl (fun c3 => absurd c3 (by decide)) (fun c3 => ?_)
        refine v_aload_n h pX4_feed_0 26 rfl 1 rfl rfl (v_get h pX4_feed_0 27 fX4_25 0 rfl rfl rfl (v_aload_n h pX4_feed_0 28 rfl 1 rfl rfl (v_get h pX4_feed_0 29 fX4_193 0 rfl rfl rfl (v_top (w := .int (nI (ix (Q 6 1)))) (congrArg Value.int hQ.taped) (v_iload_n h pX4_feed_0 30 rfl 2 rfl rfl ?_)))))
        refine v_bipush h pX4_feed_0 31 rfl kb_8 (v_iload_n h pX4_feed_1 0 rfl 0 rfl rfl (v_imul h pX4_feed_1 1 rfl (v_ishr h pX4_feed_1 2 rfl (v_sipush h pX4_feed_1 3 rfl ks_255 (v_iand h pX4_feed_1 4 rfl ?_)))))
        refine v_iast h pX4_feed_1 5 (ix (Q 6 1)) 6 0 (ws' := mW cI b (E, Kp, Bf, As, up Q 1 (ix (Q 6 1)) ((v >>> ((8 * 0) &&& 31)) &&& 255))) rfl rfl rfl rfl rfl (by omega) mW_q1 (v_aload_n h pX4_feed_1 6 rfl 1 rfl rfl (v_dup h pX4_feed_1 7 rfl rfl (v_get h pX4_feed_1 8 fX4_193 0 rfl rfl rfl (v_top (w := .int (nI (ix (Q 6 1)))) (congrArg Value.int hQ.taped) (v_iconst h pX4_feed_1 9 rfl ki_1 ?_)))))
        refine v_iaddn h pX4_feed_1 10 (ix (Q 6 1)) 1 rfl (v_puti h pX4_feed_1 11 gX4_193 0 (ws' := mW cI b (E, Kp, Bf, As, up (up Q 1 (ix (Q 6 1)) ((v >>> ((8 * 0) &&& 31)) &&& 255)) 6 1 (nI (ix (Q 6 1) + 1)))) rfl rfl rfl mW_p1 (v_iinc h pX4_feed_1 12 (v := (-1)) (lv' := [(3, .int (-1)), (0, .ref (b 0)), (1, .int v), (2, .int k)]) rfl 0 rfl hnL rfl rfl (by decide) (v_goto (tgt := 41) h pX4_feed_1 13 rfl rfl (v_iload_n h pX4_feed_0 24 rfl 0 rfl rfl ?_))))
        refine v_if_lt (tgt := 80) h pX4_feed_0 25 rfl rfl (fun c4 => ?_) (fun c4 => absurd c4 (by decide))
        refine v_aload_n h pX4_feed_1 14 rfl 1 rfl rfl (v_get h pX4_feed_1 15 fX4_193 0 rfl rfl rfl (v_top (w := .int (nI (ix (Q 6 1) + 1))) rfl ?_))
        exact v_iret h pX4_feed_1 16 hR hret rfl ((E, Kp, Bf, As, up (up Q 1 (ix (Q 6 1)) ((v >>> ((8 * 0) &&& 31)) &&& 255)) 6 1 (nI (ix (Q 6 1) + 1)))) rfl ⟨vI (by simp [c1, hkl, c2n]), rfl, rfl, (qR_of (by first | (simp [c1, hkl, c2n, True]; done) | (simp only [c1, hkl, c2n, cond_true, if_false]; rfl)))⟩
      · skip
        refine v_aload_n h pX4_feed_0 16 rfl 0 rfl rfl (v_ldc h pX4_feed_0 17 wm_171 rfl ?_)
        refine v_callV h pX4_feed_0 18 mX4_42 (As := [.int (-1000002)]) (st := []) (kX4_finds _ _ cI cS b E Kp Bf As Q 1 (by decide) (-1000002) (by decide)) v0B v0C (vEmb_rf _ _) 0 rfl rfl rfl rfl rfl rfl rfl (vDet_k ?_)
        show V K (mW cI b (E, Kp, Bf, As, fndS Q 1)) 36 [(0, .ref (b 0)), (1, .int v), (2, .int k)] [.int (-1000002)]
        generalize hS5 : fndS Q 1 = S5
        exact v_iret h pX4_feed_0 19 hR hret rfl ((E, Kp, Bf, As, S5)) rfl ⟨vI (by simp [c1, hkl, c2]), rfl, rfl, (qR_of (by first | (simp [c1, hkl, c2, hS5]; done) | (simp only [c1, hkl, c2, cond_true, if_false]; rfl)))⟩
    · skip
      have ekl : k = 2 := by rw [e_k, hkl]; rfl
      refine v_aload_n h pX4_feed_0 10 rfl 0 rfl rfl (v_get h pX4_feed_0 11 fX4_193 0 rfl rfl rfl (v_top (w := .int (nI (ix (Q 6 1)))) (congrArg Value.int hQ.taped) (v_iload_n h pX4_feed_0 12 rfl 2 rfl rfl (v_top (w := .int 2) (congrArg Value.int ekl) (v_iaddn h pX4_feed_0 13 (ix (Q 6 1)) 2 rfl ?_)))))
      refine v_bipush h pX4_feed_0 14 rfl kb_120 ?_
      refine v_ncmp_le (a := ix (Q 6 1) + 2) (b := 120) (tgt := 37) h pX4_feed_0 15 rfl rfl (by omega) (by omega) (fun c6 => ?_) (fun c6 => ?_)
      · skip
        have c6n := Nat.not_lt.mpr c6
        refine v_iload_n h pX4_feed_0 20 rfl 2 rfl rfl (v_top (w := .int 2) (congrArg Value.int ekl) (v_iconst h pX4_feed_0 21 rfl ki_1 (v_isub h pX4_feed_0 22 rfl ?_)))
        refine v_top (w := .int 1) (by decide) (v_istore_n h pX4_feed_0 23 (lv' := [(3, .int 1), (0, .ref (b 0)), (1, .int v), (2, .int k)]) rfl rfl hnL rfl rfl (v_iload_n h pX4_feed_0 24 rfl 0 rfl rfl ?_))
        refine v_if_lt (tgt := 80) h pX4_feed_0 25 rfl rfl (fun c7 => absurd c7 (by decide)) (fun c7 => ?_)
        refine v_aload_n h pX4_feed_0 26 rfl 1 rfl rfl (v_get h pX4_feed_0 27 fX4_25 0 rfl rfl rfl (v_aload_n h pX4_feed_0 28 rfl 1 rfl rfl (v_get h pX4_feed_0 29 fX4_193 0 rfl rfl rfl (v_top (w := .int (nI (ix (Q 6 1)))) (congrArg Value.int hQ.taped) (v_iload_n h pX4_feed_0 30 rfl 2 rfl rfl ?_)))))
        refine v_bipush h pX4_feed_0 31 rfl kb_8 (v_iload_n h pX4_feed_1 0 rfl 0 rfl rfl (v_imul h pX4_feed_1 1 rfl (v_ishr h pX4_feed_1 2 rfl (v_sipush h pX4_feed_1 3 rfl ks_255 (v_iand h pX4_feed_1 4 rfl ?_)))))
        refine v_iast h pX4_feed_1 5 (ix (Q 6 1)) 6 0 (ws' := mW cI b (E, Kp, Bf, As, up Q 1 (ix (Q 6 1)) ((v >>> ((8 * 1) &&& 31)) &&& 255))) rfl rfl rfl rfl rfl (by omega) mW_q1 (v_aload_n h pX4_feed_1 6 rfl 1 rfl rfl (v_dup h pX4_feed_1 7 rfl rfl (v_get h pX4_feed_1 8 fX4_193 0 rfl rfl rfl (v_top (w := .int (nI (ix (Q 6 1)))) (congrArg Value.int hQ.taped) (v_iconst h pX4_feed_1 9 rfl ki_1 ?_)))))
        refine v_iaddn h pX4_feed_1 10 (ix (Q 6 1)) 1 rfl (v_puti h pX4_feed_1 11 gX4_193 0 (ws' := mW cI b (E, Kp, Bf, As, up (up Q 1 (ix (Q 6 1)) ((v >>> ((8 * 1) &&& 31)) &&& 255)) 6 1 (nI (ix (Q 6 1) + 1)))) rfl rfl rfl mW_p1 (v_iinc h pX4_feed_1 12 (v := 0) (lv' := [(3, .int 0), (0, .ref (b 0)), (1, .int v), (2, .int k)]) rfl 0 rfl hnL rfl rfl (by decide) (v_goto (tgt := 41) h pX4_feed_1 13 rfl rfl (v_iload_n h pX4_feed_0 24 rfl 0 rfl rfl ?_))))
        refine v_if_lt (tgt := 80) h pX4_feed_0 25 rfl rfl (fun c8 => absurd c8 (by decide)) (fun c8 => ?_)
        refine v_aload_n h pX4_feed_0 26 rfl 1 rfl rfl (v_get h pX4_feed_0 27 fX4_25 0 rfl rfl rfl (v_aload_n h pX4_feed_0 28 rfl 1 rfl rfl (v_get h pX4_feed_0 29 fX4_193 0 rfl rfl rfl (v_top (w := .int (nI (ix (Q 6 1) + 1))) rfl (v_iload_n h pX4_feed_0 30 rfl 2 rfl rfl ?_)))))
        refine v_bipush h pX4_feed_0 31 rfl kb_8 (v_iload_n h pX4_feed_1 0 rfl 0 rfl rfl (v_imul h pX4_feed_1 1 rfl (v_ishr h pX4_feed_1 2 rfl (v_sipush h pX4_feed_1 3 rfl ks_255 (v_iand h pX4_feed_1 4 rfl ?_)))))
        refine v_iast h pX4_feed_1 5 (ix (Q 6 1) + 1) 6 0 (ws' := mW cI b (E, Kp, Bf, As, up (up (up Q 1 (ix (Q 6 1)) ((v >>> ((8 * 1) &&& 31)) &&& 255)) 6 1 (nI (ix (Q 6 1) + 1))) 1 (ix (Q 6 1) + 1) ((v >>> ((8 * 0) &&& 31)) &&& 255))) rfl rfl rfl rfl rfl (by omega) mW_q1 (v_aload_n h pX4_feed_1 6 rfl 1 rfl rfl (v_dup h pX4_feed_1 7 rfl rfl (v_get h pX4_feed_1 8 fX4_193 0 rfl rfl rfl (v_top (w := .int (nI (ix (Q 6 1) + 1))) rfl (v_iconst h pX4_feed_1 9 rfl ki_1 ?_)))))
        refine v_iaddn h pX4_feed_1 10 (ix (Q 6 1) + 1) 1 rfl (v_puti h pX4_feed_1 11 gX4_193 0 (ws' := mW cI b (E, Kp, Bf, As, up (up (up (up Q 1 (ix (Q 6 1)) ((v >>> ((8 * 1) &&& 31)) &&& 255)) 6 1 (nI (ix (Q 6 1) + 1))) 1 (ix (Q 6 1) + 1) ((v >>> ((8 * 0) &&& 31)) &&& 255)) 6 1 (nI (ix (Q 6 1) + 1 + 1)))) rfl rfl rfl mW_p1 (v_iinc h pX4_feed_1 12 (v := (-1)) (lv' := [(3, .int (-1)), (0, .ref (b 0)), (1, .int v), (2, .int k)]) rfl 0 rfl hnL rfl rfl (by decide) (v_goto (tgt := 41) h pX4_feed_1 13 rfl rfl (v_iload_n h pX4_feed_0 24 rfl 0 rfl rfl ?_))))
        refine v_if_lt (tgt := 80) h pX4_feed_0 25 rfl rfl (fun c9 => ?_) (fun c9 => absurd c9 (by decide))
        refine v_aload_n h pX4_feed_1 14 rfl 1 rfl rfl (v_get h pX4_feed_1 15 fX4_193 0 rfl rfl rfl (v_top (w := .int (nI (ix (Q 6 1) + 1 + 1))) rfl ?_))
        exact v_iret h pX4_feed_1 16 hR hret rfl ((E, Kp, Bf, As, up (up (up (up Q 1 (ix (Q 6 1)) ((v >>> ((8 * 1) &&& 31)) &&& 255)) 6 1 (nI (ix (Q 6 1) + 1))) 1 (ix (Q 6 1) + 1) ((v >>> ((8 * 0) &&& 31)) &&& 255)) 6 1 (nI (ix (Q 6 1) + 1 + 1)))) rfl ⟨vI (by simp [c1, hkl, c6n]), rfl, rfl, (qR_of (by first | (simp [c1, hkl, c6n, True]; done) | (simp only [c1, hkl, c6n, cond_true, if_false]; rfl)))⟩
      · skip
        refine v_aload_n h pX4_feed_0 16 rfl 0 rfl rfl (v_ldc h pX4_feed_0 17 wm_171 rfl ?_)
        refine v_callV h pX4_feed_0 18 mX4_42 (As := [.int (-1000002)]) (st := []) (kX4_finds _ _ cI cS b E Kp Bf As Q 1 (by decide) (-1000002) (by decide)) v0B v0C (vEmb_rf _ _) 0 rfl rfl rfl rfl rfl rfl rfl (vDet_k ?_)
        show V K (mW cI b (E, Kp, Bf, As, fndS Q 1)) 36 [(0, .ref (b 0)), (1, .int v), (2, .int k)] [.int (-1000002)]
        generalize hS10 : fndS Q 1 = S10
        exact v_iret h pX4_feed_0 19 hR hret rfl ((E, Kp, Bf, As, S10)) rfl ⟨vI (by simp [c1, hkl, c6]), rfl, rfl, (qR_of (by first | (simp [c1, hkl, c6, hS10]; done) | (simp only [c1, hkl, c6, cond_true, if_false]; rfl)))⟩
    · skip
      have ekl : k = 3 := by rw [e_k, hkl]; rfl
      refine v_aload_n h pX4_feed_0 10 rfl 0 rfl rfl (v_get h pX4_feed_0 11 fX4_193 0 rfl rfl rfl (v_top (w := .int (nI (ix (Q 6 1)))) (congrArg Value.int hQ.taped) (v_iload_n h pX4_feed_0 12 rfl 2 rfl rfl (v_top (w := .int 3) (congrArg Value.int ekl) (v_iaddn h pX4_feed_0 13 (ix (Q 6 1)) 3 rfl ?_)))))
      refine v_bipush h pX4_feed_0 14 rfl kb_120 ?_
      refine v_ncmp_le (a := ix (Q 6 1) + 3) (b := 120) (tgt := 37) h pX4_feed_0 15 rfl rfl (by omega) (by omega) (fun c11 => ?_) (fun c11 => ?_)
      · skip
        have c11n := Nat.not_lt.mpr c11
        refine v_iload_n h pX4_feed_0 20 rfl 2 rfl rfl (v_top (w := .int 3) (congrArg Value.int ekl) (v_iconst h pX4_feed_0 21 rfl ki_1 (v_isub h pX4_feed_0 22 rfl ?_)))
        refine v_top (w := .int 2) (by decide) (v_istore_n h pX4_feed_0 23 (lv' := [(3, .int 2), (0, .ref (b 0)), (1, .int v), (2, .int k)]) rfl rfl hnL rfl rfl (v_iload_n h pX4_feed_0 24 rfl 0 rfl rfl ?_))
        refine v_if_lt (tgt := 80) h pX4_feed_0 25 rfl rfl (fun c12 => absurd c12 (by decide)) (fun c12 => ?_)
        refine v_aload_n h pX4_feed_0 26 rfl 1 rfl rfl (v_get h pX4_feed_0 27 fX4_25 0 rfl rfl rfl (v_aload_n h pX4_feed_0 28 rfl 1 rfl rfl (v_get h pX4_feed_0 29 fX4_193 0 rfl rfl rfl (v_top (w := .int (nI (ix (Q 6 1)))) (congrArg Value.int hQ.taped) (v_iload_n h pX4_feed_0 30 rfl 2 rfl rfl ?_)))))
        refine v_bipush h pX4_feed_0 31 rfl kb_8 (v_iload_n h pX4_feed_1 0 rfl 0 rfl rfl (v_imul h pX4_feed_1 1 rfl (v_ishr h pX4_feed_1 2 rfl (v_sipush h pX4_feed_1 3 rfl ks_255 (v_iand h pX4_feed_1 4 rfl ?_)))))
        refine v_iast h pX4_feed_1 5 (ix (Q 6 1)) 6 0 (ws' := mW cI b (E, Kp, Bf, As, up Q 1 (ix (Q 6 1)) ((v >>> ((8 * 2) &&& 31)) &&& 255))) rfl rfl rfl rfl rfl (by omega) mW_q1 (v_aload_n h pX4_feed_1 6 rfl 1 rfl rfl (v_dup h pX4_feed_1 7 rfl rfl (v_get h pX4_feed_1 8 fX4_193 0 rfl rfl rfl (v_top (w := .int (nI (ix (Q 6 1)))) (congrArg Value.int hQ.taped) (v_iconst h pX4_feed_1 9 rfl ki_1 ?_)))))
        refine v_iaddn h pX4_feed_1 10 (ix (Q 6 1)) 1 rfl (v_puti h pX4_feed_1 11 gX4_193 0 (ws' := mW cI b (E, Kp, Bf, As, up (up Q 1 (ix (Q 6 1)) ((v >>> ((8 * 2) &&& 31)) &&& 255)) 6 1 (nI (ix (Q 6 1) + 1)))) rfl rfl rfl mW_p1 (v_iinc h pX4_feed_1 12 (v := 1) (lv' := [(3, .int 1), (0, .ref (b 0)), (1, .int v), (2, .int k)]) rfl 0 rfl hnL rfl rfl (by decide) (v_goto (tgt := 41) h pX4_feed_1 13 rfl rfl (v_iload_n h pX4_feed_0 24 rfl 0 rfl rfl ?_))))
        refine v_if_lt (tgt := 80) h pX4_feed_0 25 rfl rfl (fun c13 => absurd c13 (by decide)) (fun c13 => ?_)
        refine v_aload_n h pX4_feed_0 26 rfl 1 rfl rfl (v_get h pX4_feed_0 27 fX4_25 0 rfl rfl rfl (v_aload_n h pX4_feed_0 28 rfl 1 rfl rfl (v_get h pX4_feed_0 29 fX4_193 0 rfl rfl rfl (v_top (w := .int (nI (ix (Q 6 1) + 1))) rfl (v_iload_n h pX4_feed_0 30 rfl 2 rfl rfl ?_)))))
        refine v_bipush h pX4_feed_0 31 rfl kb_8 (v_iload_n h pX4_feed_1 0 rfl 0 rfl rfl (v_imul h pX4_feed_1 1 rfl (v_ishr h pX4_feed_1 2 rfl (v_sipush h pX4_feed_1 3 rfl ks_255 (v_iand h pX4_feed_1 4 rfl ?_)))))
        refine v_iast h pX4_feed_1 5 (ix (Q 6 1) + 1) 6 0 (ws' := mW cI b (E, Kp, Bf, As, up (up (up Q 1 (ix (Q 6 1)) ((v >>> ((8 * 2) &&& 31)) &&& 255)) 6 1 (nI (ix (Q 6 1) + 1))) 1 (ix (Q 6 1) + 1) ((v >>> ((8 * 1) &&& 31)) &&& 255))) rfl rfl rfl rfl rfl (by omega) mW_q1 (v_aload_n h pX4_feed_1 6 rfl 1 rfl rfl (v_dup h pX4_feed_1 7 rfl rfl (v_get h pX4_feed_1 8 fX4_193 0 rfl rfl rfl (v_top (w := .int (nI (ix (Q 6 1) + 1))) rfl (v_iconst h pX4_feed_1 9 rfl ki_1 ?_)))))
        refine v_iaddn h pX4_feed_1 10 (ix (Q 6 1) + 1) 1 rfl (v_puti h pX4_feed_1 11 gX4_193 0 (ws' := mW cI b (E, Kp, Bf, As, up (up (up (up Q 1 (ix (Q 6 1)) ((v >>> ((8 * 2) &&& 31)) &&& 255)) 6 1 (nI (ix (Q 6 1) + 1))) 1 (ix (Q 6 1) + 1) ((v >>> ((8 * 1) &&& 31)) &&& 255)) 6 1 (nI (ix (Q 6 1) + 1 + 1)))) rfl rfl rfl mW_p1 (v_iinc h pX4_feed_1 12 (v := 0) (lv' := [(3, .int 0), (0, .ref (b 0)), (1, .int v), (2, .int k)]) rfl 0 rfl hnL rfl rfl (by decide) (v_goto (tgt := 41) h pX4_feed_1 13 rfl rfl (v_iload_n h pX4_feed_0 24 rfl 0 rfl rfl ?_))))
        refine v_if_lt (tgt := 80) h pX4_feed_0 25 rfl rfl (fun c14 => absurd c14 (by decide)) (fun c14 => ?_)
        refine v_aload_n h pX4_feed_0 26 rfl 1 rfl rfl (v_get h pX4_feed_0 27 fX4_25 0 rfl rfl rfl (v_aload_n h pX4_feed_0 28 rfl 1 rfl rfl (v_get h pX4_feed_0 29 fX4_193 0 rfl rfl rfl (v_top (w := .int (nI (ix (Q 6 1) + 1 + 1))) rfl (v_iload_n h pX4_feed_0 30 rfl 2 rfl rfl ?_)))))
        refine v_bipush h pX4_feed_0 31 rfl kb_8 (v_iload_n h pX4_feed_1 0 rfl 0 rfl rfl (v_imul h pX4_feed_1 1 rfl (v_ishr h pX4_feed_1 2 rfl (v_sipush h pX4_feed_1 3 rfl ks_255 (v_iand h pX4_feed_1 4 rfl ?_)))))
        refine v_iast h pX4_feed_1 5 (ix (Q 6 1) + 1 + 1) 6 0 (ws' := mW cI b (E, Kp, Bf, As, up (up (up (up (up Q 1 (ix (Q 6 1)) ((v >>> ((8 * 2) &&& 31)) &&& 255)) 6 1 (nI (ix (Q 6 1) + 1))) 1 (ix (Q 6 1) + 1) ((v >>> ((8 * 1) &&& 31)) &&& 255)) 6 1 (nI (ix (Q 6 1) + 1 + 1))) 1 (ix (Q 6 1) + 1 + 1) ((v >>> ((8 * 0) &&& 31)) &&& 255))) rfl rfl rfl rfl rfl (by omega) mW_q1 (v_aload_n h pX4_feed_1 6 rfl 1 rfl rfl (v_dup h pX4_feed_1 7 rfl rfl (v_get h pX4_feed_1 8 fX4_193 0 rfl rfl rfl (v_top (w := .int (nI (ix (Q 6 1) + 1 + 1))) rfl (v_iconst h pX4_feed_1 9 rfl ki_1 ?_)))))
        refine v_iaddn h pX4_feed_1 10 (ix (Q 6 1) + 1 + 1) 1 rfl (v_puti h pX4_feed_1 11 gX4_193 0 (ws' := mW cI b (E, Kp, Bf, As, up (up (up (up (up (up Q 1 (ix (Q 6 1)) ((v >>> ((8 * 2) &&& 31)) &&& 255)) 6 1 (nI (ix (Q 6 1) + 1))) 1 (ix (Q 6 1) + 1) ((v >>> ((8 * 1) &&& 31)) &&& 255)) 6 1 (nI (ix (Q 6 1) + 1 + 1))) 1 (ix (Q 6 1) + 1 + 1) ((v >>> ((8 * 0) &&& 31)) &&& 255)) 6 1 (nI (ix (Q 6 1) + 1 + 1 + 1)))) rfl rfl rfl mW_p1 (v_iinc h pX4_feed_1 12 (v := (-1)) (lv' := [(3, .int (-1)), (0, .ref (b 0)), (1, .int v), (2, .int k)]) rfl 0 rfl hnL rfl rfl (by decide) (v_goto (tgt := 41) h pX4_feed_1 13 rfl rfl (v_iload_n h pX4_feed_0 24 rfl 0 rfl rfl ?_))))
        refine v_if_lt (tgt := 80) h pX4_feed_0 25 rfl rfl (fun c15 => ?_) (fun c15 => absurd c15 (by decide))
        refine v_aload_n h pX4_feed_1 14 rfl 1 rfl rfl (v_get h pX4_feed_1 15 fX4_193 0 rfl rfl rfl (v_top (w := .int (nI (ix (Q 6 1) + 1 + 1 + 1))) rfl ?_))
        exact v_iret h pX4_feed_1 16 hR hret rfl ((E, Kp, Bf, As, up (up (up (up (up (up Q 1 (ix (Q 6 1)) ((v >>> ((8 * 2) &&& 31)) &&& 255)) 6 1 (nI (ix (Q 6 1) + 1))) 1 (ix (Q 6 1) + 1) ((v >>> ((8 * 1) &&& 31)) &&& 255)) 6 1 (nI (ix (Q 6 1) + 1 + 1))) 1 (ix (Q 6 1) + 1 + 1) ((v >>> ((8 * 0) &&& 31)) &&& 255)) 6 1 (nI (ix (Q 6 1) + 1 + 1 + 1)))) rfl ⟨vI (by simp [c1, hkl, c11n]), rfl, rfl, (qR_of (by first | (simp [c1, hkl, c11n, True]; done) | (simp only [c1, hkl, c11n, cond_true, if_false]; rfl)))⟩
      · skip
        refine v_aload_n h pX4_feed_0 16 rfl 0 rfl rfl (v_ldc h pX4_feed_0 17 wm_171 rfl ?_)
        refine v_callV h pX4_feed_0 18 mX4_42 (As := [.int (-1000002)]) (st := []) (kX4_finds _ _ cI cS b E Kp Bf As Q 1 (by decide) (-1000002) (by decide)) v0B v0C (vEmb_rf _ _) 0 rfl rfl rfl rfl rfl rfl rfl (vDet_k ?_)
        show V K (mW cI b (E, Kp, Bf, As, fndS Q 1)) 36 [(0, .ref (b 0)), (1, .int v), (2, .int k)] [.int (-1000002)]
        generalize hS16 : fndS Q 1 = S16
        exact v_iret h pX4_feed_0 19 hR hret rfl ((E, Kp, Bf, As, S16)) rfl ⟨vI (by simp [c1, hkl, c11]), rfl, rfl, (qR_of (by first | (simp [c1, hkl, c11, hS16]; done) | (simp only [c1, hkl, c11, cond_true, if_false]; rfl)))⟩
    · skip
      have ekl : k = 4 := by rw [e_k, hkl]; rfl
      refine v_aload_n h pX4_feed_0 10 rfl 0 rfl rfl (v_get h pX4_feed_0 11 fX4_193 0 rfl rfl rfl (v_top (w := .int (nI (ix (Q 6 1)))) (congrArg Value.int hQ.taped) (v_iload_n h pX4_feed_0 12 rfl 2 rfl rfl (v_top (w := .int 4) (congrArg Value.int ekl) (v_iaddn h pX4_feed_0 13 (ix (Q 6 1)) 4 rfl ?_)))))
      refine v_bipush h pX4_feed_0 14 rfl kb_120 ?_
      refine v_ncmp_le (a := ix (Q 6 1) + 4) (b := 120) (tgt := 37) h pX4_feed_0 15 rfl rfl (by omega) (by omega) (fun c17 => ?_) (fun c17 => ?_)
      · skip
        have c17n := Nat.not_lt.mpr c17
        refine v_iload_n h pX4_feed_0 20 rfl 2 rfl rfl (v_top (w := .int 4) (congrArg Value.int ekl) (v_iconst h pX4_feed_0 21 rfl ki_1 (v_isub h pX4_feed_0 22 rfl ?_)))
        refine v_top (w := .int 3) (by decide) (v_istore_n h pX4_feed_0 23 (lv' := [(3, .int 3), (0, .ref (b 0)), (1, .int v), (2, .int k)]) rfl rfl hnL rfl rfl (v_iload_n h pX4_feed_0 24 rfl 0 rfl rfl ?_))
        refine v_if_lt (tgt := 80) h pX4_feed_0 25 rfl rfl (fun c18 => absurd c18 (by decide)) (fun c18 => ?_)
        refine v_aload_n h pX4_feed_0 26 rfl 1 rfl rfl (v_get h pX4_feed_0 27 fX4_25 0 rfl rfl rfl (v_aload_n h pX4_feed_0 28 rfl 1 rfl rfl (v_get h pX4_feed_0 29 fX4_193 0 rfl rfl rfl (v_top (w := .int (nI (ix (Q 6 1)))) (congrArg Value.int hQ.taped) (v_iload_n h pX4_feed_0 30 rfl 2 rfl rfl ?_)))))
        refine v_bipush h pX4_feed_0 31 rfl kb_8 (v_iload_n h pX4_feed_1 0 rfl 0 rfl rfl (v_imul h pX4_feed_1 1 rfl (v_ishr h pX4_feed_1 2 rfl (v_sipush h pX4_feed_1 3 rfl ks_255 (v_iand h pX4_feed_1 4 rfl ?_)))))
        refine v_iast h pX4_feed_1 5 (ix (Q 6 1)) 6 0 (ws' := mW cI b (E, Kp, Bf, As, up Q 1 (ix (Q 6 1)) ((v >>> ((8 * 3) &&& 31)) &&& 255))) rfl rfl rfl rfl rfl (by omega) mW_q1 (v_aload_n h pX4_feed_1 6 rfl 1 rfl rfl (v_dup h pX4_feed_1 7 rfl rfl (v_get h pX4_feed_1 8 fX4_193 0 rfl rfl rfl (v_top (w := .int (nI (ix (Q 6 1)))) (congrArg Value.int hQ.taped) (v_iconst h pX4_feed_1 9 rfl ki_1 ?_)))))
        refine v_iaddn h pX4_feed_1 10 (ix (Q 6 1)) 1 rfl (v_puti h pX4_feed_1 11 gX4_193 0 (ws' := mW cI b (E, Kp, Bf, As, up (up Q 1 (ix (Q 6 1)) ((v >>> ((8 * 3) &&& 31)) &&& 255)) 6 1 (nI (ix (Q 6 1) + 1)))) rfl rfl rfl mW_p1 (v_iinc h pX4_feed_1 12 (v := 2) (lv' := [(3, .int 2), (0, .ref (b 0)), (1, .int v), (2, .int k)]) rfl 0 rfl hnL rfl rfl (by decide) (v_goto (tgt := 41) h pX4_feed_1 13 rfl rfl (v_iload_n h pX4_feed_0 24 rfl 0 rfl rfl ?_))))
        refine v_if_lt (tgt := 80) h pX4_feed_0 25 rfl rfl (fun c19 => absurd c19 (by decide)) (fun c19 => ?_)
        refine v_aload_n h pX4_feed_0 26 rfl 1 rfl rfl (v_get h pX4_feed_0 27 fX4_25 0 rfl rfl rfl (v_aload_n h pX4_feed_0 28 rfl 1 rfl rfl (v_get h pX4_feed_0 29 fX4_193 0 rfl rfl rfl (v_top (w := .int (nI (ix (Q 6 1) + 1))) rfl (v_iload_n h pX4_feed_0 30 rfl 2 rfl rfl ?_)))))
        refine v_bipush h pX4_feed_0 31 rfl kb_8 (v_iload_n h pX4_feed_1 0 rfl 0 rfl rfl (v_imul h pX4_feed_1 1 rfl (v_ishr h pX4_feed_1 2 rfl (v_sipush h pX4_feed_1 3 rfl ks_255 (v_iand h pX4_feed_1 4 rfl ?_)))))
        refine v_iast h pX4_feed_1 5 (ix (Q 6 1) + 1) 6 0 (ws' := mW cI b (E, Kp, Bf, As, up (up (up Q 1 (ix (Q 6 1)) ((v >>> ((8 * 3) &&& 31)) &&& 255)) 6 1 (nI (ix (Q 6 1) + 1))) 1 (ix (Q 6 1) + 1) ((v >>> ((8 * 2) &&& 31)) &&& 255))) rfl rfl rfl rfl rfl (by omega) mW_q1 (v_aload_n h pX4_feed_1 6 rfl 1 rfl rfl (v_dup h pX4_feed_1 7 rfl rfl (v_get h pX4_feed_1 8 fX4_193 0 rfl rfl rfl (v_top (w := .int (nI (ix (Q 6 1) + 1))) rfl (v_iconst h pX4_feed_1 9 rfl ki_1 ?_)))))
        refine v_iaddn h pX4_feed_1 10 (ix (Q 6 1) + 1) 1 rfl (v_puti h pX4_feed_1 11 gX4_193 0 (ws' := mW cI b (E, Kp, Bf, As, up (up (up (up Q 1 (ix (Q 6 1)) ((v >>> ((8 * 3) &&& 31)) &&& 255)) 6 1 (nI (ix (Q 6 1) + 1))) 1 (ix (Q 6 1) + 1) ((v >>> ((8 * 2) &&& 31)) &&& 255)) 6 1 (nI (ix (Q 6 1) + 1 + 1)))) rfl rfl rfl mW_p1 (v_iinc h pX4_feed_1 12 (v := 1) (lv' := [(3, .int 1), (0, .ref (b 0)), (1, .int v), (2, .int k)]) rfl 0 rfl hnL rfl rfl (by decide) (v_goto (tgt := 41) h pX4_feed_1 13 rfl rfl (v_iload_n h pX4_feed_0 24 rfl 0 rfl rfl ?_))))
        refine v_if_lt (tgt := 80) h pX4_feed_0 25 rfl rfl (fun c20 => absurd c20 (by decide)) (fun c20 => ?_)
        refine v_aload_n h pX4_feed_0 26 rfl 1 rfl rfl (v_get h pX4_feed_0 27 fX4_25 0 rfl rfl rfl (v_aload_n h pX4_feed_0 28 rfl 1 rfl rfl (v_get h pX4_feed_0 29 fX4_193 0 rfl rfl rfl (v_top (w := .int (nI (ix (Q 6 1) + 1 + 1))) rfl (v_iload_n h pX4_feed_0 30 rfl 2 rfl rfl ?_)))))
        refine v_bipush h pX4_feed_0 31 rfl kb_8 (v_iload_n h pX4_feed_1 0 rfl 0 rfl rfl (v_imul h pX4_feed_1 1 rfl (v_ishr h pX4_feed_1 2 rfl (v_sipush h pX4_feed_1 3 rfl ks_255 (v_iand h pX4_feed_1 4 rfl ?_)))))
        refine v_iast h pX4_feed_1 5 (ix (Q 6 1) + 1 + 1) 6 0 (ws' := mW cI b (E, Kp, Bf, As, up (up (up (up (up Q 1 (ix (Q 6 1)) ((v >>> ((8 * 3) &&& 31)) &&& 255)) 6 1 (nI (ix (Q 6 1) + 1))) 1 (ix (Q 6 1) + 1) ((v >>> ((8 * 2) &&& 31)) &&& 255)) 6 1 (nI (ix (Q 6 1) + 1 + 1))) 1 (ix (Q 6 1) + 1 + 1) ((v >>> ((8 * 1) &&& 31)) &&& 255))) rfl rfl rfl rfl rfl (by omega) mW_q1 (v_aload_n h pX4_feed_1 6 rfl 1 rfl rfl (v_dup h pX4_feed_1 7 rfl rfl (v_get h pX4_feed_1 8 fX4_193 0 rfl rfl rfl (v_top (w := .int (nI (ix (Q 6 1) + 1 + 1))) rfl (v_iconst h pX4_feed_1 9 rfl ki_1 ?_)))))
        refine v_iaddn h pX4_feed_1 10 (ix (Q 6 1) + 1 + 1) 1 rfl (v_puti h pX4_feed_1 11 gX4_193 0 (ws' := mW cI b (E, Kp, Bf, As, up (up (up (up (up (up Q 1 (ix (Q 6 1)) ((v >>> ((8 * 3) &&& 31)) &&& 255)) 6 1 (nI (ix (Q 6 1) + 1))) 1 (ix (Q 6 1) + 1) ((v >>> ((8 * 2) &&& 31)) &&& 255)) 6 1 (nI (ix (Q 6 1) + 1 + 1))) 1 (ix (Q 6 1) + 1 + 1) ((v >>> ((8 * 1) &&& 31)) &&& 255)) 6 1 (nI (ix (Q 6 1) + 1 + 1 + 1)))) rfl rfl rfl mW_p1 (v_iinc h pX4_feed_1 12 (v := 0) (lv' := [(3, .int 0), (0, .ref (b 0)), (1, .int v), (2, .int k)]) rfl 0 rfl hnL rfl rfl (by decide) (v_goto (tgt := 41) h pX4_feed_1 13 rfl rfl (v_iload_n h pX4_feed_0 24 rfl 0 rfl rfl ?_))))
        refine v_if_lt (tgt := 80) h pX4_feed_0 25 rfl rfl (fun c21 => absurd c21 (by decide)) (fun c21 => ?_)
        refine v_aload_n h pX4_feed_0 26 rfl 1 rfl rfl (v_get h pX4_feed_0 27 fX4_25 0 rfl rfl rfl (v_aload_n h pX4_feed_0 28 rfl 1 rfl rfl (v_get h pX4_feed_0 29 fX4_193 0 rfl rfl rfl (v_top (w := .int (nI (ix (Q 6 1) + 1 + 1 + 1))) rfl (v_iload_n h pX4_feed_0 30 rfl 2 rfl rfl ?_)))))
        refine v_bipush h pX4_feed_0 31 rfl kb_8 (v_iload_n h pX4_feed_1 0 rfl 0 rfl rfl (v_imul h pX4_feed_1 1 rfl (v_ishr h pX4_feed_1 2 rfl (v_sipush h pX4_feed_1 3 rfl ks_255 (v_iand h pX4_feed_1 4 rfl ?_)))))
        refine v_iast h pX4_feed_1 5 (ix (Q 6 1) + 1 + 1 + 1) 6 0 (ws' := mW cI b (E, Kp, Bf, As, up (up (up (up (up (up (up Q 1 (ix (Q 6 1)) ((v >>> ((8 * 3) &&& 31)) &&& 255)) 6 1 (nI (ix (Q 6 1) + 1))) 1 (ix (Q 6 1) + 1) ((v >>> ((8 * 2) &&& 31)) &&& 255)) 6 1 (nI (ix (Q 6 1) + 1 + 1))) 1 (ix (Q 6 1) + 1 + 1) ((v >>> ((8 * 1) &&& 31)) &&& 255)) 6 1 (nI (ix (Q 6 1) + 1 + 1 + 1))) 1 (ix (Q 6 1) + 1 + 1 + 1) ((v >>> ((8 * 0) &&& 31)) &&& 255))) rfl rfl rfl rfl rfl (by omega) mW_q1 (v_aload_n h pX4_feed_1 6 rfl 1 rfl rfl (v_dup h pX4_feed_1 7 rfl rfl (v_get h pX4_feed_1 8 fX4_193 0 rfl rfl rfl (v_top (w := .int (nI (ix (Q 6 1) + 1 + 1 + 1))) rfl (v_iconst h pX4_feed_1 9 rfl ki_1 ?_)))))
        refine v_iaddn h pX4_feed_1 10 (ix (Q 6 1) + 1 + 1 + 1) 1 rfl (v_puti h pX4_feed_1 11 gX4_193 0 (ws' := mW cI b (E, Kp, Bf, As, up (up (up (up (up (up (up (up Q 1 (ix (Q 6 1)) ((v >>> ((8 * 3) &&& 31)) &&& 255)) 6 1 (nI (ix (Q 6 1) + 1))) 1 (ix (Q 6 1) + 1) ((v >>> ((8 * 2) &&& 31)) &&& 255)) 6 1 (nI (ix (Q 6 1) + 1 + 1))) 1 (ix (Q 6 1) + 1 + 1) ((v >>> ((8 * 1) &&& 31)) &&& 255)) 6 1 (nI (ix (Q 6 1) + 1 + 1 + 1))) 1 (ix (Q 6 1) + 1 + 1 + 1) ((v >>> ((8 * 0) &&& 31)) &&& 255)) 6 1 (nI (ix (Q 6 1) + 1 + 1 + 1 + 1)))) rfl rfl rfl mW_p1 (v_iinc h pX4_feed_1 12 (v := (-1)) (lv' := [(3, .int (-1)), (0, .ref (b 0)), (1, .int v), (2, .int k)]) rfl 0 rfl hnL rfl rfl (by decide) (v_goto (tgt := 41) h pX4_feed_1 13 rfl rfl (v_iload_n h pX4_feed_0 24 rfl 0 rfl rfl ?_))))
        refine v_if_lt (tgt := 80) h pX4_feed_0 25 rfl rfl (fun c22 => ?_) (fun c22 => absurd c22 (by decide))
        refine v_aload_n h pX4_feed_1 14 rfl 1 rfl rfl (v_get h pX4_feed_1 15 fX4_193 0 rfl rfl rfl (v_top (w := .int (nI (ix (Q 6 1) + 1 + 1 + 1 + 1))) rfl ?_))
        exact v_iret h pX4_feed_1 16 hR hret rfl ((E, Kp, Bf, As, up (up (up (up (up (up (up (up Q 1 (ix (Q 6 1)) ((v >>> ((8 * 3) &&& 31)) &&& 255)) 6 1 (nI (ix (Q 6 1) + 1))) 1 (ix (Q 6 1) + 1) ((v >>> ((8 * 2) &&& 31)) &&& 255)) 6 1 (nI (ix (Q 6 1) + 1 + 1))) 1 (ix (Q 6 1) + 1 + 1) ((v >>> ((8 * 1) &&& 31)) &&& 255)) 6 1 (nI (ix (Q 6 1) + 1 + 1 + 1))) 1 (ix (Q 6 1) + 1 + 1 + 1) ((v >>> ((8 * 0) &&& 31)) &&& 255)) 6 1 (nI (ix (Q 6 1) + 1 + 1 + 1 + 1)))) rfl ⟨vI (by simp [c1, hkl, c17n]), rfl, rfl, (qR_of (by first | (simp [c1, hkl, c17n, True]; done) | (simp only [c1, hkl, c17n, cond_true, if_false]; rfl)))⟩
      · skip
        refine v_aload_n h pX4_feed_0 16 rfl 0 rfl rfl (v_ldc h pX4_feed_0 17 wm_171 rfl ?_)
        refine v_callV h pX4_feed_0 18 mX4_42 (As := [.int (-1000002)]) (st := []) (kX4_finds _ _ cI cS b E Kp Bf As Q 1 (by decide) (-1000002) (by decide)) v0B v0C (vEmb_rf _ _) 0 rfl rfl rfl rfl rfl rfl rfl (vDet_k ?_)
        show V K (mW cI b (E, Kp, Bf, As, fndS Q 1)) 36 [(0, .ref (b 0)), (1, .int v), (2, .int k)] [.int (-1000002)]
        generalize hS23 : fndS Q 1 = S23
        exact v_iret h pX4_feed_0 19 hR hret rfl ((E, Kp, Bf, As, S23)) rfl ⟨vI (by simp [c1, hkl, c17]), rfl, rfl, (qR_of (by first | (simp [c1, hkl, c17, hS23]; done) | (simp only [c1, hkl, c17, cond_true, if_false]; rfl)))⟩
  · skip
    refine v_aload_n h pX4_feed_0 6 rfl 0 rfl rfl (v_ldc h pX4_feed_0 7 wm_104 rfl ?_)
    refine v_callV h pX4_feed_0 8 mX4_42 (As := [.int (-1000001)]) (st := []) (kX4_finds _ _ cI cS b E Kp Bf As Q 0 (by decide) (-1000001) (by decide)) v0B v0C (vEmb_rf _ _) 0 rfl rfl rfl rfl rfl rfl rfl (vDet_k ?_)
    show V K (mW cI b (E, Kp, Bf, As, fndS Q 0)) 18 [(0, .ref (b 0)), (1, .int v), (2, .int k)] [.int (-1000001)]
    generalize hS24 : fndS Q 0 = S24
    exact v_iret h pX4_feed_0 9 hR hret rfl ((E, Kp, Bf, As, S24)) rfl ⟨vI (by simp [c1]), rfl, rfl, (qR_of (by first | (simp [c1, hS24]; done) | (simp only [c1, cond_true, if_false]; rfl)))⟩
