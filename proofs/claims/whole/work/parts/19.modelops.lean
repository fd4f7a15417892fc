set_option maxHeartbeats 300000 in
set_option maxRecDepth 100000 in
theorem kX4_draw (l : Launch) (D : va_G) (cI cS : ClassId) (b : Nat → Nat) (E Kp Bf As Q : Nat → Nat → Int32)  : vDet l D (vT cI cS) yX4_draw cX4_draw 1 (some .int) 0 0 (mW cI b) [.ref (b 0)] (E, Kp, Bf, As, Q) (some (.int (drwV (drwZ (E 9 3))))) ((up E 9 3 (drwZ (E 9 3)), Kp, Bf, As, Q)) := by
  refine vMet_of (by decide) rfl ?_
  intro K hl hD hnL hret h hR hEx
  subst hl hD
  show V K (mW cI b (E, Kp, Bf, As, Q)) 0 [(0, .ref (b 0))] []
  refine v_aload_n h pX4_draw_0 0 rfl 0 rfl rfl (v_get h pX4_draw_0 1 fX4_7 0 rfl rfl rfl (v_iconst h pX4_draw_0 2 rfl ki_2 (v_aload_n h pX4_draw_0 3 rfl 0 rfl rfl (v_get h pX4_draw_0 4 fX4_7 0 rfl rfl rfl (v_iconst h pX4_draw_0 5 rfl ki_2 ?_)))))
  refine v_iald h pX4_draw_0 6 2 1 0 rfl rfl rfl rfl rfl (by omega) (v_top (w := .int (E 9 3)) (congrArg Value.int rfl) (v_ldc h pX4_draw_0 7 wm_635 rfl (v_imul h pX4_draw_0 8 rfl (v_sipush h pX4_draw_0 9 rfl ks_12345 (v_iadd h pX4_draw_0 10 rfl ?_)))))
  refine v_iast h pX4_draw_0 11 2 1 0 (ws' := mW cI b (up E 9 3 (((E 9 3) * 1103515245) + 12345), Kp, Bf, As, Q)) rfl rfl rfl rfl rfl (by omega) (mW_s 2 9 3 rfl rfl) (v_aload_n h pX4_draw_0 12 rfl 0 rfl rfl (v_get h pX4_draw_0 13 fX4_7 0 rfl rfl rfl (v_iconst h pX4_draw_0 14 rfl ki_2 (v_iald h pX4_draw_0 15 2 1 0 rfl rfl rfl rfl rfl (by omega) (v_top (w := .int ((up E 9 3 (((E 9 3) * 1103515245) + 12345)) 9 3)) (congrArg Value.int rfl) ?_)))))
  refine v_top (w := .int (((E 9 3) * 1103515245) + 12345)) rfl (v_bipush h pX4_draw_0 16 rfl kb_8 (v_iushr h pX4_draw_0 17 rfl ?_))
  exact v_iret h pX4_draw_0 18 hR hret rfl ((up E 9 3 (((E 9 3) * 1103515245) + 12345), Kp, Bf, As, Q)) rfl ⟨vI (by rfl), rfl⟩
set_option maxHeartbeats 300000 in
set_option maxRecDepth 100000 in
theorem kX4_storms (l : Launch) (D : va_G) (cI cS : ClassId) (b : Nat → Nat) (E Kp Bf As Q : Nat → Nat → Int32) (n : Nat) (hW : Wf E n) (yb : Nat) (hY : bd (E 9 2) yb) (hyb : yb ≤ 99000) (k : Int32) : vMet l D (vT cI cS) yX4_storms cX4_storms 5 (some .int) 4 89 (mW cI b) v0 [.ref (b 0), .int k] (E, Kp, Bf, As, Q) (mPost (some (.int (cond (inB k 1 20) (if 99999 < E 9 2 + k then (-1000005) else sumS (stmsS n E (ix k) 5) n) ((-1000001))))) (cond (inB k 1 20) (if 99999 < E 9 2 + k then E else stmsS n E (ix k)) (E)) (Kp) (cond (inB k 1 20) (if 99999 < E 9 2 + k then fndS Q 4 else Q) (fndS Q 0))) := by
  refine vMet_of (by decide) rfl ?_
  intro K hl hD hnL hret h hR hEx
  subst hl hD
  show V K (mW cI b (E, Kp, Bf, As, Q)) 0 [(0, .ref (b 0)), (1, .int k)] []
  have hn8 := hW.1
  refine v_iload_n h pX4_storms_0 0 rfl 1 rfl rfl (v_i2l h pX4_storms_0 1 rfl (v_lconst (v := (nI 1).toInt64) h pX4_storms_0 2 rfl kl_1 (v_ldc2 h pX4_storms_0 3 wm_503 rfl (v_top (w := .long (nI 20).toInt64) (kL 20 _ (by decide)) ?_))))
  refine v_callS h pX4_storms_0 4 mX4_50 (As := [.long k.toInt64, .long ((nI 1).toInt64), .long ((nI 20).toInt64)]) (st := []) (kX4_isIn _ _ cI cS k 1 20) v0B v0C (vEmb_u _) rfl rfl rfl rfl rfl (vDet_k ?_)
  show V K (mW cI b (E, Kp, Bf, As, Q)) 9 [(0, .ref (b 0)), (1, .int k)] [.int (bI (inB k 1 20))]
  refine v_bif_ne (tgt := 19) h pX4_storms_0 5 rfl rfl (fun c1 => ?_) (fun c1 => ?_)
  · skip
    obtain ⟨e_k, l_k⟩ := inBl_t 1 20 rfl rfl (by decide) (by decide) c1
    refine v_aload_n h pX4_storms_0 10 rfl 0 rfl rfl (v_get h pX4_storms_0 11 fX4_7 0 rfl rfl rfl (v_iconst h pX4_storms_0 12 rfl ki_1 (v_iald h pX4_storms_0 13 1 1 0 rfl rfl rfl rfl rfl (by omega) (v_top (w := .int (E 9 2)) (congrArg Value.int rfl) (v_iload_n h pX4_storms_0 14 rfl 1 rfl rfl ?_)))))
    refine v_iadd h pX4_storms_0 15 rfl (v_ldc h pX4_storms_0 16 wm_311 rfl ?_)
    refine v_icmp_le2 (tgt := 39) h pX4_storms_0 17 rfl rfl (fun c2 => ?_) (fun c2 => ?_)
    · skip
      refine v_iconst h pX4_storms_0 22 rfl ki_0 (v_istore_n h pX4_storms_0 23 (lv' := [(2, .int 0), (0, .ref (b 0)), (1, .int k)]) rfl rfl hnL rfl rfl ?_)
      refine v_lv [1, 2, 0] (lv' := [(0, .ref (b 0)), (1, .int k), (2, .int 0)]) rfl ?_
      have LA : ∀ (m iA : Nat), iA ≤ (ix k) → (True) → (ix k) + 1 ≤ iA + m → V K (mW cI b (stmsS n E iA, Kp, Bf, As, Q)) 41 [(0, .ref (b 0)), (1, .int k), (2, .int (nI iA))] [] := by
        intro m
        induction m with
        | zero => exact fun iA h1 hh h2 => absurd h2 (by omega)
        | succ m ihA =>
          intro iA hleA hhA hltA
          have hWSA : Wf (stmsS n E iA) n := (Wf_stms hW iA)
          generalize hSA : stmsS n E iA = SA at hWSA ⊢
          have hYA : bd (SA 9 2) (yb + iA) := by rw [← hSA]; exact stms_bd hY _ (by omega)
          refine v_iload_n h pX4_storms_0 24 rfl 2 rfl rfl (v_iload_n h pX4_storms_0 25 rfl 1 rfl rfl (v_top (w := .int (nI (ix k))) (congrArg Value.int e_k) ?_))
          refine v_ncmp_ge (a := iA) (b := ix k) (tgt := 94) h pX4_storms_0 26 rfl rfl (by omega) (by omega) (fun c5 => ?_) (fun c5 => ?_)
          · skip
            obtain rfl : (ix k) = iA := by omega
            refine v_aload_n h pX4_storms_1 21 rfl 0 rfl rfl (v_iconst h pX4_storms_1 22 rfl ki_3 ?_)
            refine v_callV h pX4_storms_1 23 mX4_122 (As := [.int 3]) (st := []) (kX4_sumOf _ _ cI cS b SA Kp Bf As Q n hWSA 3 (by omega)) v0B v0C (vEmb_rf _ _) 0 rfl rfl rfl rfl rfl rfl rfl (vDet_k ?_)
            show V K (mW cI b (SA, Kp, Bf, As, Q)) 99 [(0, .ref (b 0)), (1, .int k), (2, .int (nI ((ix k))))] [.int (sumS (SA 5) n)]
            exact v_iret h pX4_storms_1 24 hR hret rfl ((SA, Kp, Bf, As, Q)) rfl ⟨vI (by simp [c1, c2, c5, hSA, -Int32.not_lt]), (by simp [c1, c2, c5, hSA, -Int32.not_lt]), rfl, (qR_of (by simp [c1, c2, c5, hSA, -Int32.not_lt]))⟩
          · skip
            refine v_aload_n h pX4_storms_0 27 rfl 0 rfl rfl ?_
            refine v_callV h pX4_storms_0 28 mX4_186 (As := []) (st := []) (kX4_draw _ _ cI cS b SA Kp Bf As Q) v0B v0C (vEmb_rf _ _) 0 rfl rfl rfl rfl rfl rfl rfl (vDet_k ?_)
            show V K (mW cI b (up SA 9 3 (drwZ (SA 9 3)), Kp, Bf, As, Q)) 50 [(0, .ref (b 0)), (1, .int k), (2, .int (nI iA))] [.int (drwV (drwZ (SA 9 3)))]
            refine v_bipush h pX4_storms_0 29 rfl kb_8 (v_irem2 h pX4_storms_0 30 rfl (by decide) ?_)
            generalize hyy : rem (drwV (drwZ (SA 9 3))) 8 = y
            refine v_istore_n h pX4_storms_0 31 (lv' := [(3, .int y), (0, .ref (b 0)), (1, .int k), (2, .int (nI iA))]) rfl rfl hnL rfl rfl (v_aload_n h pX4_storms_1 0 rfl 1 rfl rfl ?_)
            refine v_callV h pX4_storms_1 1 mX4_186 (As := []) (st := []) (kX4_draw _ _ cI cS b (up SA 9 3 (drwZ (SA 9 3))) Kp Bf As Q) v0B v0C (vEmb_rf _ _) 0 rfl rfl rfl rfl rfl rfl rfl (vDet_k ?_)
            show V K (mW cI b (up (up SA 9 3 (drwZ (SA 9 3))) 9 3 (drwZ (drwZ (SA 9 3))), Kp, Bf, As, Q)) 58 [(3, .int y), (0, .ref (b 0)), (1, .int k), (2, .int (nI iA))] [.int (drwV (drwZ (drwZ (SA 9 3))))]
            refine v_bipush h pX4_storms_1 2 rfl kb_6 (v_irem2 h pX4_storms_1 3 rfl (by decide) ?_)
            generalize hbd1 : rem (drwV (drwZ (drwZ (SA 9 3)))) 6 = bd1
            refine v_istore h pX4_storms_1 4 (lv' := [(4, .int bd1), (3, .int y), (0, .ref (b 0)), (1, .int k), (2, .int (nI iA))]) rfl hnL rfl rfl ?_
            have hbb : bd bd1 5 := by rw [← hbd1]; exact drw_bd _ 6 (by decide) (by decide)
            refine v_aload_n h pX4_storms_1 5 rfl 2 rfl rfl (v_iload_n h pX4_storms_1 6 rfl 1 rfl rfl ?_)
            refine v_callV h pX4_storms_1 7 mX4_88 (As := [.int y]) (st := []) (kX4_isOyster _ _ cI cS b (up (up SA 9 3 (drwZ (SA 9 3))) 9 3 (drwZ (drwZ (SA 9 3)))) Kp Bf As Q n (Wf_up9 (Wf_up9 hWSA (by decide)) (by decide)).2.1 y) v0B v0C (vEmb_rf _ _) 0 rfl rfl rfl rfl rfl rfl rfl (vDet_k ?_)
            show V K (mW cI b (up (up SA 9 3 (drwZ (SA 9 3))) 9 3 (drwZ (drwZ (SA 9 3))), Kp, Bf, As, Q)) 68 [(4, .int bd1), (3, .int y), (0, .ref (b 0)), (1, .int k), (2, .int (nI iA))] [.int (bI (oyB y n))]
            refine v_bif_eq (tgt := 83) h pX4_storms_1 8 rfl rfl (fun c6 => ?_) (fun c6 => ?_)
            · skip
              refine v_aload_n h pX4_storms_1 16 rfl 2 rfl rfl (v_iconst h pX4_storms_1 17 rfl ki_0 ?_)
              refine v_callV h pX4_storms_1 18 mX4_111 (As := [.int 0]) (st := []) (kX4_yearBut _ _ cI cS b (up (up SA 9 3 (drwZ (SA 9 3))) 9 3 (drwZ (drwZ (SA 9 3)))) Kp Bf As Q n (Wf_up9 (Wf_up9 hWSA (by decide)) (by decide)) (yb + iA) hYA (by omega) 0) v0B v0C (vEmb_rf _ _) 0 rfl rfl rfl rfl rfl rfl rfl (vDet_k ?_)
              show V K (mW cI b (yearS n 0 (up (up SA 9 3 (drwZ (SA 9 3))) 9 3 (drwZ (drwZ (SA 9 3)))), Kp, Bf, As, Q)) 88 [(4, .int bd1), (3, .int y), (0, .ref (b 0)), (1, .int k), (2, .int (nI iA))] []
              have hWS7 : Wf (yearS n 0 (up (up SA 9 3 (drwZ (SA 9 3))) 9 3 (drwZ (drwZ (SA 9 3))))) n := (Wf_year (Wf_up9 (Wf_up9 hWSA (by decide)) (by decide)) _)
              generalize hS7 : yearS n 0 (up (up SA 9 3 (drwZ (SA 9 3))) 9 3 (drwZ (drwZ (SA 9 3)))) = S7 at hWS7 ⊢
              refine v_iinc h pX4_storms_1 19 (v := nI (iA + 1)) (lv' := [(2, .int (nI (iA + 1))), (4, .int bd1), (3, .int y), (0, .ref (b 0)), (1, .int k)]) rfl 4 rfl hnL rfl rfl (nI_1 iA) (v_goto (tgt := 41) h pX4_storms_1 20 rfl rfl (v_lv [3, 4, 0] (lv' := [(0, .ref (b 0)), (1, .int k), (2, .int (nI (iA + 1)))]) rfl (v_eqw (ws' := mW cI b (stmsS n E (iA + 1), Kp, Bf, As, Q)) (by subst hS7; subst hbd1; subst hyy; rw [stmsS, hSA]; simp [stmS, c1, c2, c5, c6]; try rfl) ?_)))
              exact ihA (iA + 1) (by omega) (trivial) (by omega)
            · skip
              obtain ⟨e_y, l_y⟩ := oyB_t hn8 c6
              refine v_aload_n h pX4_storms_1 9 rfl 2 rfl rfl (v_get h pX4_storms_1 10 fX4_7 0 rfl rfl rfl (v_iload_n h pX4_storms_1 11 rfl 1 rfl rfl (v_top (w := .int (nI (ix y))) (congrArg Value.int e_y) (v_iconst h pX4_storms_1 12 rfl ki_1 ?_))))
              refine v_callS h pX4_storms_1 13 mX4_69 (As := [.int (nI (ix y)), .int 1]) (st := [.ref (b 1)]) (kX4_at _ _ cI cS (ix y) 1) v0B v0C (vEmb_u _) rfl rfl rfl rfl rfl (vDet_k ?_)
              show V K (mW cI b (up (up SA 9 3 (drwZ (SA 9 3))) 9 3 (drwZ (drwZ (SA 9 3))), Kp, Bf, As, Q)) 80 [(4, .int bd1), (3, .int y), (0, .ref (b 0)), (1, .int k), (2, .int (nI iA))] [.int (nI (16 + 6 * (ix y) + 1)), .ref (b 1)]
              refine v_iload h pX4_storms_1 14 rfl 0 rfl (v_iast h pX4_storms_1 15 (16 + 6 * (ix y) + 1) 1 0 (ws' := mW cI b (up (up (up SA 9 3 (drwZ (SA 9 3))) 9 3 (drwZ (drwZ (SA 9 3)))) 3 (ix y) bd1, Kp, Bf, As, Q)) rfl rfl rfl rfl rfl (by omega) (mW_s (16 + 6 * (ix y) + 1) 3 (ix y) (flR_y (by omega) (by omega)) (flI_y (by omega) (by omega))) ?_)
              refine v_aload_n h pX4_storms_1 16 rfl 2 rfl rfl (v_iconst h pX4_storms_1 17 rfl ki_0 ?_)
              refine v_callV h pX4_storms_1 18 mX4_111 (As := [.int 0]) (st := []) (kX4_yearBut _ _ cI cS b (up (up (up SA 9 3 (drwZ (SA 9 3))) 9 3 (drwZ (drwZ (SA 9 3)))) 3 (ix y) bd1) Kp Bf As Q n (Wf_up3 (Wf_up9 (Wf_up9 hWSA (by decide)) (by decide)) hbb) (yb + iA) hYA (by omega) 0) v0B v0C (vEmb_rf _ _) 0 rfl rfl rfl rfl rfl rfl rfl (vDet_k ?_)
              show V K (mW cI b (yearS n 0 (up (up (up SA 9 3 (drwZ (SA 9 3))) 9 3 (drwZ (drwZ (SA 9 3)))) 3 (ix y) bd1), Kp, Bf, As, Q)) 88 [(4, .int bd1), (3, .int y), (0, .ref (b 0)), (1, .int k), (2, .int (nI iA))] []
              have hWS8 : Wf (yearS n 0 (up (up (up SA 9 3 (drwZ (SA 9 3))) 9 3 (drwZ (drwZ (SA 9 3)))) 3 (ix y) bd1)) n := (Wf_year (Wf_up3 (Wf_up9 (Wf_up9 hWSA (by decide)) (by decide)) hbb) _)
              generalize hS8 : yearS n 0 (up (up (up SA 9 3 (drwZ (SA 9 3))) 9 3 (drwZ (drwZ (SA 9 3)))) 3 (ix y) bd1) = S8 at hWS8 ⊢
              refine v_iinc h pX4_storms_1 19 (v := nI (iA + 1)) (lv' := [(2, .int (nI (iA + 1))), (4, .int bd1), (3, .int y), (0, .ref (b 0)), (1, .int k)]) rfl 4 rfl hnL rfl rfl (nI_1 iA) (v_goto (tgt := 41) h pX4_storms_1 20 rfl rfl (v_lv [3, 4, 0] (lv' := [(0, .ref (b 0)), (1, .int k), (2, .int (nI (iA + 1)))]) rfl (v_eqw (ws' := mW cI b (stmsS n E (iA + 1), Kp, Bf, As, Q)) (by subst hS8; subst hbd1; subst hyy; rw [stmsS, hSA]; simp [stmS, c1, c2, c5, c6]; try rfl) ?_)))
              exact ihA (iA + 1) (by omega) (trivial) (by omega)
      exact LA ((ix k) + 1) 0 (by omega) trivial (by omega)
    · skip
      refine v_aload_n h pX4_storms_0 18 rfl 0 rfl rfl (v_ldc h pX4_storms_0 19 wm_312 rfl ?_)
      refine v_callV h pX4_storms_0 20 mX4_42 (As := [.int (-1000005)]) (st := []) (kX4_finds _ _ cI cS b E Kp Bf As Q 4 (by decide) (-1000005) (by decide)) v0B v0C (vEmb_rf _ _) 0 rfl rfl rfl rfl rfl rfl rfl (vDet_k ?_)
      show V K (mW cI b (E, Kp, Bf, As, fndS Q 4)) 38 [(0, .ref (b 0)), (1, .int k)] [.int (-1000005)]
      generalize hS9 : fndS Q 4 = S9
      exact v_iret h pX4_storms_0 21 hR hret rfl ((E, Kp, Bf, As, S9)) rfl ⟨vI (by simp [c1, c2, hS9, -Int32.not_lt]), (by simp [c1, c2, hS9, -Int32.not_lt]), rfl, (qR_of (by simp [c1, c2, hS9, -Int32.not_lt]))⟩
  · skip
    refine v_aload_n h pX4_storms_0 6 rfl 0 rfl rfl (v_ldc h pX4_storms_0 7 wm_104 rfl ?_)
    refine v_callV h pX4_storms_0 8 mX4_42 (As := [.int (-1000001)]) (st := []) (kX4_finds _ _ cI cS b E Kp Bf As Q 0 (by decide) (-1000001) (by decide)) v0B v0C (vEmb_rf _ _) 0 rfl rfl rfl rfl rfl rfl rfl (vDet_k ?_)
    show V K (mW cI b (E, Kp, Bf, As, fndS Q 0)) 18 [(0, .ref (b 0)), (1, .int k)] [.int (-1000001)]
    generalize hS10 : fndS Q 0 = S10
    exact v_iret h pX4_storms_0 9 hR hret rfl ((E, Kp, Bf, As, S10)) rfl ⟨vI (by simp [c1, hS10, -Int32.not_lt]), (by simp [c1, hS10, -Int32.not_lt]), rfl, (qR_of (by simp [c1, hS10, -Int32.not_lt]))⟩
