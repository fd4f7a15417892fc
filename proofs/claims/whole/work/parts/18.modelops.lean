set_option maxHeartbeats 300000 in
set_option maxRecDepth 100000 in
theorem kX4_isLike (l : Launch) (D : va_G) (cI cS : ClassId) (b : Nat → Nat) (E Kp Bf As Q : Nat → Nat → Int32) (n : Nat) (hW : Wf E n) (yb : Nat) (hY : bd (E 9 2) yb) (t y : Nat) (ht : t < 4) (hy : y < 8) (z : Nat) (hs : Q 3 t = nI z) (hz : z ≤ 40) (hk : yb + 41 ≤ 99999) : vDet l D (vT cI cS) yX4_isLike cX4_isLike 6 (some .boolean) 4 89 (mW cI b) [.ref (b 0), .int (nI t), .int (nI y)] (E, Kp, Bf, As, Q) (some (.int (bI (likS n E (numS Q t) y z)))) ((E, Kp, Bf, E, Q)) := by
  refine vMet_of (by decide) rfl ?_
  intro K hl hD hnL hret h hR hEx
  subst hl hD
  show V K (mW cI b (E, Kp, Bf, As, Q)) 0 [(0, .ref (b 0)), (1, .int (nI t)), (2, .int (nI y))] []
  have hn8 := hW.1
  refine v_aload_n h pX4_isLike_0 0 rfl 0 rfl rfl (v_get h pX4_isLike_0 1 fX4_7 0 rfl rfl rfl (v_aload_n h pX4_isLike_0 2 rfl 0 rfl rfl (v_get h pX4_isLike_0 3 fX4_19 0 rfl rfl rfl ?_)))
  refine v_callS h pX4_isLike_0 4 mX4_132 (As := [.ref (b 1), .ref (b 4)]) (st := []) (kX4_copyRow _ _ cI cS (b 1) (b 4) (pr (fl E) (fl As))) v0B v0C emb_14 rfl rfl rfl rfl rfl (vDet_k ?_)
  show V K (mW cI b (E, Kp, Bf, E, Q)) 11 [(0, .ref (b 0)), (1, .int (nI t)), (2, .int (nI y))] []
  refine v_iconst h pX4_isLike_0 5 rfl ki_1 (v_istore_n h pX4_isLike_0 6 (lv' := [(3, .int 1), (0, .ref (b 0)), (1, .int (nI t)), (2, .int (nI y))]) rfl rfl hnL rfl rfl (v_iconst h pX4_isLike_0 7 rfl ki_0 (v_istore h pX4_isLike_0 8 (lv' := [(4, .int 0), (3, .int 1), (0, .ref (b 0)), (1, .int (nI t)), (2, .int (nI y))]) rfl hnL rfl rfl ?_)))
  refine v_lv [2, 3, 4, 1, 0] (lv' := [(0, .ref (b 0)), (1, .int (nI t)), (2, .int (nI y)), (3, .int 1), (4, .int 0)]) rfl ?_
  have LA : ∀ (m iA : Nat), iA ≤ z → (likS n E (numS Q t) y iA = true) → z + 1 ≤ iA + m → V K (mW cI b (yearsS n 0 E iA, Kp, Bf, E, Q)) 16 [(0, .ref (b 0)), (1, .int (nI t)), (2, .int (nI y)), (3, .int 1), (4, .int (nI iA))] [] := by
    intro m
    induction m with
    | zero => exact fun iA h1 hh h2 => absurd h2 (by omega)
    | succ m ihA =>
      intro iA hleA hhA hltA
      have hWSA : Wf (yearsS n 0 E iA) n := (Wf_years hW 0 iA)
      generalize hSA : yearsS n 0 E iA = SA at hWSA ⊢
      have hYA : bd (SA 9 2) (yb + iA) := by rw [← hSA]; exact years_bd hY _ (by omega)
      refine v_iload h pX4_isLike_0 9 rfl 4 rfl (v_aload_n h pX4_isLike_0 10 rfl 0 rfl rfl (v_get h pX4_isLike_0 11 fX4_31 0 rfl rfl rfl (v_iload_n h pX4_isLike_0 12 rfl 1 rfl rfl (v_iald h pX4_isLike_0 13 t 8 0 rfl rfl rfl rfl rfl (by omega) (v_top (w := .int (nI z)) (congrArg Value.int hs) ?_)))))
      refine v_ncmp_ge (a := iA) (b := z) (tgt := 79) h pX4_isLike_0 14 rfl rfl (by omega) (by omega) (fun c3 => ?_) (fun c3 => ?_)
      · skip
        refine v_aload_n h pX4_isLike_1 12 rfl 0 rfl rfl (v_get h pX4_isLike_1 13 fX4_19 0 rfl rfl rfl (v_aload_n h pX4_isLike_1 14 rfl 0 rfl rfl (v_get h pX4_isLike_1 15 fX4_7 0 rfl rfl rfl ?_)))
        refine v_callS h pX4_isLike_1 16 mX4_132 (As := [.ref (b 4), .ref (b 1)]) (st := []) (kX4_copyRow _ _ cI cS (b 4) (b 1) (pr (fl E) (fl SA))) v0B v0C emb_41 rfl rfl rfl rfl rfl (vDet_k ?_)
        show V K (mW cI b (E, Kp, Bf, E, Q)) 90 [(0, .ref (b 0)), (1, .int (nI t)), (2, .int (nI y)), (3, .int 1), (4, .int (nI iA))] []
        refine v_iload_n h pX4_isLike_1 17 rfl 3 rfl rfl ?_
        exact v_zret h pX4_isLike_1 18 (Or.inr rfl) hR hret rfl ((E, Kp, Bf, E, Q)) rfl ⟨vI (by first | (rw [show iA = z by omega] at hhA; rw [hhA]; rfl) | (rw [likS_no (k := iA) (by rw [likB, hSA]; simp [numS, c3]) (by omega)]; rfl)), rfl⟩
      · skip
        refine v_iload_n h pX4_isLike_0 15 rfl 3 rfl rfl ?_
        refine v_if_eq (tgt := 79) h pX4_isLike_0 16 rfl rfl (fun c4 => absurd c4 (by decide)) (fun c4 => ?_)
        refine v_aload_n h pX4_isLike_0 17 rfl 0 rfl rfl (v_get h pX4_isLike_0 18 fX4_34 0 rfl rfl rfl (v_bipush h pX4_isLike_0 19 rfl kb_40 (v_iload_n h pX4_isLike_0 20 rfl 1 rfl rfl (v_imuln h pX4_isLike_0 21 40 t rfl (v_iload h pX4_isLike_0 22 rfl 4 rfl ?_)))))
        refine v_iaddn h pX4_isLike_0 23 (40 * t) iA rfl (v_iald h pX4_isLike_0 24 (40 * t + iA) 9 0 rfl rfl rfl rfl rfl (by omega) (v_istore h pX4_isLike_0 25 (lv' := [(5, .int (Q 4 (40 * t + iA))), (0, .ref (b 0)), (1, .int (nI t)), (2, .int (nI y)), (3, .int 1), (4, .int (nI iA))]) rfl hnL rfl rfl (v_iload h pX4_isLike_0 26 rfl 0 rfl (v_iconst h pX4_isLike_0 27 rfl ki_m1 ?_))))
        refine v_icmp_eq (tgt := 62) h pX4_isLike_0 28 rfl rfl (fun c5 => ?_) (fun c5 => ?_)
        · skip
          refine v_iconst h pX4_isLike_1 3 rfl ki_1 (v_goto (tgt := 67) h pX4_isLike_1 4 rfl rfl (v_istore_n h pX4_isLike_1 6 (lv' := [(3, .int 1), (5, .int (Q 4 (40 * t + iA))), (0, .ref (b 0)), (1, .int (nI t)), (2, .int (nI y)), (4, .int (nI iA))]) rfl rfl hnL rfl rfl (v_aload_n h pX4_isLike_1 7 rfl 2 rfl rfl (v_iconst h pX4_isLike_1 8 rfl ki_0 ?_))))
          refine v_callV h pX4_isLike_1 9 mX4_111 (As := [.int 0]) (st := []) (kX4_yearBut _ _ cI cS b SA Kp Bf E Q n hWSA (yb + iA) hYA (by omega) 0) v0B v0C (vEmb_rf _ _) 0 rfl rfl rfl rfl rfl rfl rfl (vDet_k ?_)
          show V K (mW cI b (yearS n 0 SA, Kp, Bf, E, Q)) 73 [(3, .int 1), (5, .int (Q 4 (40 * t + iA))), (0, .ref (b 0)), (1, .int (nI t)), (2, .int (nI y)), (4, .int (nI iA))] []
          have hWS6 : Wf (yearS n 0 SA) n := (Wf_year hWSA _)
          generalize hS6 : yearS n 0 SA = S6 at hWS6 ⊢
          refine v_iinc h pX4_isLike_1 10 (v := nI (iA + 1)) (lv' := [(4, .int (nI (iA + 1))), (3, .int 1), (5, .int (Q 4 (40 * t + iA))), (0, .ref (b 0)), (1, .int (nI t)), (2, .int (nI y))]) rfl 5 rfl hnL rfl rfl (nI_1 iA) (v_goto (tgt := 16) h pX4_isLike_1 11 rfl rfl (v_lv [3, 4, 5, 1, 0] (lv' := [(0, .ref (b 0)), (1, .int (nI t)), (2, .int (nI y)), (3, .int 1), (4, .int (nI (iA + 1)))]) rfl (v_eqw (ws' := mW cI b (yearsS n 0 E (iA + 1), Kp, Bf, E, Q)) (by subst hS6; rw [yearsS, hSA]) ?_)))
          exact ihA (iA + 1) (by omega) (by rw [likS, hhA, likB, hSA]; simp [numS, c3, (eq_true c5)]) (by omega)
        · skip
          refine v_iload h pX4_isLike_0 29 rfl 0 rfl (v_aload_n h pX4_isLike_0 30 rfl 1 rfl rfl (v_iload_n h pX4_isLike_0 31 rfl 3 rfl rfl (v_iconst h pX4_isLike_1 0 rfl ki_3 ?_)))
          refine v_callV h pX4_isLike_1 1 mX4_64 (As := [.int (nI y), .int 3]) (st := [.int (Q 4 (40 * t + iA))]) (kX4_its _ _ cI cS b SA Kp Bf E Q y 3 (by omega) (by omega)) v0B v0C (vEmb_rf _ _) 0 rfl rfl rfl rfl rfl rfl rfl (vDet_k ?_)
          show V K (mW cI b (SA, Kp, Bf, E, Q)) 59 [(5, .int (Q 4 (40 * t + iA))), (0, .ref (b 0)), (1, .int (nI t)), (2, .int (nI y)), (3, .int 1), (4, .int (nI iA))] [.int (SA 5 y), .int (Q 4 (40 * t + iA))]
          refine v_icmp_ne (tgt := 66) h pX4_isLike_1 2 rfl rfl (fun c7 => ?_) (fun c7 => ?_)
          · skip
            refine v_iconst h pX4_isLike_1 5 rfl ki_0 (v_istore_n h pX4_isLike_1 6 (lv' := [(3, .int 0), (5, .int (Q 4 (40 * t + iA))), (0, .ref (b 0)), (1, .int (nI t)), (2, .int (nI y)), (4, .int (nI iA))]) rfl rfl hnL rfl rfl (v_aload_n h pX4_isLike_1 7 rfl 2 rfl rfl (v_iconst h pX4_isLike_1 8 rfl ki_0 ?_)))
            refine v_callV h pX4_isLike_1 9 mX4_111 (As := [.int 0]) (st := []) (kX4_yearBut _ _ cI cS b SA Kp Bf E Q n hWSA (yb + iA) hYA (by omega) 0) v0B v0C (vEmb_rf _ _) 0 rfl rfl rfl rfl rfl rfl rfl (vDet_k ?_)
            show V K (mW cI b (yearS n 0 SA, Kp, Bf, E, Q)) 73 [(3, .int 0), (5, .int (Q 4 (40 * t + iA))), (0, .ref (b 0)), (1, .int (nI t)), (2, .int (nI y)), (4, .int (nI iA))] []
            have hWS8 : Wf (yearS n 0 SA) n := (Wf_year hWSA _)
            generalize hS8 : yearS n 0 SA = S8 at hWS8 ⊢
            refine v_iinc h pX4_isLike_1 10 (v := nI (iA + 1)) (lv' := [(4, .int (nI (iA + 1))), (3, .int 0), (5, .int (Q 4 (40 * t + iA))), (0, .ref (b 0)), (1, .int (nI t)), (2, .int (nI y))]) rfl 5 rfl hnL rfl rfl (nI_1 iA) (v_goto (tgt := 16) h pX4_isLike_1 11 rfl rfl (v_iload h pX4_isLike_0 9 rfl 0 rfl (v_aload_n h pX4_isLike_0 10 rfl 3 rfl rfl (v_get h pX4_isLike_0 11 fX4_31 0 rfl rfl rfl (v_iload_n h pX4_isLike_0 12 rfl 4 rfl rfl ?_)))))
            refine v_iald h pX4_isLike_0 13 t 8 0 rfl rfl rfl rfl rfl (by omega) (v_top (w := .int (nI z)) (congrArg Value.int hs) ?_)
            refine v_ncmp_ge (a := iA + 1) (b := z) (tgt := 79) h pX4_isLike_0 14 rfl rfl (by omega) (by omega) (fun c9 => ?_) (fun c9 => ?_)
            · skip
              refine v_aload_n h pX4_isLike_1 12 rfl 3 rfl rfl (v_get h pX4_isLike_1 13 fX4_19 0 rfl rfl rfl (v_aload_n h pX4_isLike_1 14 rfl 3 rfl rfl (v_get h pX4_isLike_1 15 fX4_7 0 rfl rfl rfl ?_)))
              refine v_callS h pX4_isLike_1 16 mX4_132 (As := [.ref (b 4), .ref (b 1)]) (st := []) (kX4_copyRow _ _ cI cS (b 4) (b 1) (pr (fl E) (fl S8))) v0B v0C emb_41 rfl rfl rfl rfl rfl (vDet_k ?_)
              show V K (mW cI b (E, Kp, Bf, E, Q)) 90 [(4, .int (nI (iA + 1))), (3, .int 0), (5, .int (Q 4 (40 * t + iA))), (0, .ref (b 0)), (1, .int (nI t)), (2, .int (nI y))] []
              refine v_iload_n h pX4_isLike_1 17 rfl 1 rfl rfl ?_
              exact v_zret h pX4_isLike_1 18 (Or.inl rfl) hR hret rfl ((E, Kp, Bf, E, Q)) rfl ⟨vI (by first | (rw [show iA = z by omega] at hhA; rw [hhA]; rfl) | (rw [likS_no (k := iA) (by rw [likB, hSA]; simp [numS, c3, c5, c7, c9]) (by omega)]; rfl)), rfl⟩
            · skip
              refine v_iload_n h pX4_isLike_0 15 rfl 1 rfl rfl ?_
              refine v_if_eq (tgt := 79) h pX4_isLike_0 16 rfl rfl (fun c10 => ?_) (fun c10 => absurd c10 (by decide))
              refine v_aload_n h pX4_isLike_1 12 rfl 3 rfl rfl (v_get h pX4_isLike_1 13 fX4_19 0 rfl rfl rfl (v_aload_n h pX4_isLike_1 14 rfl 3 rfl rfl (v_get h pX4_isLike_1 15 fX4_7 0 rfl rfl rfl ?_)))
              refine v_callS h pX4_isLike_1 16 mX4_132 (As := [.ref (b 4), .ref (b 1)]) (st := []) (kX4_copyRow _ _ cI cS (b 4) (b 1) (pr (fl E) (fl S8))) v0B v0C emb_41 rfl rfl rfl rfl rfl (vDet_k ?_)
              show V K (mW cI b (E, Kp, Bf, E, Q)) 90 [(4, .int (nI (iA + 1))), (3, .int 0), (5, .int (Q 4 (40 * t + iA))), (0, .ref (b 0)), (1, .int (nI t)), (2, .int (nI y))] []
              refine v_iload_n h pX4_isLike_1 17 rfl 1 rfl rfl ?_
              exact v_zret h pX4_isLike_1 18 (Or.inl rfl) hR hret rfl ((E, Kp, Bf, E, Q)) rfl ⟨vI (by first | (rw [show iA = z by omega] at hhA; rw [hhA]; rfl) | (rw [likS_no (k := iA) (by rw [likB, hSA]; simp [numS, c3, c5, c7, c9]) (by omega)]; rfl)), rfl⟩
          · skip
            refine v_iconst h pX4_isLike_1 3 rfl ki_1 (v_goto (tgt := 67) h pX4_isLike_1 4 rfl rfl (v_istore_n h pX4_isLike_1 6 (lv' := [(3, .int 1), (5, .int (Q 4 (40 * t + iA))), (0, .ref (b 0)), (1, .int (nI t)), (2, .int (nI y)), (4, .int (nI iA))]) rfl rfl hnL rfl rfl (v_aload_n h pX4_isLike_1 7 rfl 2 rfl rfl (v_iconst h pX4_isLike_1 8 rfl ki_0 ?_))))
            refine v_callV h pX4_isLike_1 9 mX4_111 (As := [.int 0]) (st := []) (kX4_yearBut _ _ cI cS b SA Kp Bf E Q n hWSA (yb + iA) hYA (by omega) 0) v0B v0C (vEmb_rf _ _) 0 rfl rfl rfl rfl rfl rfl rfl (vDet_k ?_)
            show V K (mW cI b (yearS n 0 SA, Kp, Bf, E, Q)) 73 [(3, .int 1), (5, .int (Q 4 (40 * t + iA))), (0, .ref (b 0)), (1, .int (nI t)), (2, .int (nI y)), (4, .int (nI iA))] []
            have hWS11 : Wf (yearS n 0 SA) n := (Wf_year hWSA _)
            generalize hS11 : yearS n 0 SA = S11 at hWS11 ⊢
            refine v_iinc h pX4_isLike_1 10 (v := nI (iA + 1)) (lv' := [(4, .int (nI (iA + 1))), (3, .int 1), (5, .int (Q 4 (40 * t + iA))), (0, .ref (b 0)), (1, .int (nI t)), (2, .int (nI y))]) rfl 5 rfl hnL rfl rfl (nI_1 iA) (v_goto (tgt := 16) h pX4_isLike_1 11 rfl rfl (v_lv [3, 4, 5, 1, 0] (lv' := [(0, .ref (b 0)), (1, .int (nI t)), (2, .int (nI y)), (3, .int 1), (4, .int (nI (iA + 1)))]) rfl (v_eqw (ws' := mW cI b (yearsS n 0 E (iA + 1), Kp, Bf, E, Q)) (by subst hS11; rw [yearsS, hSA]) ?_)))
            exact ihA (iA + 1) (by omega) (by rw [likS, hhA, likB, hSA]; simp [numS, c3, c5, (eq_true c7)]) (by omega)
  exact LA (z + 1) 0 (by omega) rfl (by omega)
