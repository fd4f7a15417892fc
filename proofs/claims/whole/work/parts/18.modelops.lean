set_option maxHeartbeats 300000 in
set_option maxRecDepth 100000 in
theorem kX4_isLike (l : Launch) (D : va_G) (cI cS : ClassId) (b : Nat → Nat) (E Kp Bf As Q : Nat → Nat → Int32) (n : Nat) (hW : Wf E n) (yb : Nat) (hY : bd (E 9 2) yb) (t y : Nat) (ht : t < 4) (hy : y < 8) (z : Nat) (hs : Q 3 t = nI z) (hz : z ≤ 40) (hk : yb + 41 ≤ 99999) : vDet l D (vT cI cS) yX4_isLike cX4_isLike 6 (some .boolean) 4 89 (mW cI b) [.ref (b 0), .int (nI t), .int (nI y)] (E, Kp, Bf, As, Q) (some (.int (bI (likS n E (numS Q t) y z)))) ((E, Kp, Bf, E, Q)) := by
  refine vMet_of (by decide) rfl ?_
  intro K hl hD hnL hret h hR hEx
  subst hl hD
  show V K (mW cI b (E, Kp, Bf, As, Q)) 0 [(0, .ref (b 0)), (1, .int (nI t)), (2, .int (nI y))] []
  have hn8 := hW.1
  refine v_aload_n h pX4_isLike_0 0 rfl 0 rfl rfl (v_get h pX4_isLike_0 1 fX4_7 0 rfl rfl rfl (v_aload_n h pX4_isLike_0 2 rfl 0 rfl rfl (v_get h pX4_isLike_0 3 fX4_19 0 rfl rfl rfl ?_)))
  refine v_callS h pX4_isLike_0 4 mX4_132 (As := [.ref (b 1), .ref (b 4)]) (st := []) (kX4_copyRow _ _ cI cS (b 1) (b 4) (pr (fl E) (fl As))) v0B v0C emb_14 rfl rfl rfl rfl rfl (vDet_k ?_)
  show V K (mW cI b (E, Kp, Bf, E, Q)) 11 [(0, .ref (b 0)), (1, .int (nI t)), (2, .int (nI y))] []
  refine v_iconst h pX4_isLike_0 5 rfl ki_1 (v_istore_n h pX4_isLike_0 6 (lv' := [(3, .int 1), (0, .ref (b 0)), (1, .int (nI t)), (2, .int (nI y))]) rfl rfl hnL rfl rfl (v_iconst h pX4_isLike_0 7 rfl ki_0 (v_istore h pX4_isLike_0 8 (lv' := [(4, .int 0), (3, .int 1), (0, .ref (b 0)), (1, .int (nI t)), (2, .int (nI y))]) rfl hnL rfl rfl ?_)))
  refine v_lv [2, 3, 4, 1, 0] (lv' := [(0, .ref (b 0)), (1, .int (nI t)), (2, .int (nI y)), (3, .int 1), (4, .int 0)]) rfl ?_
  have LA : ∀ (m iA : Nat), iA ≤ z → (likS n E (numS Q t) y iA = true) → z + 1 ≤ iA + m → V K (mW cI b (yearsS n 0 E iA, Kp, Bf, E, Q)) 16 [(0, .ref (b 0)), (1, .int (nI t)), (2, .int (nI y)), (3, .int 1), (4, .int (nI iA))] [] := by
    intro m
    induction m with
    | zero => exact fun iA h1 hh h2 => absurd h2 (by omega)
    | succ m ihA =>
      intro iA hleA hhA hltA
      have hWSA : Wf (yearsS n 0 E iA) n := (Wf_years hW 0 iA)
      generalize hSA : yearsS n 0 E iA = SA at hWSA ⊢
      have hYA : bd (SA 9 2) (yb + iA) := by rw [← hSA]; exact years_bd hY _ (by omega)
      refine v_iload h pX4_isLike_0 9 rfl 4 rfl (v_aload_n h pX4_isLike_0 10 rfl 0 rfl rfl (v_get h pX4_isLike_0 11 fX4_31 0 rfl rfl rfl (v_iload_n h pX4_isLike_0 12 rfl 1 rfl rfl (v_iald h pX4_isLike_0 13 t 8 0 rfl rfl rfl rfl rfl (by omega) (v_top (w := .int (nI z)) (congrArg Value.int hs) ?_)))))
      refine v_ncmp_ge (a := iA) (b := z) (tgt := 79) h pX4_isLike_0 14 rfl rfl (by omega) (by omega) (fun c3 => ?_) (fun c3 => ?_)
      · skip
        refine v_aload_n h pX4_isLike_1 12 rfl 0 rfl rfl (v_get h pX4_isLike_1 13 fX4_19 0 rfl rfl rfl (v_aload_n h pX4_isLike_1 14 rfl 0 rfl rfl (v_get h pX4_isLike_1 15 fX4_7 0 rfl rfl rfl ?_)))
        refine v_callS h pX4_isLike_1 16 mX4_132 (As := [.ref (b 4), .ref (b 1)]) (st := []) (kX4_copyRow _ _ cI cS (b 4) (b 1) (pr (fl E) (fl SA))) v0B v0C emb_41 rfl rfl rfl rfl rfl (vDet_k ?_)
        show V K (mW cI b (E, Kp, Bf, E, Q)) 90 [(0, .ref (b 0)), (1, .int (nI t)), (2, .int (nI y)), (3, .int 1), (4, .int (nI iA))] []
        refine v_iload_n h pX4_isLike_1 17 rfl 3 rfl rfl ?_
        exact v_zret h pX4_isLike_1 18 (Or.inr rfl) hR hret rfl ((E, Kp, Bf, E, Q)) rfl ⟨vI (by first | (rw [show iA = z by omega] at hhA; rw [hhA]; rfl) | (rw [likS_no (k := iA) (by rw [likB, hSA]; simp [numS, c3]) (by omega)]; rfl)), rfl⟩
      · skip
        refine v_iload_n h pX4_isLike_0 15 rfl 3 rfl rfl ?_
        refine v_if_eq (tgt := 79) h pX4_isLike_0 16 rfl rfl (fun c4 => absurd c4 (by decide)) (fun c4 => ?_)
        refine v_aload_n h pX4_isLike_0 17 rfl 0 rfl rfl (v_get h pX4_isLike_0 18 fX4_34 0 rfl rfl rfl (v_bipush h pX4_isLike_0 19 rfl kb_40 (v_iload_n h pX4_isLike_0 20 rfl 1 rfl rfl (v_imuln h pX4_isLike_0 21 40 t rfl (v_iload h pX4_isLike_0 22 rfl 4 rfl ?_)))))
        refine v_iaddn h pX4_isLike_0 23 (40 * t) iA rfl (v_iald h pX4_isLike_0 24 (40 * t + iA) 9 0 rfl rfl rfl rfl rfl (by omega) (v_istore h pX4_isLike_0 25 (lv' := [(5, .int (Q 4 (40 * t + iA))), (0, .ref (b 0)), (1, .int (nI t)), (2, .int (nI y)), (3, .int 1), (4, .int (nI iA))]) rfl hnL rfl rfl (v_iload h pX4_isLike_0 26 rfl 0 rfl (v_iconst h pX4_isLike_0 27 rfl ki_m1 ?_))))
        refine v_icmp_eq (tgt := 62) h pX4_isLike_0 28 rfl rfl (fun c5 => ?_) (fun c5 => ?_)
        · skip
          refine v_iconst h pX4_isLike_1 3 rfl ki_1 (v_goto (tgt := 67) h pX4_isLike_1 4 rfl rfl (v_istore_n h pX4_isLike_1 6 (lv' := [(3, .int 1), (5, .int (Q 4 (40 * t + iA))), (0, .ref (b 0)), (1, .int (nI t)), (2, .int (nI y)), (4, .int (nI iA))]) rfl rfl hnL rfl rfl (v_aload_n h pX4_isLike_1 7 rfl 2 rfl rfl (v_iconst h pX4_isLike_1 8 rfl ki_0 ?_))))
          refine v_callV h pX4_isLike_1 9 mX4_111 (As := [.int 0]) (st := []) (kX4_yearBut _ _ cI cS b SA Kp Bf E Q n hWSA (yb + iA) hYA (by omega) 0) v0B v0C (vEmb_rf _ _) 0 rfl rfl rfl rfl rfl rfl rfl (vDet_k ?_)
          show V K (mW cI b (yearS n 0 SA, Kp, Bf, E, Q)) 73 [(3, .int 1), (5, .int (Q 4 (40 * t + iA))), (0, .ref (b 0)), (1, .int (nI t)), (2, .int (nI y)), (4, .int (nI iA))] []
          have hWS6 : Wf (yearS n 0 SA) n := (Wf_year hWSA _)
          generalize hS6 : yearS n 0 SA = S6 at hWS6 ⊢
          refine v_iinc h pX4_isLike_1 10 (v := nI (iA + 1)) (lv' := [(4, .int (nI (iA + 1))), (3, .int 1), (5, .int (Q 4 (40 * t + iA))), (0, .ref (b 0)), (1, .int (nI t)), (2, .int (nI y))]) rfl 5 rfl hnL rfl rfl (nI_1 iA) (v_goto (tgt := 16) h pX4_isLike_1 11 rfl rfl (v_lv [3, 4, 5, 1, 0] (lv' := [(0, .ref (b 0)), (1, .int (nI t)), (2, .int (nI y)), (3, .int 1), (4, .int (nI (iA + 1)))]) rfl (v_eqw (ws' := mW cI b (yearsS n 0 E (iA + 1), Kp, Bf, E, Q)) (by subst hS6; rw [yearsS, hSA]) ?_)))
          exact ihA (iA + 1) (by omega) (by rw [likS, hhA, likB, hSA]; simp [numS, c3, (eq_true c5)]) (by omega)
        · skip
          refine v_iload h pX4_isLike_0 29 rfl 0 rfl (v_aload_n h pX4_isLike_0 30 rfl 1 rfl rfl (v_iload_n h pX4_isLike_0 31 rfl 3 rfl rfl (v_iconst h pX4_isLike_1 0 rfl ki_3 ?_)))
          refine v_callV h pX4_isLike_1 1 mX4_64 (As := [.int (nI y), .int 3]) (st := [.int (Q 4 (40 * t + iA))]) (kX4_its _ _ cI cS b SA Kp Bf E Q y 3 (by omega) (by omega)) v0B v0C (vEmb_rf _ _) 0 rfl rfl rfl rfl rfl rfl rfl (vDet_k ?_)
          show V K (mW cI b (SA, Kp, Bf, E, Q)) 59 [(5, .int (Q 4 (40 * t + iA))), (0, .ref (b 0)), (1, .int (nI t)), (2, .int (nI y)), (3, .int 1), (4, .int (nI iA))] [.int (SA 5 y), .int (Q 4 (40 * t + iA))]
          refine v_icmp_ne (tgt := 66) h pX4_isLike_1 2 rfl rfl (fun c7 => ?_) (fun c7 => ?_)
          · skip
            refine v_iconst h pX4_isLike_1 5 rfl ki_0 (v_istore_n h pX4_isLike_1 6 (lv' := [(3, .int 0), (5, .int (Q 4 (40 * t + iA))), (0, .ref (b 0)), (1, .int (nI t)), (2, .int (nI y)), (4, .int (nI iA))]) rfl rfl hnL rfl rfl (v_aload_n h pX4_isLike_1 7 rfl 2 rfl rfl (v_iconst h pX4_isLike_1 8 rfl ki_0 ?_)))
            refine v_callV h pX4_isLike_1 9 mX4_111 (As := [.int 0]) (st := []) (kX4_yearBut _ _ cI cS b SA Kp Bf E Q n hWSA (yb + iA) hYA (by omega) 0) v0B v0C (vEmb_rf _ _) 0 rfl rfl rfl rfl rfl rfl rfl (vDet_k ?_)
            show V K (mW cI b (yearS n 0 SA, Kp, Bf, E, Q)) 73 [(3, .int 0), (5, .int (Q 4 (40 * t + iA))), (0, .ref (b 0)), (1, .int (nI t)), (2, .int (nI y)), (4, .int (nI iA))] []
            have hWS8 : Wf (yearS n 0 SA) n := (Wf_year hWSA _)
            generalize hS8 : yearS n 0 SA = S8 at hWS8 ⊢
            refine v_iinc h pX4_isLike_1 10 (v := nI (iA + 1)) (lv' := [(4, .int (nI (iA + 1))), (3, .int 0), (5, .int (Q 4 (40 * t + iA))), (0, .ref (b 0)), (1, .int (nI t)), (2, .int (nI y))]) rfl 5 rfl hnL rfl rfl (nI_1 iA) (v_goto (tgt := 16) h pX4_isLike_1 11 rfl rfl (v_iload h pX4_isLike_0 9 rfl 0 rfl (v_aload_n h pX4_isLike_0 10 rfl 3 rfl rfl (v_get h pX4_isLike_0 11 fX4_31 0 rfl rfl rfl (v_iload_n h pX4_isLike_0 12 rfl 4 rfl rfl ?_)))))
            refine v_iald h pX4_isLike_0 13 t 8 0 rfl rfl rfl rfl rfl (by omega) (v_top (w := .int (nI z)) (congrArg Value.int hs) ?_)
            refine v_ncmp_ge (a := iA + 1) (b := z) (tgt := 79) h pX4_isLike_0 14 rfl rfl (by omega) (by omega) (fun c9 => ?_) (fun c9 => ?_)
            · skip
              refine v_aload_n h pX4_isLike_1 12 rfl 3 rfl rfl (v_get h pX4_isLike_1 13 fX4_19 0 rfl rfl rfl (v_aload_n h pX4_isLike_1 14 rfl 3 rfl rfl (v_get h pX4_isLike_1 15 fX4_7 0 rfl rfl rfl ?_)))
              refine v_callS h pX4_isLike_1 16 mX4_132 (As := [.ref (b 4), .ref (b 1)]) (st := []) (kX4_copyRow _ _ cI cS (b 4) (b 1) (pr (fl E) (fl S8))) v0B v0C emb_41 rfl rfl rfl rfl rfl (vDet_k ?_)
              show V K (mW cI b (E, Kp, Bf, E, Q)) 90 [(4, .int (nI (iA + 1))), (3, .int 0), (5, .int (Q 4 (40 * t + iA))), (0, .ref (b 0)), (1, .int (nI t)), (2, .int (nI y))] []
              refine v_iload_n h pX4_isLike_1 17 rfl 1 rfl rfl ?_
              exact v_zret h pX4_isLike_1 18 (Or.inl rfl) hR hret rfl ((E, Kp, Bf, E, Q)) rfl ⟨vI (by first | (rw [show iA = z by omega] at hhA; rw [hhA]; rfl) | (rw [likS_no (k := iA) (by rw [likB, hSA]; simp [numS, c3, c5, c7, c9]) (by omega)]; rfl)), rfl⟩
            · skip
              refine v_iload_n h pX4_isLike_0 15 rfl 1 rfl rfl ?_
              refine v_if_eq (tgt := 79) h pX4_isLike_0 16 rfl rfl (fun c10 => ?_) (fun c10 => absurd c10 (by decide))
              refine v_aload_n h pX4_isLike_1 12 rfl 3 rfl rfl (v_get h pX4_isLike_1 13 fX4_19 0 rfl rfl rfl (v_aload_n h pX4_isLike_1 14 rfl 3 rfl rfl (v_get h pX4_isLike_1 15 fX4_7 0 rfl rfl rfl ?_)))
              refine v_callS h pX4_isLike_1 16 mX4_132 (As := [.ref (b 4), .ref (b 1)]) (st := []) (kX4_copyRow _ _ cI cS (b 4) (b 1) (pr (fl E) (fl S8))) v0B v0C emb_41 rfl rfl rfl rfl rfl (vDet_k ?_)
              show V K (mW cI b (E, Kp, Bf, E, Q)) 90 [(4, .int (nI (iA + 1))), (3, .int 0), (5, .int (Q 4 (40 * t + iA))), (0, .ref (b 0)), (1, .int (nI t)), (2, .int (nI y))] []
              refine v_iload_n h pX4_isLike_1 17 rfl 1 rfl rfl ?_
              exact v_zret h pX4_isLike_1 18 (Or.inl rfl) hR hret rfl ((E, Kp, Bf, E, Q)) rfl ⟨vI (by first | (rw [show iA = z by omega] at hhA; rw [hhA]; rfl) | (rw [likS_no (k := iA) (by rw [likB, hSA]; simp [numS, c3, c5, c7, c9]) (by omega)]; rfl)), rfl⟩
          · skip
            refine v_iconst h pX4_isLike_1 3 rfl ki_1 (v_goto (tgt := 67) h pX4_isLike_1 4 rfl rfl (v_istore_n h pX4_isLike_1 6 (lv' := [(3, .int 1), (5, .int (Q 4 (40 * t + iA))), (0, .ref (b 0)), (1, .int (nI t)), (2, .int (nI y)), (4, .int (nI iA))]) rfl rfl hnL rfl rfl (v_aload_n h pX4_isLike_1 7 rfl 2 rfl rfl (v_iconst h pX4_isLike_1 8 rfl ki_0 ?_))))
            refine v_callV h pX4_isLike_1 9 mX4_111 (As := [.int 0]) (st := []) (kX4_yearBut _ _ cI cS b SA Kp Bf E Q n hWSA (yb + iA) hYA (by omega) 0) v0B v0C (vEmb_rf _ _) 0 rfl rfl rfl rfl rfl rfl rfl (vDet_k ?_)
            show V K (mW cI b (yearS n 0 SA, Kp, Bf, E, Q)) 73 [(3, .int 1), (5, .int (Q 4 (40 * t + iA))), (0, .ref (b 0)), (1, .int (nI t)), (2, .int (nI y)), (4, .int (nI iA))] []
            have hWS11 : Wf (yearS n 0 SA) n := (Wf_year hWSA _)
            generalize hS11 : yearS n 0 SA = S11 at hWS11 ⊢
            refine v_iinc h pX4_isLike_1 10 (v := nI (iA + 1)) (lv' := [(4, .int (nI (iA + 1))), (3, .int 1), (5, .int (Q 4 (40 * t + iA))), (0, .ref (b 0)), (1, .int (nI t)), (2, .int (nI y))]) rfl 5 rfl hnL rfl rfl (nI_1 iA) (v_goto (tgt := 16) h pX4_isLike_1 11 rfl rfl (v_lv [3, 4, 5, 1, 0] (lv' := [(0, .ref (b 0)), (1, .int (nI t)), (2, .int (nI y)), (3, .int 1), (4, .int (nI (iA + 1)))]) rfl (v_eqw (ws' := mW cI b (yearsS n 0 E (iA + 1), Kp, Bf, E, Q)) (by subst hS11; rw [yearsS, hSA]) ?_)))
            exact ihA (iA + 1) (by omega) (by rw [likS, hhA, likB, hSA]; simp [numS, c3, c5, (eq_true c7)]) (by omega)
  exact LA (z + 1) 0 (by omega) rfl (by omega)
set_option maxHeartbeats 300000 in
set_option maxRecDepth 100000 in
theorem kX4_findsFits (l : Launch) (D : va_G) (cI cS : ClassId) (b : Nat → Nat) (E Kp Bf As Q : Nat → Nat → Int32) (n : Nat) (hW : Wf E n) (yb : Nat) (hY : bd (E 9 2) yb) (t y : Nat) (ht : t < 4) (hy : y < 8) (z : Nat) (hs : Q 3 t = nI z) (hz : z ≤ 40) (hk : yb + 41 ≤ 99999) : vMet l D (vT cI cS) yX4_findsFits cX4_findsFits 5 none 5 114 (mW cI b) v0 [.ref (b 0), .int (nI t), .int (nI y)] (E, Kp, Bf, As, Q) (mRel none E Kp Bf (up (up Q 6 2 (nI (cntU (fun v => likS n (up E 4 y (nI v)) (numS Q t) y z) 99))) 6 3 (lfD (fun v => likS n (up E 4 y (nI v)) (numS Q t) y z) (Q 6 3) 99))) := by
  refine vMet_of (by decide) rfl ?_
  intro K hl hD hnL hret h hR hEx
  subst hl hD
  show V K (mW cI b (E, Kp, Bf, As, Q)) 0 [(0, .ref (b 0)), (1, .int (nI t)), (2, .int (nI y))] []
  have hn8 := hW.1
  refine v_aload_n h pX4_findsFits_0 0 rfl 0 rfl rfl (v_iload_n h pX4_findsFits_0 1 rfl 2 rfl rfl (v_iconst h pX4_findsFits_0 2 rfl ki_2 ?_))
  refine v_callV h pX4_findsFits_0 3 mX4_64 (As := [.int (nI y), .int 2]) (st := []) (kX4_its _ _ cI cS b E Kp Bf As Q y 2 (by omega) (by omega)) v0B v0C (vEmb_rf _ _) 0 rfl rfl rfl rfl rfl rfl rfl (vDet_k ?_)
  show V K (mW cI b (E, Kp, Bf, As, Q)) 6 [(0, .ref (b 0)), (1, .int (nI t)), (2, .int (nI y))] [.int (E 4 y)]
  refine v_istore_n h pX4_findsFits_0 4 (lv' := [(3, .int (E 4 y)), (0, .ref (b 0)), (1, .int (nI t)), (2, .int (nI y))]) rfl rfl hnL rfl rfl (v_aload_n h pX4_findsFits_0 5 rfl 1 rfl rfl (v_iconst h pX4_findsFits_0 6 rfl ki_0 (v_puti h pX4_findsFits_0 7 gX4_166 0 (ws' := mW cI b (E, Kp, Bf, As, up Q 6 2 0)) rfl rfl rfl mW_p2 ?_)))
  refine v_eqw (ws' := mW cI b (up E 4 y (E 4 y), Kp, Bf, As, up (up Q 6 2 (nI 0)) 6 3 (Q 6 3))) (by rw [up_id]; exact congrArg (fun q => mW cI b (E, Kp, Bf, As, q)) (upQ_0 Q 0)) ?_
  refine v_bipush h pX4_findsFits_0 8 rfl kb_99 (v_istore h pX4_findsFits_0 9 (lv' := [(4, .int 99), (3, .int (E 4 y)), (0, .ref (b 0)), (1, .int (nI t)), (2, .int (nI y))]) rfl hnL rfl rfl ?_)
  refine v_lv [2, 3, 4, 1, 0] (lv' := [(0, .ref (b 0)), (1, .int (nI t)), (2, .int (nI y)), (3, .int (E 4 y)), (4, .int 99)]) rfl ?_
  have LA : ∀ (v c : Nat) (x x2 : Int32) (A : Nat → Nat → Int32), v + c ≤ 99 → c + cntU (fun v => likS n (up E 4 y (nI v)) (numS Q t) y z) v = cntU (fun v => likS n (up E 4 y (nI v)) (numS Q t) y z) 99 → lfD (fun v => likS n (up E 4 y (nI v)) (numS Q t) y z) x2 v = lfD (fun v => likS n (up E 4 y (nI v)) (numS Q t) y z) (Q 6 3) 99 → V K (mW cI b (up E 4 y x, Kp, Bf, A, up (up Q 6 2 (nI c)) 6 3 x2)) 16 [(0, .ref (b 0)), (1, .int (nI t)), (2, .int (nI y)), (3, .int (E 4 y)), (4, .int (nI v))] [] := by
    intro v
    induction v with
    | zero =>
      intro c x x2 A hv hc hx
      have hc : c = cntU (fun v => likS n (up E 4 y (nI v)) (numS Q t) y z) 99 := hc
      have hx : x2 = lfD (fun v => likS n (up E 4 y (nI v)) (numS Q t) y z) (Q 6 3) 99 := hx
      subst hc hx
      show V K (mW cI b (up E 4 y x, Kp, Bf, A, up (up Q 6 2 (nI (cntU (fun v => likS n (up E 4 y (nI v)) (numS Q t) y z) 99))) 6 3 (lfD (fun v => likS n (up E 4 y (nI v)) (numS Q t) y z) (Q 6 3) 99))) 16 [(0, .ref (b 0)), (1, .int (nI t)), (2, .int (nI y)), (3, .int (E 4 y)), (4, .int 0)] []
      refine v_iload h pX4_findsFits_0 10 rfl 4 rfl ?_
      refine v_if_le2 (tgt := 64) h pX4_findsFits_0 11 rfl rfl (fun c0 => ?_) (fun c0 => absurd c0 (by decide))
      refine v_aload_n h pX4_findsFits_1 3 rfl 0 rfl rfl (v_get h pX4_findsFits_1 4 fX4_7 0 rfl rfl rfl (v_iload_n h pX4_findsFits_1 5 rfl 2 rfl rfl (v_iconst h pX4_findsFits_1 6 rfl ki_2 ?_)))
      refine v_callS h pX4_findsFits_1 7 mX4_69 (As := [.int (nI y), .int 2]) (st := [.ref (b 1)]) (kX4_at _ _ cI cS y 2) v0B v0C (vEmb_u _) rfl rfl rfl rfl rfl (vDet_k ?_)
      show V K (mW cI b (up E 4 y x, Kp, Bf, A, up (up Q 6 2 (nI (cntU (fun v => likS n (up E 4 y (nI v)) (numS Q t) y z) 99))) 6 3 (lfD (fun v => likS n (up E 4 y (nI v)) (numS Q t) y z) (Q 6 3) 99))) 73 [(0, .ref (b 0)), (1, .int (nI t)), (2, .int (nI y)), (3, .int (E 4 y)), (4, .int 0)] [.int (nI (16 + 6 * y + 2)), .ref (b 1)]
      refine v_iload_n h pX4_findsFits_1 8 rfl 3 rfl rfl (v_iast h pX4_findsFits_1 9 (16 + 6 * y + 2) 1 0 (ws' := mW cI b (up (up E 4 y x) 4 y (E 4 y), Kp, Bf, A, up (up Q 6 2 (nI (cntU (fun v => likS n (up E 4 y (nI v)) (numS Q t) y z) 99))) 6 3 (lfD (fun v => likS n (up E 4 y (nI v)) (numS Q t) y z) (Q 6 3) 99))) rfl rfl rfl rfl rfl (by omega) (mW_s (16 + 6 * y + 2) 4 y (flR_y (by omega) (by omega)) (flI_y (by omega) (by omega))) ?_)
      refine v_eqw (ws' := mW cI b (E, Kp, Bf, A, up (up Q 6 2 (nI (cntU (fun v => likS n (up E 4 y (nI v)) (numS Q t) y z) 99))) 6 3 (lfD (fun v => likS n (up E 4 y (nI v)) (numS Q t) y z) (Q 6 3) 99))) (by rw [up_bk]) ?_
      exact v_vret h pX4_findsFits_1 10 hR hret rfl ((E, Kp, Bf, A, up (up Q 6 2 (nI (cntU (fun v => likS n (up E 4 y (nI v)) (numS Q t) y z) 99))) 6 3 (lfD (fun v => likS n (up E 4 y (nI v)) (numS Q t) y z) (Q 6 3) 99))) rfl ⟨rfl, _, rfl⟩
    | succ v ihA =>
      intro c x x2 A hv hc hx
      refine v_iload h pX4_findsFits_0 10 rfl 4 rfl ?_
      refine v_nif_le (a := v + 1) (tgt := 64) h pX4_findsFits_0 11 rfl rfl (by omega) (fun c0 => absurd c0 (by omega)) (fun c0 => ?_)
      refine v_aload_n h pX4_findsFits_0 12 rfl 0 rfl rfl (v_get h pX4_findsFits_0 13 fX4_7 0 rfl rfl rfl (v_iload_n h pX4_findsFits_0 14 rfl 2 rfl rfl (v_iconst h pX4_findsFits_0 15 rfl ki_2 ?_)))
      refine v_callS h pX4_findsFits_0 16 mX4_69 (As := [.int (nI y), .int 2]) (st := [.ref (b 1)]) (kX4_at _ _ cI cS y 2) v0B v0C (vEmb_u _) rfl rfl rfl rfl rfl (vDet_k ?_)
      show V K (mW cI b (up E 4 y x, Kp, Bf, A, up (up Q 6 2 (nI c)) 6 3 x2)) 30 [(0, .ref (b 0)), (1, .int (nI t)), (2, .int (nI y)), (3, .int (E 4 y)), (4, .int (nI (v + 1)))] [.int (nI (16 + 6 * y + 2)), .ref (b 1)]
      refine v_iload h pX4_findsFits_0 17 rfl 4 rfl (v_iast h pX4_findsFits_0 18 (16 + 6 * y + 2) 1 0 (ws' := mW cI b (up (up E 4 y x) 4 y (nI (v + 1)), Kp, Bf, A, up (up Q 6 2 (nI c)) 6 3 x2)) rfl rfl rfl rfl rfl (by omega) (mW_s (16 + 6 * y + 2) 4 y (flR_y (by omega) (by omega)) (flI_y (by omega) (by omega))) ?_)
      refine v_eqw (ws' := mW cI b (up E 4 y (nI (v + 1)), Kp, Bf, A, up (up Q 6 2 (nI c)) 6 3 x2)) (by rw [up_up]) (v_aload_n h pX4_findsFits_0 19 rfl 0 rfl rfl (v_iload_n h pX4_findsFits_0 20 rfl 1 rfl rfl (v_iload_n h pX4_findsFits_0 21 rfl 2 rfl rfl ?_)))
      refine v_callV h pX4_findsFits_0 22 mX4_170 (As := [.int (nI t), .int (nI y)]) (st := []) (kX4_isLike _ _ cI cS b (up E 4 y (nI (v + 1))) Kp Bf A (up (up Q 6 2 (nI c)) 6 3 x2) n (Wf_upw hW (by omega)) yb hY t y (by omega) (by omega) z hs (by omega) (by omega)) v0B v0C (vEmb_rf _ _) 0 rfl rfl rfl rfl rfl rfl rfl (vDet_k ?_)
      show V K (mW cI b (up E 4 y (nI (v + 1)), Kp, Bf, up E 4 y (nI (v + 1)), up (up Q 6 2 (nI c)) 6 3 x2)) 39 [(0, .ref (b 0)), (1, .int (nI t)), (2, .int (nI y)), (3, .int (E 4 y)), (4, .int (nI (v + 1)))] [.int (bI (likS n (up E 4 y (nI (v + 1))) (numS Q t) y z))]
      refine v_bif_eq (tgt := 58) h pX4_findsFits_0 23 rfl rfl (fun c1 => ?_) (fun c1 => ?_)
      · skip
        refine v_iinc h pX4_findsFits_1 1 (v := nI v) (lv' := [(4, .int (nI v)), (0, .ref (b 0)), (1, .int (nI t)), (2, .int (nI y)), (3, .int (E 4 y))]) rfl 4 rfl hnL rfl rfl (nI_mi _) (v_goto (tgt := 16) h pX4_findsFits_1 2 rfl rfl (v_lv [1, 2, 3, 4, 0] (lv' := [(0, .ref (b 0)), (1, .int (nI t)), (2, .int (nI y)), (3, .int (E 4 y)), (4, .int (nI v))]) rfl ?_))
        exact ihA (c) _ _ _ (by omega) (by have e := cntU_0 (P := (fun v => likS n (up E 4 y (nI v)) (numS Q t) y z)) (v := v) c1; omega) (by rw [← hx, lfD_0 c1])
      · skip
        refine v_aload_n h pX4_findsFits_0 24 rfl 0 rfl rfl (v_dup h pX4_findsFits_0 25 rfl rfl (v_get h pX4_findsFits_0 26 fX4_166 0 rfl rfl rfl (v_top (w := .int (nI c)) rfl (v_iconst h pX4_findsFits_0 27 rfl ki_1 (v_iaddn h pX4_findsFits_0 28 c 1 rfl ?_)))))
        refine v_puti h pX4_findsFits_0 29 gX4_166 0 (ws' := mW cI b (up E 4 y (nI (v + 1)), Kp, Bf, up E 4 y (nI (v + 1)), up (up (up Q 6 2 (nI c)) 6 3 x2) 6 2 (nI (c + 1)))) rfl rfl rfl mW_p2 (v_aload_n h pX4_findsFits_0 30 rfl 0 rfl rfl (v_iload h pX4_findsFits_0 31 rfl 4 rfl (v_puti h pX4_findsFits_1 0 gX4_173 0 (ws' := mW cI b (up E 4 y (nI (v + 1)), Kp, Bf, up E 4 y (nI (v + 1)), up (up (up (up Q 6 2 (nI c)) 6 3 x2) 6 2 (nI (c + 1))) 6 3 (nI (v + 1)))) rfl rfl rfl mW_p3 (v_iinc h pX4_findsFits_1 1 (v := nI v) (lv' := [(4, .int (nI v)), (0, .ref (b 0)), (1, .int (nI t)), (2, .int (nI y)), (3, .int (E 4 y))]) rfl 4 rfl hnL rfl rfl (nI_mi _) (v_goto (tgt := 16) h pX4_findsFits_1 2 rfl rfl ?_)))))
        refine v_lv [1, 2, 3, 4, 0] (lv' := [(0, .ref (b 0)), (1, .int (nI t)), (2, .int (nI y)), (3, .int (E 4 y)), (4, .int (nI v))]) rfl (v_eqw (ws' := mW cI b (up E 4 y (nI (v + 1)), Kp, Bf, (up E 4 y (nI (v + 1))), up (up Q 6 2 (nI (c + 1))) 6 3 (nI (v + 1)))) (by rw [upQ_1]) ?_)
        exact ihA (c + 1) _ _ _ (by omega) (by have e := cntU_1 (P := (fun v => likS n (up E 4 y (nI v)) (numS Q t) y z)) (v := v) c1; omega) (by rw [← hx, lfD_1 c1])
  exact LA 99 0 _ _ _ (by omega) (Nat.zero_add _) rfl
