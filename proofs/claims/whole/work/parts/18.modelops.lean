set_option maxHeartbeats 300000 in
set_option maxRecDepth 100000 in
theorem kX4_isLike (l : Launch) (D : va_G) (cI cS : ClassId) (b : Nat → Nat) (E Kp Bf As Q : Nat → Nat → Int32) (n : Nat) (hW : Wf E n) (yb : Nat) (hY : bd (E 9 2) yb) (t y : Nat) (ht : t < 4) (hy : y < 8) (z : Nat) (hs : Q 3 t = nI z) (hz : z ≤ 40) (hk : yb + 41 ≤ 99999) : vDet l D (vT cI cS) yX4_isLike cX4_isLike 6 (some .boolean) 4 89 (mW cI b) [.ref (b 0), .int (nI t), .int (nI y)] (E, Kp, Bf, As, Q) (some (.int (bI (likS n E (numS Q t) y z)))) ((E, Kp, Bf, E, Q)) := by
  refine vMet_of (by decide) rfl ?_
  intro K hl hD hnL hret h hR hEx
  subst hl hD
  show V K (mW cI b (E, Kp, Bf, As, Q)) 0 [(0, .ref (b 0)), (1, .int (nI t)), (2, .int (nI y))] []
  have hn8 := hW.1
  refine v_aload_n h pX4_isLike_0 0 rfl 0 rfl rfl (v_get h pX4_isLike_0 1 fX4_7 0 rfl rfl rfl (v_aload_n h pX4_isLike_0 2 rfl 0 rfl rfl (v_get h pX4_isLike_0 3 fX4_19 0 rfl rfl rfl ?_)))
  refine v_callS h pX4_isLike_0 4 mX4_132 (As := [.ref (b 1), .ref (b 4)]) (st := []) (kX4_copyRow _ _ cI cS (b 1) (b 4) (pr (fl E) (fl As))) v0B v0C emb_14 rfl rfl rfl rfl rfl (vDet_k ?_)
  show V K (mW cI b (E, Kp, Bf, E, Q)) 11 [(0, .ref (b 0)), (1, .int (nI t)), (2, .int (nI y))] []
  refine v_iconst h pX4_isLike_0 5 rfl ki_1 (v_istore_n h pX4_isLike_0 6 (lv' := [(3, .int 1), (0, .ref (b 0)), (1, .int (nI t)), (2, .int (nI y))]) rfl rfl hnL rfl rfl (v_iconst h pX4_isLike_0 7 rfl ki_0 (v_istore h pX4_isLike_0 8 (lv' := [(4, .int 0), (3, .int 1), (0, .ref (b 0)), (1, .int (nI t)), (2, .int (nI y))]) rfl hnL rfl rfl ?_)))
  refine v_lv [2, 3, 4, 1, 0] (lv' := [(0, .ref (b 0)), (1, .int (nI t)), (2, .int (nI y)), (3, .int 1), (4, .int 0)]) rfl ?_
  have LA : ∀ (m iA : Nat), iA ≤ z → (likS n E (numS Q t) y iA = true) → z + 1 ≤ iA + m → V K (mW cI b (yearsS n 0 E iA, Kp, Bf, E, Q)) 16 [(0, .ref (b 0)), (1, .int (nI t)), (2, .int (nI y)), (3, .int 1), (4, .int (nI iA))] [] := by
    intro m
    induction m with
    | zero => exact fun iA h1 hh h2 => absurd h2 (by omega)
    | succ m ihA =>
      intro iA hleA hhA hltA
      have hWSA : Wf (yearsS n 0 E iA) n := (Wf_years hW 0 iA)
      generalize hSA : yearsS n 0 E iA = SA at hWSA ⊢
      have hYA : bd (SA 9 2) (yb + iA) := by rw [← hSA]; exact years_bd hY _ (by omega)
      refine v_iload h pX4_isLike_0 9 rfl 4 rfl (v_aload_n h pX4_isLike_0 10 rfl 0 rfl rfl (v_get h pX4_isLike_0 11 fX4_31 0 rfl rfl rfl (v_iload_n h pX4_isLike_0 12 rfl 1 rfl rfl (v_iald h pX4_isLike_0 13 t 8 0 rfl rfl rfl rfl rfl (by omega) (v_top (w := .int (nI z)) (congrArg Value.int hs) ?_)))))
      refine v_ncmp_ge (a := iA) (b := z) (tgt := 79) h pX4_isLike_0 14 rfl rfl (by omega) (by omega) (fun c3 => ?_) (fun c3 => ?_)
      · skip
        refine v_aload_n h pX4_isLike_1 12 rfl 0 rfl rfl (v_get h pX4_isLike_1 13 fX4_19 0 rfl rfl rfl (v_aload_n h pX4_isLike_1 14 rfl 0 rfl rfl (v_get h pX4_isLike_1 15 fX4_7 0 rfl rfl rfl ?_)))
        refine v_callS h pX4_isLike_1 16 mX4_132 (As := [.ref (b 4), .ref (b 1)]) (st := []) (kX4_copyRow _ _ cI cS (b 4) (b 1) (pr (fl E) (fl SA))) v0B v0C emb_41 rfl rfl rfl rfl rfl (vDet_k ?_)
        show V K (mW cI b (E, Kp, Bf, E, Q)) 90 [(0, .ref (b 0)), (1, .int (nI t)), (2, .int (nI y)), (3, .int 1), (4, .int (nI iA))] []
        refine v_iload_n h pX4_isLike_1 17 rfl 3 rfl rfl ?_
        exact v_zret h pX4_isLike_1 18 (Or.inr rfl) hR hret rfl ((E, Kp, Bf, E, Q)) rfl ⟨vI (by first | (rw [show iA = z by omega] at hhA; rw [hhA]; rfl) | (rw [likS_no (k := iA) (by rw [likB, hSA]; simp [numS, c3]) (by omega)]; rfl)), rfl⟩
      · skip
        refine v_iload_n h pX4_isLike_0 15 rfl 3 rfl rfl ?_
        refine v_if_eq (tgt := 79) h pX4_isLike_0 16 rfl rfl (fun c4 => absurd c4 (by decide)) (fun c4 => ?_)
        refine v_aload_n h pX4_isLike_0 17 rfl 0 rfl rfl (v_get h pX4_isLike_0 18 fX4_34 0 rfl rfl rfl (v_bipush h pX4_isLike_0 19 rfl kb_40 (v_iload_n h pX4_isLike_0 20 rfl 1 rfl rfl (v_imuln h pX4_isLike_0 21 40 t rfl (v_iload h pX4_isLike_0 22 rfl 4 rfl ?_)))))
        refine v_iaddn h pX4_isLike_0 23 (40 * t) iA rfl (v_iald h pX4_isLike_0 24 (40 * t + iA) 9 0 rfl rfl rfl rfl rfl (by omega) (v_istore h pX4_isLike_0 25 (lv' := [(5, .int (Q 4 (40 * t + iA))), (0, .ref (b 0)), (1, .int (nI t)), (2, .int (nI y)), (3, .int 1), (4, .int (nI iA))]) rfl hnL rfl rfl (v_iload h pX4_isLike_0 26 rfl 0 rfl (v_iconst h pX4_isLike_0 27 rfl ki_m1 ?_))))
        refine v_icmp_eq (tgt := 62) h pX4_isLike_0 28 rfl rfl (fun c5 => ?_) (fun c5 => ?_)
        · skip
          refine v_iconst h pX4_isLike_1 3 rfl ki_1 (v_goto (tgt := 67) h pX4_isLike_1 4 rfl rfl (v_istore_n h pX4_isLike_1 6 (lv' := [(3, .int 1), (5, .int (Q 4 (40 * t + iA))), (0, .ref (b 0)), (1, .int (nI t)), (2, .int (nI y)), (4, .int (nI iA))]) rfl rfl hnL rfl rfl (v_aload_n h pX4_isLike_1 7 rfl 2 rfl rfl (v_iconst h pX4_isLike_1 8 rfl ki_0 ?_))))
          refine v_callV h pX4_isLike_1 9 mX4_111 (As := [.int 0]) (st := []) (kX4_yearBut _ _ cI cS b SA Kp Bf E Q n hWSA (yb + iA) hYA (by omega) 0) v0B v0C (vEmb_rf _ _) 0 rfl rfl rfl rfl rfl rfl rfl (vDet_k ?_)
          show V K (mW cI b (yearS n 0 SA, Kp, Bf, E, Q)) 73 [(3, .int 1), (5, .int (Q 4 (40 * t + iA))), (0, .ref (b 0)), (1, .int (nI t)), (2, .int (nI y)), (4, .int (nI iA))] []
          have hWS6 : Wf (yearS n 0 SA) n := (Wf_year hWSA _)
          generalize hS6 : yearS n 0 SA = S6 at hWS6 ⊢
          refine v_iinc h pX4_isLike_1 10 (v := nI (iA + 1)) (lv' := [(4, .int (nI (iA + 1))), (3, .int 1), (5, .int (Q 4 (40 * t + iA))), (0, .ref (b 0)), (1, .int (nI t)), (2, .int (nI y))]) rfl 5 rfl hnL rfl rfl (nI_1 iA) (v_goto (tgt := 16) h pX4_isLike_1 11 rfl rfl (v_lv [3, 4, 5, 1, 0] (lv' := [(0, .ref (b 0)), (1, .int (nI t)), (2, .int (nI y)), (3, .int 1), (4, .int (nI (iA + 1)))]) rfl (v_eqw (ws' := mW cI b (yearsS n 0 E (iA + 1), Kp, Bf, E, Q)) (by subst hS6; rw [yearsS, hSA]) ?_)))
          exact ihA (iA + 1) (by omega) (by rw [likS, hhA, likB, hSA]; simp [numS, c3, (eq_true c5)]) (by omega)
        · skip
          refine v_iload h pX4_isLike_0 29 rfl 0 rfl (v_aload_n h pX4_isLike_0 30 rfl 1 rfl rfl (v_iload_n h pX4_isLike_0 31 rfl 3 rfl rfl (v_iconst h pX4_isLike_1 0 rfl ki_3 ?_)))
          refine v_callV h pX4_isLike_1 1 mX4_64 (As := [.int (nI y), .int 3]) (st := [.int (Q 4 (40 * t + iA))]) (kX4_its _ _ cI cS b SA Kp Bf E Q y 3 (by omega) (by omega)) v0B v0C (vEmb_rf _ _) 0 rfl rfl rfl rfl rfl rfl rfl (vDet_k ?_)
          show V K (mW cI b (SA, Kp, Bf, E, Q)) 59 [(5, .int (Q 4 (40 * t + iA))), (0, .ref (b 0)), (1, .int (nI t)), (2, .int (nI y)), (3, .int 1), (4, .int (nI iA))] [.int (SA 5 y), .int (Q 4 (40 * t + iA))]
          refine v_icmp_ne (tgt := 66) h pX4_isLike_1 2 rfl rfl (fun c7 => ?_) (fun c7 => ?_)
          · skip
            refine v_iconst h pX4_isLike_1 5 rfl ki_0 (v_istore_n h pX4_isLike_1 6 (lv' := [(3, .int 0), (5, .int (Q 4 (40 * t + iA))), (0, .ref (b 0)), (1, .int (nI t)), (2, .int (nI y)), (4, .int (nI iA))]) rfl rfl hnL rfl rfl (v_aload_n h pX4_isLike_1 7 rfl 2 rfl rfl (v_iconst h pX4_isLike_1 8 rfl ki_0 ?_)))
            refine v_callV h pX4_isLike_1 9 mX4_111 (As := [.int 0]) (st := []) (kX4_yearBut _ _ cI cS b SA Kp Bf E Q n hWSA (yb + iA) hYA (by omega) 0) v0B v0C (vEmb_rf _ _) 0 rfl rfl rfl rfl rfl rfl rfl (vDet_k ?_)
            show V K (mW cI b (yearS n 0 SA, Kp, Bf, E, Q)) 73 [(3, .int 0), (5, .int (Q 4 (40 * t + iA))), (0, .ref (b 0)), (1, .int (nI t)), (2, .int (nI y)), (4, .int (nI iA))] []
            have hWS8 : Wf (yearS n 0 SA) n := (Wf_year hWSA _)
            generalize hS8 : yearS n 0 SA = S8 at hWS8 ⊢
            refine v_iinc h pX4_isLike_1 10 (v := nI (iA + 1)) (lv' := [(4, .int (nI (iA + 1))), (3, .int 0), (5, .int (Q 4 (40 * t + iA))), (0, .ref (b 0)), (1, .int (nI t)), (2, .int (nI y))]) rfl 5 rfl hnL rfl rfl (nI_1 iA) (v_goto (tgt := 16) h pX4_isLike_1 11 rfl rfl (v_iload h pX4_isLike_0 9 rfl 0 rfl (v_aload_n h pX4_isLike_0 10 rfl 3 rfl rfl (v_get h pX4_isLike_0 11 fX4_31 0 rfl rfl rfl (v_iload_n h pX4_isLike_0 12 rfl 4 rfl rfl ?_)))))
            refine v_iald h pX4_isLike_0 13 t 8 0 rfl rfl rfl rfl rfl (by omega) (v_top (w := .int (nI z)) (congrArg Value.int hs) ?_)
            refine v_ncmp_ge (a := iA + 1) (b := z) (tgt := 79) h pX4_isLike_0 14 rfl rfl (by omega) (by omega) (fun c9 => ?_) (fun c9 => ?_)
            · skip
              refine v_aload_n h pX4_isLike_1 12 rfl 3 rfl rfl (v_get h pX4_isLike_1 13 fX4_19 0 rfl rfl rfl (v_aload_n h pX4_isLike_1 14 rfl 3 rfl rfl (v_get h pX4_isLike_1 15 fX4_7 0 rfl rfl rfl ?_)))
              refine v_callS h pX4_isLike_1 16 mX4_132 (As := [.ref (b 4), .ref (b 1)]) (st := []) (kX4_copyRow _ _ cI cS (b 4) (b 1) (pr (fl E) (fl S8))) v0B v0C emb_41 rfl rfl rfl rfl rfl (vDet_k ?_)
              show V K (mW cI b (E, Kp, Bf, E, Q)) 90 [(4, .int (nI (iA + 1))), (3, .int 0), (5, .int (Q 4 (40 * t + iA))), (0, .ref (b 0)), (1, .int (nI t)), (2, .int (nI y))] []
              refine v_iload_n h pX4_isLike_1 17 rfl 1 rfl rfl ?_
              exact v_zret h pX4_isLike_1 18 (Or.inl rfl) hR hret rfl ((E, Kp, Bf, E, Q)) rfl ⟨vI (by first | (rw [show iA = z by omega] at hhA; rw [hhA]; rfl) | (rw [likS_no (k := iA) (by rw [likB, hSA]; simp [numS, c3, c5, c7, c9]) (by omega)]; rfl)), rfl⟩
            · skip
              refine v_iload_n h pX4_isLike_0 15 rfl 1 rfl rfl ?_
              refine v_if_eq (tgt := 79) h pX4_isLike_0 16 rfl rfl (fun c10 => ?_) (fun c10 => absurd c10 (by decide))
              refine v_aload_n h pX4_isLike_1 12 rfl 3 rfl rfl (v_get h pX4_isLike_1 13 fX4_19 0 rfl rfl rfl (v_aload_n h pX4_isLike_1 14 rfl 3 rfl rfl (v_get h pX4_isLike_1 15 fX4_7 0 rfl rfl rfl ?_)))
              refine v_callS h pX4_isLike_1 16 mX4_132 (As := [.ref (b 4), .ref (b 1)]) (st := []) (kX4_copyRow _ _ cI cS (b 4) (b 1) (pr (fl E) (fl S8))) v0B v0C emb_41 rfl rfl rfl rfl rfl (vDet_k ?_)
              show V K (mW cI b (E, Kp, Bf, E, Q)) 90 [(4, .int (nI (iA + 1))), (3, .int 0), (5, .int (Q 4 (40 * t + iA))), (0, .ref (b 0)), (1, .int (nI t)), (2, .int (nI y))] []
              refine v_iload_n h pX4_isLike_1 17 rfl 1 rfl rfl ?_
              exact v_zret h pX4_isLike_1 18 (Or.inl rfl) hR hret rfl ((E, Kp, Bf, E, Q)) rfl ⟨vI (by first | (rw [show iA = z by omega] at hhA; rw [hhA]; rfl) | (rw [likS_no (k := iA) (by rw [likB, hSA]; simp [numS, c3, c5, c7, c9]) (by omega)]; rfl)), rfl⟩
          · skip
            refine v_iconst h pX4_isLike_1 3 rfl ki_1 (v_goto (tgt := 67) h pX4_isLike_1 4 rfl rfl (v_istore_n h pX4_isLike_1 6 (lv' := [(3, .int 1), (5, .int (Q 4 (40 * t + iA))), (0, .ref (b 0)), (1, .int (nI t)), (2, .int (nI y)), (4, .int (nI iA))]) rfl rfl hnL rfl rfl (v_aload_n h pX4_isLike_1 7 rfl 2 rfl rfl (v_iconst h pX4_isLike_1 8 rfl ki_0 ?_))))
            refine v_callV h pX4_isLike_1 9 mX4_111 (As := [.int 0]) (st := []) (kX4_yearBut _ _ cI cS b SA Kp Bf E Q n hWSA (yb + iA) hYA (by omega) 0) v0B v0C (vEmb_rf _ _) 0 rfl rfl rfl rfl rfl rfl rfl (vDet_k ?_)
            show V K (mW cI b (yearS n 0 SA, Kp, Bf, E, Q)) 73 [(3, .int 1), (5, .int (Q 4 (40 * t + iA))), (0, .ref (b 0)), (1, .int (nI t)), (2, .int (nI y)), (4, .int (nI iA))] []
            have hWS11 : Wf (yearS n 0 SA) n := (Wf_year hWSA _)
            generalize hS11 : yearS n 0 SA = S11 at hWS11 ⊢
            refine v_iinc h pX4_isLike_1 10 (v := nI (iA + 1)) (lv' := [(4, .int (nI (iA + 1))), (3, .int 1), (5, .int (Q 4 (40 * t + iA))), (0, .ref (b 0)), (1, .int (nI t)), (2, .int (nI y))]) rfl 5 rfl hnL rfl rfl (nI_1 iA) (v_goto (tgt := 16) h pX4_isLike_1 11 rfl rfl (v_lv [3, 4, 5, 1, 0] (lv' := [(0, .ref (b 0)), (1, .int (nI t)), (2, .int (nI y)), (3, .int 1), (4, .int (nI (iA + 1)))]) rfl (v_eqw (ws' := mW cI b (yearsS n 0 E (iA + 1), Kp, Bf, E, Q)) (by subst hS11; rw [yearsS, hSA]) ?_)))
            exact ihA (iA + 1) (by omega) (by rw [likS, hhA, likB, hSA]; simp [numS, c3, c5, (eq_true c7)]) (by omega)
  exact LA (z + 1) 0 (by omega) rfl (by omega)
set_option maxHeartbeats 300000 in
set_option maxRecDepth 100000 in
theorem kX4_findsFits (l : Launch) (D : va_G) (cI cS : ClassId) (b : Nat → Nat) (E Kp Bf As Q : Nat → Nat → Int32) (n : Nat) (hW : Wf E n) (yb : Nat) (hY : bd (E 9 2) yb) (t y : Nat) (ht : t < 4) (hy : y < 8) (z : Nat) (hs : Q 3 t = nI z) (hz : z ≤ 40) (hk : yb + 41 ≤ 99999) : vMet l D (vT cI cS) yX4_findsFits cX4_findsFits 5 none 5 114 (mW cI b) v0 [.ref (b 0), .int (nI t), .int (nI y)] (E, Kp, Bf, As, Q) (mRel none E Kp Bf (up (up Q 6 2 (nI (cntU (fun v => likS n (up E 4 y (nI v)) (numS Q t) y z) 99))) 6 3 (lfD (fun v => likS n (up E 4 y (nI v)) (numS Q t) y z) (Q 6 3) 99))) := by
  refine vMet_of (by decide) rfl ?_
  intro K hl hD hnL hret h hR hEx
  subst hl hD
  show V K (mW cI b (E, Kp, Bf, As, Q)) 0 [(0, .ref (b 0)), (1, .int (nI t)), (2, .int (nI y))] []
  have hn8 := hW.1
  refine v_aload_n h pX4_findsFits_0 0 rfl 0 rfl rfl (v_iload_n h pX4_findsFits_0 1 rfl 2 rfl rfl (v_iconst h pX4_findsFits_0 2 rfl ki_2 ?_))
  refine v_callV h pX4_findsFits_0 3 mX4_64 (As := [.int (nI y), .int 2]) (st := []) (kX4_its _ _ cI cS b E Kp Bf As Q y 2 (by omega) (by omega)) v0B v0C (vEmb_rf _ _) 0 rfl rfl rfl rfl rfl rfl rfl (vDet_k ?_)
  show V K (mW cI b (E, Kp, Bf, As, Q)) 6 [(0, .ref (b 0)), (1, .int (nI t)), (2, .int (nI y))] [.int (E 4 y)]
  refine v_istore_n h pX4_findsFits_0 4 (lv' := [(3, .int (E 4 y)), (0, .ref (b 0)), (1, .int (nI t)), (2, .int (nI y))]) rfl rfl hnL rfl rfl (v_aload_n h pX4_findsFits_0 5 rfl 1 rfl rfl (v_iconst h pX4_findsFits_0 6 rfl ki_0 (v_puti h pX4_findsFits_0 7 gX4_166 0 (ws' := mW cI b (E, Kp, Bf, As, up Q 6 2 0)) rfl rfl rfl mW_p2 ?_)))
  refine v_eqw (ws' := mW cI b (up E 4 y (E 4 y), Kp, Bf, As, up (up Q 6 2 (nI 0)) 6 3 (Q 6 3))) (by rw [up_id]; exact congrArg (fun q => mW cI b (E, Kp, Bf, As, q)) (upQ_0 Q 0)) ?_
  refine v_bipush h pX4_findsFits_0 8 rfl kb_99 (v_istore h pX4_findsFits_0 9 (lv' := [(4, .int 99), (3, .int (E 4 y)), (0, .ref (b 0)), (1, .int (nI t)), (2, .int (nI y))]) rfl hnL rfl rfl ?_)
  refine v_lv [2, 3, 4, 1, 0] (lv' := [(0, .ref (b 0)), (1, .int (nI t)), (2, .int (nI y)), (3, .int (E 4 y)), (4, .int 99)]) rfl ?_
  have LA : ∀ (v c : Nat) (x x2 : Int32) (A : Nat → Nat → Int32), v + c ≤ 99 → c + cntU (fun v => likS n (up E 4 y (nI v)) (numS Q t) y z) v = cntU (fun v => likS n (up E 4 y (nI v)) (numS Q t) y z) 99 → lfD (fun v => likS n (up E 4 y (nI v)) (numS Q t) y z) x2 v = lfD (fun v => likS n (up E 4 y (nI v)) (numS Q t) y z) (Q 6 3) 99 → V K (mW cI b (up E 4 y x, Kp, Bf, A, up (up Q 6 2 (nI c)) 6 3 x2)) 16 [(0, .ref (b 0)), (1, .int (nI t)), (2, .int (nI y)), (3, .int (E 4 y)), (4, .int (nI v))] [] := by
    intro v
    induction v with
    | zero =>
      intro c x x2 A hv hc hx
      have hc : c = cntU (fun v => likS n (up E 4 y (nI v)) (numS Q t) y z) 99 := hc
      have hx : x2 = lfD (fun v => likS n (up E 4 y (nI v)) (numS Q t) y z) (Q 6 3) 99 := hx
      subst hc hx
      show V K (mW cI b (up E 4 y x, Kp, Bf, A, up (up Q 6 2 (nI (cntU (fun v => likS n (up E 4 y (nI v)) (numS Q t) y z) 99))) 6 3 (lfD (fun v => likS n (up E 4 y (nI v)) (numS Q t) y z) (Q 6 3) 99))) 16 [(0, .ref (b 0)), (1, .int (nI t)), (2, .int (nI y)), (3, .int (E 4 y)), (4, .int 0)] []
      refine v_iload h pX4_findsFits_0 10 rfl 4 rfl ?_
      refine v_if_le2 (tgt := 64) h pX4_findsFits_0 11 rfl rfl (fun c0 => ?_) (fun c0 => absurd c0 (by decide))
      refine v_aload_n h pX4_findsFits_1 3 rfl 0 rfl rfl (v_get h pX4_findsFits_1 4 fX4_7 0 rfl rfl rfl (v_iload_n h pX4_findsFits_1 5 rfl 2 rfl rfl (v_iconst h pX4_findsFits_1 6 rfl ki_2 ?_)))
      refine v_callS h pX4_findsFits_1 7 mX4_69 (As := [.int (nI y), .int 2]) (st := [.ref (b 1)]) (kX4_at _ _ cI cS y 2) v0B v0C (vEmb_u _) rfl rfl rfl rfl rfl (vDet_k ?_)
      show V K (mW cI b (up E 4 y x, Kp, Bf, A, up (up Q 6 2 (nI (cntU (fun v => likS n (up E 4 y (nI v)) (numS Q t) y z) 99))) 6 3 (lfD (fun v => likS n (up E 4 y (nI v)) (numS Q t) y z) (Q 6 3) 99))) 73 [(0, .ref (b 0)), (1, .int (nI t)), (2, .int (nI y)), (3, .int (E 4 y)), (4, .int 0)] [.int (nI (16 + 6 * y + 2)), .ref (b 1)]
      refine v_iload_n h pX4_findsFits_1 8 rfl 3 rfl rfl (v_iast h pX4_findsFits_1 9 (16 + 6 * y + 2) 1 0 (ws' := mW cI b (up (up E 4 y x) 4 y (E 4 y), Kp, Bf, A, up (up Q 6 2 (nI (cntU (fun v => likS n (up E 4 y (nI v)) (numS Q t) y z) 99))) 6 3 (lfD (fun v => likS n (up E 4 y (nI v)) (numS Q t) y z) (Q 6 3) 99))) rfl rfl rfl rfl rfl (by omega) (mW_s (16 + 6 * y + 2) 4 y (flR_y (by omega) (by omega)) (flI_y (by omega) (by omega))) ?_)
      refine v_eqw (ws' := mW cI b (E, Kp, Bf, A, up (up Q 6 2 (nI (cntU (fun v => likS n (up E 4 y (nI v)) (numS Q t) y z) 99))) 6 3 (lfD (fun v => likS n (up E 4 y (nI v)) (numS Q t) y z) (Q 6 3) 99))) (by rw [up_bk]) ?_
      exact v_vret h pX4_findsFits_1 10 hR hret rfl ((E, Kp, Bf, A, up (up Q 6 2 (nI (cntU (fun v => likS n (up E 4 y (nI v)) (numS Q t) y z) 99))) 6 3 (lfD (fun v => likS n (up E 4 y (nI v)) (numS Q t) y z) (Q 6 3) 99))) rfl ⟨rfl, _, rfl⟩
    | succ v ihA =>
      intro c x x2 A hv hc hx
      refine v_iload h pX4_findsFits_0 10 rfl 4 rfl ?_
      refine v_nif_le (a := v + 1) (tgt := 64) h pX4_findsFits_0 11 rfl rfl (by omega) (fun c0 => absurd c0 (by omega)) (fun c0 => ?_)
      refine v_aload_n h pX4_findsFits_0 12 rfl 0 rfl rfl (v_get h pX4_findsFits_0 13 fX4_7 0 rfl rfl rfl (v_iload_n h pX4_findsFits_0 14 rfl 2 rfl rfl (v_iconst h pX4_findsFits_0 15 rfl ki_2 ?_)))
      refine v_callS h pX4_findsFits_0 16 mX4_69 (As := [.int (nI y), .int 2]) (st := [.ref (b 1)]) (kX4_at _ _ cI cS y 2) v0B v0C (vEmb_u _) rfl rfl rfl rfl rfl (vDet_k ?_)
      show V K (mW cI b (up E 4 y x, Kp, Bf, A, up (up Q 6 2 (nI c)) 6 3 x2)) 30 [(0, .ref (b 0)), (1, .int (nI t)), (2, .int (nI y)), (3, .int (E 4 y)), (4, .int (nI (v + 1)))] [.int (nI (16 + 6 * y + 2)), .ref (b 1)]
      refine v_iload h pX4_findsFits_0 17 rfl 4 rfl (v_iast h pX4_findsFits_0 18 (16 + 6 * y + 2) 1 0 (ws' := mW cI b (up (up E 4 y x) 4 y (nI (v + 1)), Kp, Bf, A, up (up Q 6 2 (nI c)) 6 3 x2)) rfl rfl rfl rfl rfl (by omega) (mW_s (16 + 6 * y + 2) 4 y (flR_y (by omega) (by omega)) (flI_y (by omega) (by omega))) ?_)
      refine v_eqw (ws' := mW cI b (up E 4 y (nI (v + 1)), Kp, Bf, A, up (up Q 6 2 (nI c)) 6 3 x2)) (by rw [up_up]) (v_aload_n h pX4_findsFits_0 19 rfl 0 rfl rfl (v_iload_n h pX4_findsFits_0 20 rfl 1 rfl rfl (v_iload_n h pX4_findsFits_0 21 rfl 2 rfl rfl ?_)))
      refine v_callV h pX4_findsFits_0 22 mX4_170 (As := [.int (nI t), .int (nI y)]) (st := []) (kX4_isLike _ _ cI cS b (up E 4 y (nI (v + 1))) Kp Bf A (up (up Q 6 2 (nI c)) 6 3 x2) n (Wf_upw hW (by omega)) yb hY t y (by omega) (by omega) z hs (by omega) (by omega)) v0B v0C (vEmb_rf _ _) 0 rfl rfl rfl rfl rfl rfl rfl (vDet_k ?_)
      show V K (mW cI b (up E 4 y (nI (v + 1)), Kp, Bf, up E 4 y (nI (v + 1)), up (up Q 6 2 (nI c)) 6 3 x2)) 39 [(0, .ref (b 0)), (1, .int (nI t)), (2, .int (nI y)), (3, .int (E 4 y)), (4, .int (nI (v + 1)))] [.int (bI (likS n (up E 4 y (nI (v + 1))) (numS Q t) y z))]
      refine v_bif_eq (tgt := 58) h pX4_findsFits_0 23 rfl rfl (fun c1 => ?_) (fun c1 => ?_)
      · skip
        refine v_iinc h pX4_findsFits_1 1 (v := nI v) (lv' := [(4, .int (nI v)), (0, .ref (b 0)), (1, .int (nI t)), (2, .int (nI y)), (3, .int (E 4 y))]) rfl 4 rfl hnL rfl rfl (nI_mi _) (v_goto (tgt := 16) h pX4_findsFits_1 2 rfl rfl (v_lv [1, 2, 3, 4, 0] (lv' := [(0, .ref (b 0)), (1, .int (nI t)), (2, .int (nI y)), (3, .int (E 4 y)), (4, .int (nI v))]) rfl ?_))
        exact ihA (c) _ _ _ (by omega) (by have e := cntU_0 (P := (fun v => likS n (up E 4 y (nI v)) (numS Q t) y z)) (v := v) c1; omega) (by rw [← hx, lfD_0 c1])
      · skip
        refine v_aload_n h pX4_findsFits_0 24 rfl 0 rfl rfl (v_dup h pX4_findsFits_0 25 rfl rfl (v_get h pX4_findsFits_0 26 fX4_166 0 rfl rfl rfl (v_top (w := .int (nI c)) rfl (v_iconst h pX4_findsFits_0 27 rfl ki_1 (v_iaddn h pX4_findsFits_0 28 c 1 rfl ?_)))))
        refine v_puti h pX4_findsFits_0 29 gX4_166 0 (ws' := mW cI b (up E 4 y (nI (v + 1)), Kp, Bf, up E 4 y (nI (v + 1)), up (up (up Q 6 2 (nI c)) 6 3 x2) 6 2 (nI (c + 1)))) rfl rfl rfl mW_p2 (v_aload_n h pX4_findsFits_0 30 rfl 0 rfl rfl (v_iload h pX4_findsFits_0 31 rfl 4 rfl (v_puti h pX4_findsFits_1 0 gX4_173 0 (ws' := mW cI b (up E 4 y (nI (v + 1)), Kp, Bf, up E 4 y (nI (v + 1)), up (up (up (up Q 6 2 (nI c)) 6 3 x2) 6 2 (nI (c + 1))) 6 3 (nI (v + 1)))) rfl rfl rfl mW_p3 (v_iinc h pX4_findsFits_1 1 (v := nI v) (lv' := [(4, .int (nI v)), (0, .ref (b 0)), (1, .int (nI t)), (2, .int (nI y)), (3, .int (E 4 y))]) rfl 4 rfl hnL rfl rfl (nI_mi _) (v_goto (tgt := 16) h pX4_findsFits_1 2 rfl rfl ?_)))))
        refine v_lv [1, 2, 3, 4, 0] (lv' := [(0, .ref (b 0)), (1, .int (nI t)), (2, .int (nI y)), (3, .int (E 4 y)), (4, .int (nI v))]) rfl (v_eqw (ws' := mW cI b (up E 4 y (nI (v + 1)), Kp, Bf, (up E 4 y (nI (v + 1))), up (up Q 6 2 (nI (c + 1))) 6 3 (nI (v + 1)))) (by rw [upQ_1]) ?_)
        exact ihA (c + 1) _ _ _ (by omega) (by have e := cntU_1 (P := (fun v => likS n (up E 4 y (nI v)) (numS Q t) y z)) (v := v) c1; omega) (by rw [← hx, lfD_1 c1])
  exact LA 99 0 _ _ _ (by omega) (Nat.zero_add _) rfl
set_option maxHeartbeats 300000 in
set_option maxRecDepth 100000 in
theorem kX4_wantsFor (l : Launch) (D : va_G) (cI cS : ClassId) (b : Nat → Nat) (E Kp Bf As Q : Nat → Nat → Int32) (n : Nat) (hW : Wf E n) (t y : Int32) : vDet l D (vT cI cS) yX4_wantsFor cX4_wantsFor 3 (some .int) 2 41 (mW cI b) [.ref (b 0), .int t, .int y] (E, Kp, Bf, As, Q) (some (.int (wfS Q t y n))) ((E, Kp, Bf, As, Q)) := by
  refine vMet_of (by decide) rfl ?_
  intro K hl hD hnL hret h hR hEx
  subst hl hD
  show V K (mW cI b (E, Kp, Bf, As, Q)) 0 [(0, .ref (b 0)), (1, .int t), (2, .int y)] []
  refine v_aload_n h pX4_wantsFor_0 0 rfl 0 rfl rfl (v_iload_n h pX4_wantsFor_0 1 rfl 1 rfl rfl ?_)
  refine v_callV h pX4_wantsFor_0 2 mX4_176 (As := [.int t]) (st := []) (kX4_wants _ _ cI cS b E Kp Bf As Q t) v0B v0C (vEmb_rf _ _) 0 rfl rfl rfl rfl rfl rfl rfl (vDet_k ?_)
  show V K (mW cI b (E, Kp, Bf, As, Q)) 5 [(0, .ref (b 0)), (1, .int t), (2, .int y)] [.int (wantS Q t)]
  refine v_if_eq (tgt := 16) h pX4_wantsFor_0 3 rfl rfl (fun c1 => ?_) (fun c1 => ?_)
  · skip
    refine v_aload_n h pX4_wantsFor_0 8 rfl 0 rfl rfl (v_iload_n h pX4_wantsFor_0 9 rfl 2 rfl rfl ?_)
    refine v_callV h pX4_wantsFor_0 10 mX4_88 (As := [.int y]) (st := []) (kX4_isOyster _ _ cI cS b E Kp Bf As Q n hW.2.1 y) v0B v0C (vEmb_rf _ _) 0 rfl rfl rfl rfl rfl rfl rfl (vDet_k ?_)
    show V K (mW cI b (E, Kp, Bf, As, Q)) 21 [(0, .ref (b 0)), (1, .int t), (2, .int y)] [.int (bI (oyB y n))]
    refine v_bif_eq (tgt := 28) h pX4_wantsFor_0 11 rfl rfl (fun c2 => ?_) (fun c2 => ?_)
    · skip
      refine v_ldc h pX4_wantsFor_0 14 wm_104 rfl ?_
      exact v_iret h pX4_wantsFor_0 15 hR hret rfl ((E, Kp, Bf, As, Q)) rfl ⟨vI (by simp [wfS, (eq_true c1), c2]), rfl⟩
    · skip
      refine v_iconst h pX4_wantsFor_0 12 rfl ki_0 (v_goto (tgt := 30) h pX4_wantsFor_0 13 rfl rfl ?_)
      exact v_iret h pX4_wantsFor_0 15 hR hret rfl ((E, Kp, Bf, As, Q)) rfl ⟨vI (by simp [wfS, (eq_true c1), c2]), rfl⟩
  · skip
    refine v_aload_n h pX4_wantsFor_0 4 rfl 0 rfl rfl (v_iload_n h pX4_wantsFor_0 5 rfl 1 rfl rfl ?_)
    refine v_callV h pX4_wantsFor_0 6 mX4_176 (As := [.int t]) (st := []) (kX4_wants _ _ cI cS b E Kp Bf As Q t) v0B v0C (vEmb_rf _ _) 0 rfl rfl rfl rfl rfl rfl rfl (vDet_k ?_)
    show V K (mW cI b (E, Kp, Bf, As, Q)) 13 [(0, .ref (b 0)), (1, .int t), (2, .int y)] [.int (wantS Q t)]
    refine v_goto (tgt := 30) h pX4_wantsFor_0 7 rfl rfl ?_
    exact v_iret h pX4_wantsFor_0 15 hR hret rfl ((E, Kp, Bf, As, Q)) rfl ⟨vI (by simp [wfS, c1]), rfl⟩
set_option maxHeartbeats 300000 in
set_option maxRecDepth 100000 in
theorem kX4_fits (l : Launch) (D : va_G) (cI cS : ClassId) (b : Nat → Nat) (E Kp Bf As Q : Nat → Nat → Int32) (n : Nat) (hW : Wf E n) (yb : Nat) (hY : bd (E 9 2) yb) (hyb : yb ≤ 99000) (hQ : WfQ Q) (t y : Int32) : vMet l D (vT cI cS) yX4_fits cX4_fits 4 (some .int) 6 138 (mW cI b) v0 [.ref (b 0), .int t, .int y] (E, Kp, Bf, As, Q) (mPost (some (.int (if inB t 0 3 = true then (if Q 2 (ix t) < 0 then (-1000006) else if oyB y n = true then (nI (cntU (fun v => likS n (up E 4 (ix y) (nI v)) (numS Q (ix t)) (ix y) (ix (Q 3 (ix t)))) 99)) else (-1000001)) else (-1000001)))) (E) (Kp) (if inB t 0 3 = true then (if Q 2 (ix t) < 0 then fndS Q 5 else if oyB y n = true then (Q) else fndS Q 0) else fndS Q 0)) := by
  refine vMet_of (by decide) rfl ?_
  intro K hl hD hnL hret h hR hEx
  subst hl hD
  show V K (mW cI b (E, Kp, Bf, As, Q)) 0 [(0, .ref (b 0)), (1, .int t), (2, .int y)] []
  have hn8 := hW.1
  refine v_aload_n h pX4_fits_0 0 rfl 0 rfl rfl (v_iload_n h pX4_fits_0 1 rfl 1 rfl rfl (v_iload_n h pX4_fits_0 2 rfl 2 rfl rfl ?_))
  refine v_callV h pX4_fits_0 3 mX4_179 (As := [.int t, .int y]) (st := []) (kX4_wantsFor _ _ cI cS b E Kp Bf As Q n hW t y) v0B v0C (vEmb_rf _ _) 0 rfl rfl rfl rfl rfl rfl rfl (vDet_k ?_)
  show V K (mW cI b (E, Kp, Bf, As, Q)) 6 [(0, .ref (b 0)), (1, .int t), (2, .int y)] [.int (wfS Q t y n)]
  refine v_istore_n h pX4_fits_0 4 (lv' := [(3, .int (wfS Q t y n)), (0, .ref (b 0)), (1, .int t), (2, .int y)]) rfl rfl hnL rfl rfl (v_iload_n h pX4_fits_0 5 rfl 0 rfl rfl ?_)
  refine v_if_eq (tgt := 17) h pX4_fits_0 6 rfl rfl (fun c1 => ?_) (fun c1 => ?_)
  · skip
    obtain ⟨c1a, c1b, c1c⟩ := wf_t c1
    obtain ⟨e_t, l_t⟩ := inB_t 3 rfl (by decide) c1a
    obtain ⟨e_y, l_y⟩ := oyB_t hn8 c1c
    refine v_aload_n h pX4_fits_0 11 rfl 1 rfl rfl (v_iload_n h pX4_fits_0 12 rfl 2 rfl rfl (v_top (w := .int (nI (ix t))) (congrArg Value.int e_t) (v_iload_n h pX4_fits_0 13 rfl 3 rfl rfl (v_top (w := .int (nI (ix y))) (congrArg Value.int e_y) ?_))))
    refine v_callV h pX4_fits_0 14 mX4_182 (As := [.int (nI (ix t)), .int (nI (ix y))]) (st := []) (kX4_findsFits _ _ cI cS b E Kp Bf As Q n hW yb hY (ix t) (ix y) (by omega) (by omega) (ix (Q 3 (ix t))) (hQ.size (by omega)) (hQ.sizeL (by omega)) (by omega)) v0B v0C (vEmb_rf _ _) 0 rfl rfl rfl rfl rfl rfl rfl (fun v2 u2 q2 => ?_)
    obtain ⟨rfl, X2, rfl⟩ := q2
    show V K (mW cI b (E, Kp, Bf, X2, up (up Q 6 2 (nI (cntU (fun v => likS n (up E 4 (ix y) (nI v)) (numS Q (ix t)) (ix y) (ix (Q 3 (ix t)))) 99))) 6 3 (lfD (fun v => likS n (up E 4 (ix y) (nI v)) (numS Q (ix t)) (ix y) (ix (Q 3 (ix t)))) (Q 6 3) 99))) 23 [(3, .int (wfS Q t y n)), (0, .ref (b 0)), (1, .int t), (2, .int y)] []
    refine v_aload_n h pX4_fits_0 15 rfl 1 rfl rfl (v_get h pX4_fits_0 16 fX4_166 0 rfl rfl rfl (v_top (w := .int (nI (cntU (fun v => likS n (up E 4 (ix y) (nI v)) (numS Q (ix t)) (ix y) (ix (Q 3 (ix t)))) 99))) rfl ?_))
    exact v_iret h pX4_fits_0 17 hR hret rfl ((E, Kp, Bf, X2, up (up Q 6 2 (nI (cntU (fun v => likS n (up E 4 (ix y) (nI v)) (numS Q (ix t)) (ix y) (ix (Q 3 (ix t)))) 99))) 6 3 (lfD (fun v => likS n (up E 4 (ix y) (nI v)) (numS Q (ix t)) (ix y) (ix (Q 3 (ix t)))) (Q 6 3) 99))) rfl ⟨vI (by simp [c1a, c1b, c1c, -Int32.not_lt]), rfl, rfl, (by first | (refine qR_of ?_; simp [c1a, c1b, c1c, True, -Int32.not_lt]; done) | (simp only [c1a, c1b, c1c, if_true, if_false]; exact ⟨rfl, rfl, rfl, rfl, rfl, rfl, rfl⟩))⟩
  · skip
    rcases wf_f c1 with ⟨q4a, q4e⟩ | ⟨q4a, q4b, q4e⟩ | ⟨q4a, q4b, q4c, q4e⟩
    · skip
      refine v_aload_n h pX4_fits_0 7 rfl 1 rfl rfl (v_iload_n h pX4_fits_0 8 rfl 0 rfl rfl ?_)
      refine v_top (w := .int (-1000001)) (congrArg Value.int q4e) ?_
      refine v_callV h pX4_fits_0 9 mX4_42 (As := [.int (-1000001)]) (st := []) (kX4_finds _ _ cI cS b E Kp Bf As Q 0 (by decide) (-1000001) (by decide)) v0B v0C (vEmb_rf _ _) 0 rfl rfl rfl rfl rfl rfl rfl (vDet_k ?_)
      show V K (mW cI b (E, Kp, Bf, As, fndS Q 0)) 16 [(3, .int (wfS Q t y n)), (0, .ref (b 0)), (1, .int t), (2, .int y)] [.int (-1000001)]
      generalize hS5 : fndS Q 0 = S5
      exact v_iret h pX4_fits_0 10 hR hret rfl ((E, Kp, Bf, As, S5)) rfl ⟨vI (by simp [q4a, -Int32.not_lt]), rfl, rfl, (by first | (refine qR_of ?_; simp [q4a, hS5, -Int32.not_lt]; done) | (simp only [q4a, if_true, if_false]; exact ⟨rfl, rfl, rfl, rfl, rfl, rfl, rfl⟩))⟩
    · skip
      refine v_aload_n h pX4_fits_0 7 rfl 1 rfl rfl (v_iload_n h pX4_fits_0 8 rfl 0 rfl rfl ?_)
      refine v_top (w := .int (-1000006)) (congrArg Value.int q4e) ?_
      refine v_callV h pX4_fits_0 9 mX4_42 (As := [.int (-1000006)]) (st := []) (kX4_finds _ _ cI cS b E Kp Bf As Q 5 (by decide) (-1000006) (by decide)) v0B v0C (vEmb_rf _ _) 0 rfl rfl rfl rfl rfl rfl rfl (vDet_k ?_)
      show V K (mW cI b (E, Kp, Bf, As, fndS Q 5)) 16 [(3, .int (wfS Q t y n)), (0, .ref (b 0)), (1, .int t), (2, .int y)] [.int (-1000006)]
      generalize hS6 : fndS Q 5 = S6
      exact v_iret h pX4_fits_0 10 hR hret rfl ((E, Kp, Bf, As, S6)) rfl ⟨vI (by simp [q4a, q4b, -Int32.not_lt]), rfl, rfl, (by first | (refine qR_of ?_; simp [q4a, q4b, hS6, -Int32.not_lt]; done) | (simp only [q4a, q4b, if_true, if_false]; exact ⟨rfl, rfl, rfl, rfl, rfl, rfl, rfl⟩))⟩
    · skip
      refine v_aload_n h pX4_fits_0 7 rfl 1 rfl rfl (v_iload_n h pX4_fits_0 8 rfl 0 rfl rfl ?_)
      refine v_top (w := .int (-1000001)) (congrArg Value.int q4e) ?_
      refine v_callV h pX4_fits_0 9 mX4_42 (As := [.int (-1000001)]) (st := []) (kX4_finds _ _ cI cS b E Kp Bf As Q 0 (by decide) (-1000001) (by decide)) v0B v0C (vEmb_rf _ _) 0 rfl rfl rfl rfl rfl rfl rfl (vDet_k ?_)
      show V K (mW cI b (E, Kp, Bf, As, fndS Q 0)) 16 [(3, .int (wfS Q t y n)), (0, .ref (b 0)), (1, .int t), (2, .int y)] [.int (-1000001)]
      generalize hS7 : fndS Q 0 = S7
      exact v_iret h pX4_fits_0 10 hR hret rfl ((E, Kp, Bf, As, S7)) rfl ⟨vI (by simp [q4a, q4b, q4c, -Int32.not_lt]), rfl, rfl, (by first | (refine qR_of ?_; simp [q4a, q4b, q4c, hS7, -Int32.not_lt]; done) | (simp only [q4a, q4b, q4c, if_true, if_false]; exact ⟨rfl, rfl, rfl, rfl, rfl, rfl, rfl⟩))⟩
set_option maxHeartbeats 300000 in
set_option maxRecDepth 100000 in
theorem kX4_weighed (l : Launch) (D : va_G) (cI cS : ClassId) (b : Nat → Nat) (E Kp Bf As Q : Nat → Nat → Int32) (n : Nat) (hW : Wf E n) (yb : Nat) (hY : bd (E 9 2) yb) (hyb : yb ≤ 99000) (hQ : WfQ Q) (t y : Int32) : vMet l D (vT cI cS) yX4_weighed cX4_weighed 4 (some .int) 6 138 (mW cI b) v0 [.ref (b 0), .int t, .int y] (E, Kp, Bf, As, Q) (mPost (some (.int (if inB t 0 3 = true then (if Q 2 (ix t) < 0 then (-1000006) else if oyB y n = true then (if fstN (fun k => (fun v => likS n (up E 4 (ix y) (nI v)) (numS Q (ix t)) (ix y) (ix (Q 3 (ix t)))) (k + 1)) 99 < 99 then nI (fstN (fun k => (fun v => likS n (up E 4 (ix y) (nI v)) (numS Q (ix t)) (ix y) (ix (Q 3 (ix t)))) (k + 1)) 99 + 1) else (-1000004)) else (-1000001)) else (-1000001)))) (E) (Kp) (if inB t 0 3 = true then (if Q 2 (ix t) < 0 then fndS Q 5 else if oyB y n = true then (if fstN (fun k => (fun v => likS n (up E 4 (ix y) (nI v)) (numS Q (ix t)) (ix y) (ix (Q 3 (ix t)))) (k + 1)) 99 < 99 then Q else fndS Q 3) else fndS Q 0) else fndS Q 0)) := by
  refine vMet_of (by decide) rfl ?_
  intro K hl hD hnL hret h hR hEx
  subst hl hD
  show V K (mW cI b (E, Kp, Bf, As, Q)) 0 [(0, .ref (b 0)), (1, .int t), (2, .int y)] []
  have hn8 := hW.1
  refine v_aload_n h pX4_weighed_0 0 rfl 0 rfl rfl (v_iload_n h pX4_weighed_0 1 rfl 1 rfl rfl (v_iload_n h pX4_weighed_0 2 rfl 2 rfl rfl ?_))
  refine v_callV h pX4_weighed_0 3 mX4_179 (As := [.int t, .int y]) (st := []) (kX4_wantsFor _ _ cI cS b E Kp Bf As Q n hW t y) v0B v0C (vEmb_rf _ _) 0 rfl rfl rfl rfl rfl rfl rfl (vDet_k ?_)
  show V K (mW cI b (E, Kp, Bf, As, Q)) 6 [(0, .ref (b 0)), (1, .int t), (2, .int y)] [.int (wfS Q t y n)]
  refine v_istore_n h pX4_weighed_0 4 (lv' := [(3, .int (wfS Q t y n)), (0, .ref (b 0)), (1, .int t), (2, .int y)]) rfl rfl hnL rfl rfl (v_iload_n h pX4_weighed_0 5 rfl 0 rfl rfl ?_)
  refine v_if_eq (tgt := 17) h pX4_weighed_0 6 rfl rfl (fun c1 => ?_) (fun c1 => ?_)
  · skip
    obtain ⟨c1a, c1b, c1c⟩ := wf_t c1
    obtain ⟨e_t, l_t⟩ := inB_t 3 rfl (by decide) c1a
    obtain ⟨e_y, l_y⟩ := oyB_t hn8 c1c
    refine v_aload_n h pX4_weighed_0 11 rfl 1 rfl rfl (v_iload_n h pX4_weighed_0 12 rfl 2 rfl rfl (v_top (w := .int (nI (ix t))) (congrArg Value.int e_t) (v_iload_n h pX4_weighed_0 13 rfl 3 rfl rfl (v_top (w := .int (nI (ix y))) (congrArg Value.int e_y) ?_))))
    refine v_callV h pX4_weighed_0 14 mX4_182 (As := [.int (nI (ix t)), .int (nI (ix y))]) (st := []) (kX4_findsFits _ _ cI cS b E Kp Bf As Q n hW yb hY (ix t) (ix y) (by omega) (by omega) (ix (Q 3 (ix t))) (hQ.size (by omega)) (hQ.sizeL (by omega)) (by omega)) v0B v0C (vEmb_rf _ _) 0 rfl rfl rfl rfl rfl rfl rfl (fun v2 u2 q2 => ?_)
    obtain ⟨rfl, X2, rfl⟩ := q2
    show V K (mW cI b (E, Kp, Bf, X2, up (up Q 6 2 (nI (cntU (fun v => likS n (up E 4 (ix y) (nI v)) (numS Q (ix t)) (ix y) (ix (Q 3 (ix t)))) 99))) 6 3 (lfD (fun v => likS n (up E 4 (ix y) (nI v)) (numS Q (ix t)) (ix y) (ix (Q 3 (ix t)))) (Q 6 3) 99))) 23 [(3, .int (wfS Q t y n)), (0, .ref (b 0)), (1, .int t), (2, .int y)] []
    have hcu := cntU_le (fun v => likS n (up E 4 (ix y) (nI v)) (numS Q (ix t)) (ix y) (ix (Q 3 (ix t)))) 99
    refine v_aload_n h pX4_weighed_0 15 rfl 1 rfl rfl (v_get h pX4_weighed_0 16 fX4_166 0 rfl rfl rfl (v_top (w := .int (nI (cntU (fun v => likS n (up E 4 (ix y) (nI v)) (numS Q (ix t)) (ix y) (ix (Q 3 (ix t)))) 99))) rfl ?_))
    refine v_nif_le (a := cntU (fun v => likS n (up E 4 (ix y) (nI v)) (numS Q (ix t)) (ix y) (ix (Q 3 (ix t)))) 99) (tgt := 37) h pX4_weighed_0 17 rfl rfl (by omega) (fun c4 => ?_) (fun c4 => ?_)
    · skip
      have c4f : ¬ fstN (fun k => (fun v => likS n (up E 4 (ix y) (nI v)) (numS Q (ix t)) (ix y) (ix (Q 3 (ix t)))) (k + 1)) 99 < 99 := fun z => absurd ((cntU_pos (fun v => likS n (up E 4 (ix y) (nI v)) (numS Q (ix t)) (ix y) (ix (Q 3 (ix t)))) 99).mpr z) (by omega)
      refine v_aload_n h pX4_weighed_0 21 rfl 1 rfl rfl (v_ldc h pX4_weighed_0 22 wm_405 rfl ?_)
      refine v_callV h pX4_weighed_0 23 mX4_42 (As := [.int (-1000004)]) (st := []) (kX4_finds _ _ cI cS b E Kp Bf X2 (up (up Q 6 2 (nI (cntU (fun v => likS n (up E 4 (ix y) (nI v)) (numS Q (ix t)) (ix y) (ix (Q 3 (ix t)))) 99))) 6 3 (lfD (fun v => likS n (up E 4 (ix y) (nI v)) (numS Q (ix t)) (ix y) (ix (Q 3 (ix t)))) (Q 6 3) 99)) 3 (by decide) (-1000004) (by decide)) v0B v0C (vEmb_rf _ _) 0 rfl rfl rfl rfl rfl rfl rfl (vDet_k ?_)
      show V K (mW cI b (E, Kp, Bf, X2, fndS (up (up Q 6 2 (nI (cntU (fun v => likS n (up E 4 (ix y) (nI v)) (numS Q (ix t)) (ix y) (ix (Q 3 (ix t)))) 99))) 6 3 (lfD (fun v => likS n (up E 4 (ix y) (nI v)) (numS Q (ix t)) (ix y) (ix (Q 3 (ix t)))) (Q 6 3) 99)) 3)) 43 [(3, .int (wfS Q t y n)), (0, .ref (b 0)), (1, .int t), (2, .int y)] [.int (-1000004)]
      generalize hS5 : fndS (up (up Q 6 2 (nI (cntU (fun v => likS n (up E 4 (ix y) (nI v)) (numS Q (ix t)) (ix y) (ix (Q 3 (ix t)))) 99))) 6 3 (lfD (fun v => likS n (up E 4 (ix y) (nI v)) (numS Q (ix t)) (ix y) (ix (Q 3 (ix t)))) (Q 6 3) 99)) 3 = S5
      exact v_iret h pX4_weighed_0 24 hR hret rfl ((E, Kp, Bf, X2, S5)) rfl ⟨vI (by first | (simp [c1a, c1b, c1c, c4f, -Int32.not_lt]; done) | (rw [lfD_eq]; simp only [c1a, c1b, c1c, c4f, if_true, if_false])), rfl, rfl, (by first | (refine qR_of ?_; simp [c1a, c1b, c1c, c4f, hS5, -Int32.not_lt]; done) | (simp only [c1a, c1b, c1c, c4f, if_true, if_false]; exact ⟨rfl, rfl, rfl, rfl, rfl, rfl, rfl⟩) | (simp only [c1a, c1b, c1c, c4f, if_true, if_false]; apply qR_fnd; assumption))⟩
    · skip
      have c4f := (cntU_pos (fun v => likS n (up E 4 (ix y) (nI v)) (numS Q (ix t)) (ix y) (ix (Q 3 (ix t)))) 99).mp c4
      refine v_aload_n h pX4_weighed_0 18 rfl 1 rfl rfl (v_get h pX4_weighed_0 19 fX4_173 0 rfl rfl rfl (v_top (w := .int (lfD (fun v => likS n (up E 4 (ix y) (nI v)) (numS Q (ix t)) (ix y) (ix (Q 3 (ix t)))) (Q 6 3) 99)) rfl (v_goto (tgt := 43) h pX4_weighed_0 20 rfl rfl ?_)))
      exact v_iret h pX4_weighed_0 24 hR hret rfl ((E, Kp, Bf, X2, up (up Q 6 2 (nI (cntU (fun v => likS n (up E 4 (ix y) (nI v)) (numS Q (ix t)) (ix y) (ix (Q 3 (ix t)))) 99))) 6 3 (lfD (fun v => likS n (up E 4 (ix y) (nI v)) (numS Q (ix t)) (ix y) (ix (Q 3 (ix t)))) (Q 6 3) 99))) rfl ⟨vI (by first | (simp [c1a, c1b, c1c, c4f, -Int32.not_lt]; done) | (rw [lfD_eq]; simp only [c1a, c1b, c1c, c4f, if_true, if_false])), rfl, rfl, (by first | (refine qR_of ?_; simp [c1a, c1b, c1c, c4f, True, -Int32.not_lt]; done) | (simp only [c1a, c1b, c1c, c4f, if_true, if_false]; exact ⟨rfl, rfl, rfl, rfl, rfl, rfl, rfl⟩) | (simp only [c1a, c1b, c1c, c4f, if_true, if_false]; apply qR_fnd; assumption))⟩
  · skip
    rcases wf_f c1 with ⟨q6a, q6e⟩ | ⟨q6a, q6b, q6e⟩ | ⟨q6a, q6b, q6c, q6e⟩
    · skip
      refine v_aload_n h pX4_weighed_0 7 rfl 1 rfl rfl (v_iload_n h pX4_weighed_0 8 rfl 0 rfl rfl ?_)
      refine v_top (w := .int (-1000001)) (congrArg Value.int q6e) ?_
      refine v_callV h pX4_weighed_0 9 mX4_42 (As := [.int (-1000001)]) (st := []) (kX4_finds _ _ cI cS b E Kp Bf As Q 0 (by decide) (-1000001) (by decide)) v0B v0C (vEmb_rf _ _) 0 rfl rfl rfl rfl rfl rfl rfl (vDet_k ?_)
      show V K (mW cI b (E, Kp, Bf, As, fndS Q 0)) 16 [(3, .int (wfS Q t y n)), (0, .ref (b 0)), (1, .int t), (2, .int y)] [.int (-1000001)]
      generalize hS7 : fndS Q 0 = S7
      exact v_iret h pX4_weighed_0 10 hR hret rfl ((E, Kp, Bf, As, S7)) rfl ⟨vI (by first | (simp [q6a, -Int32.not_lt]; done) | (rw [lfD_eq]; simp only [q6a, if_true, if_false])), rfl, rfl, (by first | (refine qR_of ?_; simp [q6a, hS7, -Int32.not_lt]; done) | (simp only [q6a, if_true, if_false]; exact ⟨rfl, rfl, rfl, rfl, rfl, rfl, rfl⟩) | (simp only [q6a, if_true, if_false]; apply qR_fnd; assumption))⟩
    · skip
      refine v_aload_n h pX4_weighed_0 7 rfl 1 rfl rfl (v_iload_n h pX4_weighed_0 8 rfl 0 rfl rfl ?_)
      refine v_top (w := .int (-1000006)) (congrArg Value.int q6e) ?_
      refine v_callV h pX4_weighed_0 9 mX4_42 (As := [.int (-1000006)]) (st := []) (kX4_finds _ _ cI cS b E Kp Bf As Q 5 (by decide) (-1000006) (by decide)) v0B v0C (vEmb_rf _ _) 0 rfl rfl rfl rfl rfl rfl rfl (vDet_k ?_)
      show V K (mW cI b (E, Kp, Bf, As, fndS Q 5)) 16 [(3, .int (wfS Q t y n)), (0, .ref (b 0)), (1, .int t), (2, .int y)] [.int (-1000006)]
      generalize hS8 : fndS Q 5 = S8
      exact v_iret h pX4_weighed_0 10 hR hret rfl ((E, Kp, Bf, As, S8)) rfl ⟨vI (by first | (simp [q6a, q6b, -Int32.not_lt]; done) | (rw [lfD_eq]; simp only [q6a, q6b, if_true, if_false])), rfl, rfl, (by first | (refine qR_of ?_; simp [q6a, q6b, hS8, -Int32.not_lt]; done) | (simp only [q6a, q6b, if_true, if_false]; exact ⟨rfl, rfl, rfl, rfl, rfl, rfl, rfl⟩) | (simp only [q6a, q6b, if_true, if_false]; apply qR_fnd; assumption))⟩
    · skip
      refine v_aload_n h pX4_weighed_0 7 rfl 1 rfl rfl (v_iload_n h pX4_weighed_0 8 rfl 0 rfl rfl ?_)
      refine v_top (w := .int (-1000001)) (congrArg Value.int q6e) ?_
      refine v_callV h pX4_weighed_0 9 mX4_42 (As := [.int (-1000001)]) (st := []) (kX4_finds _ _ cI cS b E Kp Bf As Q 0 (by decide) (-1000001) (by decide)) v0B v0C (vEmb_rf _ _) 0 rfl rfl rfl rfl rfl rfl rfl (vDet_k ?_)
      show V K (mW cI b (E, Kp, Bf, As, fndS Q 0)) 16 [(3, .int (wfS Q t y n)), (0, .ref (b 0)), (1, .int t), (2, .int y)] [.int (-1000001)]
      generalize hS9 : fndS Q 0 = S9
      exact v_iret h pX4_weighed_0 10 hR hret rfl ((E, Kp, Bf, As, S9)) rfl ⟨vI (by first | (simp [q6a, q6b, q6c, -Int32.not_lt]; done) | (rw [lfD_eq]; simp only [q6a, q6b, q6c, if_true, if_false])), rfl, rfl, (by first | (refine qR_of ?_; simp [q6a, q6b, q6c, hS9, -Int32.not_lt]; done) | (simp only [q6a, q6b, q6c, if_true, if_false]; exact ⟨rfl, rfl, rfl, rfl, rfl, rfl, rfl⟩) | (simp only [q6a, q6b, q6c, if_true, if_false]; apply qR_fnd; assumption))⟩
set_option maxHeartbeats 300000 in
set_option maxRecDepth 100000 in
theorem kX4_kinds (l : Launch) (D : va_G) (cI cS : ClassId) (b : Nat → Nat) (E Kp Bf As Q : Nat → Nat → Int32) (n : Nat) (hW : Wf E n) (yb : Nat) (hY : bd (E 9 2) yb) (hyb : yb ≤ 99000) (hQ : WfQ Q) (t y : Int32) : vMet l D (vT cI cS) yX4_kinds cX4_kinds 7 (some .int) 5 114 (mW cI b) v0 [.ref (b 0), .int t, .int y] (E, Kp, Bf, As, Q) (mPost (some (.int (if inB t 0 3 = true then (if Q 2 (ix t) < 0 then (-1000006) else if oyB y n = true then (setS (fun v => likS n (up E 2 (ix y) (nI v)) (numS Q (ix t)) (ix y) (ix (Q 3 (ix t)))) 7) else (-1000001)) else (-1000001)))) (E) (Kp) (if inB t 0 3 = true then (if Q 2 (ix t) < 0 then fndS Q 5 else if oyB y n = true then (Q) else fndS Q 0) else fndS Q 0)) := by
  refine vMet_of (by decide) rfl ?_
  intro K hl hD hnL hret h hR hEx
  subst hl hD
  show V K (mW cI b (E, Kp, Bf, As, Q)) 0 [(0, .ref (b 0)), (1, .int t), (2, .int y)] []
  have hn8 := hW.1
  refine v_aload_n h pX4_kinds_0 0 rfl 0 rfl rfl (v_iload_n h pX4_kinds_0 1 rfl 1 rfl rfl (v_iload_n h pX4_kinds_0 2 rfl 2 rfl rfl ?_))
  refine v_callV h pX4_kinds_0 3 mX4_179 (As := [.int t, .int y]) (st := []) (kX4_wantsFor _ _ cI cS b E Kp Bf As Q n hW t y) v0B v0C (vEmb_rf _ _) 0 rfl rfl rfl rfl rfl rfl rfl (vDet_k ?_)
  show V K (mW cI b (E, Kp, Bf, As, Q)) 6 [(0, .ref (b 0)), (1, .int t), (2, .int y)] [.int (wfS Q t y n)]
  refine v_istore_n h pX4_kinds_0 4 (lv' := [(3, .int (wfS Q t y n)), (0, .ref (b 0)), (1, .int t), (2, .int y)]) rfl rfl hnL rfl rfl (v_iload_n h pX4_kinds_0 5 rfl 0 rfl rfl ?_)
  refine v_if_eq (tgt := 17) h pX4_kinds_0 6 rfl rfl (fun c1 => ?_) (fun c1 => ?_)
  · skip
    obtain ⟨c1a, c1b, c1c⟩ := wf_t c1
    obtain ⟨e_t, l_t⟩ := inB_t 3 rfl (by decide) c1a
    obtain ⟨e_y, l_y⟩ := oyB_t hn8 c1c
    have hsz := hQ.sizeL (t := ix t) (by omega)
    refine v_aload_n h pX4_kinds_0 11 rfl 1 rfl rfl (v_iload_n h pX4_kinds_0 12 rfl 3 rfl rfl (v_top (w := .int (nI (ix y))) (congrArg Value.int e_y) (v_iconst h pX4_kinds_0 13 rfl ki_0 ?_)))
    refine v_callV h pX4_kinds_0 14 mX4_64 (As := [.int (nI (ix y)), .int 0]) (st := []) (kX4_its _ _ cI cS b E Kp Bf As Q (ix y) 0 (by omega) (by omega)) v0B v0C (vEmb_rf _ _) 0 rfl rfl rfl rfl rfl rfl rfl (vDet_k ?_)
    show V K (mW cI b (E, Kp, Bf, As, Q)) 23 [(3, .int (wfS Q t y n)), (0, .ref (b 0)), (1, .int t), (2, .int y)] [.int (E 2 (ix y))]
    refine v_istore h pX4_kinds_0 15 (lv' := [(4, .int (E 2 (ix y))), (3, .int (wfS Q t y n)), (0, .ref (b 0)), (1, .int t), (2, .int y)]) rfl hnL rfl rfl ?_
    refine v_eqw (ws' := mW cI b (up E 2 (ix y) (E 2 (ix y)), Kp, Bf, As, Q)) (by rw [up_id]) ?_
    refine v_iconst h pX4_kinds_0 16 rfl ki_0 (v_istore h pX4_kinds_0 17 (lv' := [(5, .int 0), (4, .int (E 2 (ix y))), (3, .int (wfS Q t y n)), (0, .ref (b 0)), (1, .int t), (2, .int y)]) rfl hnL rfl rfl (v_iconst h pX4_kinds_0 18 rfl ki_0 (v_istore h pX4_kinds_0 19 (lv' := [(6, .int 0), (5, .int 0), (4, .int (E 2 (ix y))), (3, .int (wfS Q t y n)), (0, .ref (b 0)), (1, .int t), (2, .int y)]) rfl hnL rfl rfl ?_)))
    refine v_lv [4, 5, 6, 3, 2, 1, 0] (lv' := [(0, .ref (b 0)), (1, .int t), (2, .int y), (3, .int (wfS Q t y n)), (4, .int (E 2 (ix y))), (5, .int 0), (6, .int 0)]) rfl ?_
    have LA : ∀ (m iA : Nat) (xA : Int32) (AsA : Nat → Nat → Int32), iA ≤ 7 → (True) → 7 + 1 ≤ iA + m → V K (mW cI b (up E 2 (ix y) xA, Kp, Bf, AsA, Q)) 31 [(0, .ref (b 0)), (1, .int t), (2, .int y), (3, .int (wfS Q t y n)), (4, .int (E 2 (ix y))), (5, .int (setS (fun v => likS n (up E 2 (ix y) (nI v)) (numS Q (ix t)) (ix y) (ix (Q 3 (ix t)))) iA)), (6, .int (nI iA))] [] := by
      intro m
      induction m with
      | zero => exact fun iA xA AsA h1 hh h2 => absurd h2 (by omega)
      | succ m ihA =>
        intro iA xA AsA hleA hhA hltA
        refine v_iload h pX4_kinds_0 20 rfl 6 rfl (v_bipush h pX4_kinds_0 21 rfl kb_6 ?_)
        refine v_ncmp_gt (a := iA) (b := 6) (tgt := 78) h pX4_kinds_0 22 rfl rfl (by omega) (by omega) (fun c3 => ?_) (fun c3 => ?_)
        · skip
          obtain rfl : 7 = iA := by omega
          refine v_aload_n h pX4_kinds_1 13 rfl 0 rfl rfl (v_get h pX4_kinds_1 14 fX4_7 0 rfl rfl rfl (v_iload_n h pX4_kinds_1 15 rfl 2 rfl rfl (v_top (w := .int (nI (ix y))) (congrArg Value.int e_y) (v_iconst h pX4_kinds_1 16 rfl ki_0 ?_))))
          refine v_callS h pX4_kinds_1 17 mX4_69 (As := [.int (nI (ix y)), .int 0]) (st := [.ref (b 1)]) (kX4_at _ _ cI cS (ix y) 0) v0B v0C (vEmb_u _) rfl rfl rfl rfl rfl (vDet_k ?_)
          show V K (mW cI b (up E 2 (ix y) xA, Kp, Bf, AsA, Q)) 87 [(0, .ref (b 0)), (1, .int t), (2, .int y), (3, .int (wfS Q t y n)), (4, .int (E 2 (ix y))), (5, .int (setS (fun v => likS n (up E 2 (ix y) (nI v)) (numS Q (ix t)) (ix y) (ix (Q 3 (ix t)))) 7)), (6, .int (nI 7))] [.int (nI (16 + 6 * (ix y) + 0)), .ref (b 1)]
          refine v_iload h pX4_kinds_1 18 rfl 4 rfl (v_iast h pX4_kinds_1 19 (16 + 6 * (ix y) + 0) 1 0 (ws' := mW cI b (up (up E 2 (ix y) xA) 2 (ix y) (E 2 (ix y)), Kp, Bf, AsA, Q)) rfl rfl rfl rfl rfl (by omega) (mW_s (16 + 6 * (ix y) + 0) 2 (ix y) (flR_y (by omega) (by omega)) (flI_y (by omega) (by omega))) ?_)
          refine v_eqw (ws' := mW cI b (E, Kp, Bf, AsA, Q)) (by rw [up_bk]) (v_iload h pX4_kinds_1 20 rfl 5 rfl ?_)
          exact v_iret h pX4_kinds_1 21 hR hret rfl ((E, Kp, Bf, AsA, Q)) rfl ⟨vI (by simp [c1a, c1b, c1c, c3, -Int32.not_lt]), rfl, rfl, (by first | (refine qR_of ?_; simp [c1a, c1b, c1c, c3, True, -Int32.not_lt]; done) | (simp only [c1a, c1b, c1c, c3, if_true, if_false]; exact ⟨rfl, rfl, rfl, rfl, rfl, rfl, rfl⟩))⟩
        · skip
          refine v_aload_n h pX4_kinds_0 23 rfl 0 rfl rfl (v_get h pX4_kinds_0 24 fX4_7 0 rfl rfl rfl (v_iload_n h pX4_kinds_0 25 rfl 2 rfl rfl (v_top (w := .int (nI (ix y))) (congrArg Value.int e_y) (v_iconst h pX4_kinds_0 26 rfl ki_0 ?_))))
          refine v_callS h pX4_kinds_0 27 mX4_69 (As := [.int (nI (ix y)), .int 0]) (st := [.ref (b 1)]) (kX4_at _ _ cI cS (ix y) 0) v0B v0C (vEmb_u _) rfl rfl rfl rfl rfl (vDet_k ?_)
          show V K (mW cI b (up E 2 (ix y) xA, Kp, Bf, AsA, Q)) 47 [(0, .ref (b 0)), (1, .int t), (2, .int y), (3, .int (wfS Q t y n)), (4, .int (E 2 (ix y))), (5, .int (setS (fun v => likS n (up E 2 (ix y) (nI v)) (numS Q (ix t)) (ix y) (ix (Q 3 (ix t)))) iA)), (6, .int (nI iA))] [.int (nI (16 + 6 * (ix y) + 0)), .ref (b 1)]
          refine v_iload h pX4_kinds_0 28 rfl 6 rfl (v_iast h pX4_kinds_0 29 (16 + 6 * (ix y) + 0) 1 0 (ws' := mW cI b (up (up E 2 (ix y) xA) 2 (ix y) (nI iA), Kp, Bf, AsA, Q)) rfl rfl rfl rfl rfl (by omega) (mW_s (16 + 6 * (ix y) + 0) 2 (ix y) (flR_y (by omega) (by omega)) (flI_y (by omega) (by omega))) ?_)
          refine v_eqw (ws' := mW cI b (up E 2 (ix y) (nI iA), Kp, Bf, AsA, Q)) (by rw [up_up]) (v_iload h pX4_kinds_0 30 rfl 5 rfl (v_aload_n h pX4_kinds_0 31 rfl 0 rfl rfl (v_iload_n h pX4_kinds_1 0 rfl 1 rfl rfl (v_top (w := .int (nI (ix t))) (congrArg Value.int e_t) (v_iload_n h pX4_kinds_1 1 rfl 2 rfl rfl ?_)))))
          refine v_top (w := .int (nI (ix y))) (congrArg Value.int e_y) ?_
          refine v_callV h pX4_kinds_1 2 mX4_170 (As := [.int (nI (ix t)), .int (nI (ix y))]) (st := [.int (setS (fun v => likS n (up E 2 (ix y) (nI v)) (numS Q (ix t)) (ix y) (ix (Q 3 (ix t)))) iA)]) (kX4_isLike _ _ cI cS b (up E 2 (ix y) (nI iA)) Kp Bf AsA Q n (Wf_upk hW (by omega)) yb hY (ix t) (ix y) (by omega) (by omega) (ix (Q 3 (ix t))) (hQ.size (by omega)) (by omega) (by omega)) v0B v0C (vEmb_rf _ _) 0 rfl rfl rfl rfl rfl rfl rfl (vDet_k ?_)
          show V K (mW cI b (up E 2 (ix y) (nI iA), Kp, Bf, up E 2 (ix y) (nI iA), Q)) 58 [(0, .ref (b 0)), (1, .int t), (2, .int y), (3, .int (wfS Q t y n)), (4, .int (E 2 (ix y))), (5, .int (setS (fun v => likS n (up E 2 (ix y) (nI v)) (numS Q (ix t)) (ix y) (ix (Q 3 (ix t)))) iA)), (6, .int (nI iA))] [.int (bI (likS n (up E 2 (ix y) (nI iA)) (numS Q (ix t)) (ix y) (ix (Q 3 (ix t))))), .int (setS (fun v => likS n (up E 2 (ix y) (nI v)) (numS Q (ix t)) (ix y) (ix (Q 3 (ix t)))) iA)]
          refine v_bif_eq (tgt := 68) h pX4_kinds_1 3 rfl rfl (fun c4 => ?_) (fun c4 => ?_)
          · skip
            refine v_iconst h pX4_kinds_1 8 rfl ki_0 (v_ior h pX4_kinds_1 9 rfl (v_istore h pX4_kinds_1 10 (lv' := [(5, .int ((setS (fun v => likS n (up E 2 (ix y) (nI v)) (numS Q (ix t)) (ix y) (ix (Q 3 (ix t)))) iA) ||| 0)), (0, .ref (b 0)), (1, .int t), (2, .int y), (3, .int (wfS Q t y n)), (4, .int (E 2 (ix y))), (6, .int (nI iA))]) rfl hnL rfl rfl (v_iinc h pX4_kinds_1 11 (v := nI (iA + 1)) (lv' := [(6, .int (nI (iA + 1))), (5, .int ((setS (fun v => likS n (up E 2 (ix y) (nI v)) (numS Q (ix t)) (ix y) (ix (Q 3 (ix t)))) iA) ||| 0)), (0, .ref (b 0)), (1, .int t), (2, .int y), (3, .int (wfS Q t y n)), (4, .int (E 2 (ix y)))]) rfl 6 rfl hnL rfl rfl (nI_1 iA) (v_goto (tgt := 31) h pX4_kinds_1 12 rfl rfl (v_lv [2, 3, 4, 5, 6, 1, 0] (lv' := [(0, .ref (b 0)), (1, .int t), (2, .int y), (3, .int (wfS Q t y n)), (4, .int (E 2 (ix y))), (5, .int ((setS (fun v => likS n (up E 2 (ix y) (nI v)) (numS Q (ix t)) (ix y) (ix (Q 3 (ix t)))) iA) ||| 0)), (6, .int (nI (iA + 1)))]) rfl ?_)))))
            refine v_eql (congrArg (fun z : Int32 => ([(0, .ref (b 0)), (1, .int t), (2, .int y), (3, .int (wfS Q t y n)), (4, .int (E 2 (ix y))), (5, .int z), (6, .int (nI (iA + 1)))] : List (Nat × Value))) (by simp [setS, c1a, c1b, c1c, c3, c4] : (setS (fun v => likS n (up E 2 (ix y) (nI v)) (numS Q (ix t)) (ix y) (ix (Q 3 (ix t)))) iA) ||| 0 = setS (fun v => likS n (up E 2 (ix y) (nI v)) (numS Q (ix t)) (ix y) (ix (Q 3 (ix t)))) (iA + 1))) ?_
            exact ihA (iA + 1) (nI iA) (up E 2 (ix y) (nI iA)) (by omega) (trivial) (by omega)
          · skip
            refine v_iconst h pX4_kinds_1 4 rfl ki_1 (v_iload h pX4_kinds_1 5 rfl 6 rfl (v_ishl h pX4_kinds_1 6 rfl (v_goto (tgt := 69) h pX4_kinds_1 7 rfl rfl (v_ior h pX4_kinds_1 9 rfl (v_istore h pX4_kinds_1 10 (lv' := [(5, .int ((setS (fun v => likS n (up E 2 (ix y) (nI v)) (numS Q (ix t)) (ix y) (ix (Q 3 (ix t)))) iA) ||| (1 <<< ((nI iA) &&& 31)))), (0, .ref (b 0)), (1, .int t), (2, .int y), (3, .int (wfS Q t y n)), (4, .int (E 2 (ix y))), (6, .int (nI iA))]) rfl hnL rfl rfl ?_)))))
            refine v_iinc h pX4_kinds_1 11 (v := nI (iA + 1)) (lv' := [(6, .int (nI (iA + 1))), (5, .int ((setS (fun v => likS n (up E 2 (ix y) (nI v)) (numS Q (ix t)) (ix y) (ix (Q 3 (ix t)))) iA) ||| (1 <<< ((nI iA) &&& 31)))), (0, .ref (b 0)), (1, .int t), (2, .int y), (3, .int (wfS Q t y n)), (4, .int (E 2 (ix y)))]) rfl 6 rfl hnL rfl rfl (nI_1 iA) (v_goto (tgt := 31) h pX4_kinds_1 12 rfl rfl (v_lv [2, 3, 4, 5, 6, 1, 0] (lv' := [(0, .ref (b 0)), (1, .int t), (2, .int y), (3, .int (wfS Q t y n)), (4, .int (E 2 (ix y))), (5, .int ((setS (fun v => likS n (up E 2 (ix y) (nI v)) (numS Q (ix t)) (ix y) (ix (Q 3 (ix t)))) iA) ||| (1 <<< ((nI iA) &&& 31)))), (6, .int (nI (iA + 1)))]) rfl (v_eql (congrArg (fun z : Int32 => ([(0, .ref (b 0)), (1, .int t), (2, .int y), (3, .int (wfS Q t y n)), (4, .int (E 2 (ix y))), (5, .int z), (6, .int (nI (iA + 1)))] : List (Nat × Value))) (by simp [setS, c1a, c1b, c1c, c3, c4] : (setS (fun v => likS n (up E 2 (ix y) (nI v)) (numS Q (ix t)) (ix y) (ix (Q 3 (ix t)))) iA) ||| (1 <<< ((nI iA) &&& 31)) = setS (fun v => likS n (up E 2 (ix y) (nI v)) (numS Q (ix t)) (ix y) (ix (Q 3 (ix t)))) (iA + 1))) ?_)))
            exact ihA (iA + 1) (nI iA) (up E 2 (ix y) (nI iA)) (by omega) (trivial) (by omega)
    exact LA (7 + 1) 0 (E 2 (ix y)) As (by omega) trivial (by omega)
  · skip
    rcases wf_f c1 with ⟨q5a, q5e⟩ | ⟨q5a, q5b, q5e⟩ | ⟨q5a, q5b, q5c, q5e⟩
    · skip
      refine v_aload_n h pX4_kinds_0 7 rfl 1 rfl rfl (v_iload_n h pX4_kinds_0 8 rfl 0 rfl rfl ?_)
      refine v_top (w := .int (-1000001)) (congrArg Value.int q5e) ?_
      refine v_callV h pX4_kinds_0 9 mX4_42 (As := [.int (-1000001)]) (st := []) (kX4_finds _ _ cI cS b E Kp Bf As Q 0 (by decide) (-1000001) (by decide)) v0B v0C (vEmb_rf _ _) 0 rfl rfl rfl rfl rfl rfl rfl (vDet_k ?_)
      show V K (mW cI b (E, Kp, Bf, As, fndS Q 0)) 16 [(3, .int (wfS Q t y n)), (0, .ref (b 0)), (1, .int t), (2, .int y)] [.int (-1000001)]
      generalize hS6 : fndS Q 0 = S6
      exact v_iret h pX4_kinds_0 10 hR hret rfl ((E, Kp, Bf, As, S6)) rfl ⟨vI (by simp [q5a, -Int32.not_lt]), rfl, rfl, (by first | (refine qR_of ?_; simp [q5a, hS6, -Int32.not_lt]; done) | (simp only [q5a, if_true, if_false]; exact ⟨rfl, rfl, rfl, rfl, rfl, rfl, rfl⟩))⟩
    · skip
      refine v_aload_n h pX4_kinds_0 7 rfl 1 rfl rfl (v_iload_n h pX4_kinds_0 8 rfl 0 rfl rfl ?_)
      refine v_top (w := .int (-1000006)) (congrArg Value.int q5e) ?_
      refine v_callV h pX4_kinds_0 9 mX4_42 (As := [.int (-1000006)]) (st := []) (kX4_finds _ _ cI cS b E Kp Bf As Q 5 (by decide) (-1000006) (by decide)) v0B v0C (vEmb_rf _ _) 0 rfl rfl rfl rfl rfl rfl rfl (vDet_k ?_)
      show V K (mW cI b (E, Kp, Bf, As, fndS Q 5)) 16 [(3, .int (wfS Q t y n)), (0, .ref (b 0)), (1, .int t), (2, .int y)] [.int (-1000006)]
      generalize hS7 : fndS Q 5 = S7
      exact v_iret h pX4_kinds_0 10 hR hret rfl ((E, Kp, Bf, As, S7)) rfl ⟨vI (by simp [q5a, q5b, -Int32.not_lt]), rfl, rfl, (by first | (refine qR_of ?_; simp [q5a, q5b, hS7, -Int32.not_lt]; done) | (simp only [q5a, q5b, if_true, if_false]; exact ⟨rfl, rfl, rfl, rfl, rfl, rfl, rfl⟩))⟩
    · skip
      refine v_aload_n h pX4_kinds_0 7 rfl 1 rfl rfl (v_iload_n h pX4_kinds_0 8 rfl 0 rfl rfl ?_)
      refine v_top (w := .int (-1000001)) (congrArg Value.int q5e) ?_
      refine v_callV h pX4_kinds_0 9 mX4_42 (As := [.int (-1000001)]) (st := []) (kX4_finds _ _ cI cS b E Kp Bf As Q 0 (by decide) (-1000001) (by decide)) v0B v0C (vEmb_rf _ _) 0 rfl rfl rfl rfl rfl rfl rfl (vDet_k ?_)
      show V K (mW cI b (E, Kp, Bf, As, fndS Q 0)) 16 [(3, .int (wfS Q t y n)), (0, .ref (b 0)), (1, .int t), (2, .int y)] [.int (-1000001)]
      generalize hS8 : fndS Q 0 = S8
      exact v_iret h pX4_kinds_0 10 hR hret rfl ((E, Kp, Bf, As, S8)) rfl ⟨vI (by simp [q5a, q5b, q5c, -Int32.not_lt]), rfl, rfl, (by first | (refine qR_of ?_; simp [q5a, q5b, q5c, hS8, -Int32.not_lt]; done) | (simp only [q5a, q5b, q5c, if_true, if_false]; exact ⟨rfl, rfl, rfl, rfl, rfl, rfl, rfl⟩))⟩
set_option maxHeartbeats 300000 in
set_option maxRecDepth 100000 in
theorem kX4_room (l : Launch) (D : va_G) (cI cS : ClassId) (b : Nat → Nat) (E Kp Bf As Q : Nat → Nat → Int32) (n : Nat) (hW : Wf E n) (yb : Nat) (hY : bd (E 9 2) yb) (hyb : yb ≤ 99000) (y v w : Int32) : vMet l D (vT cI cS) yX4_room cX4_room 7 (some .int) 4 89 (mW cI b) v0 [.ref (b 0), .int y, .int v, .int w] (E, Kp, Bf, As, Q) (mPost (some (.int (cond (oyB y n && (inB v 0 999 && inB w 0 20)) (if rmS (fun k => !decide (yearsS n (nI k) E (ix w) 5 (ix y) < v)) (ix y) (2 ^ n) < 0 then (-1000004) else rmS (fun k => !decide (yearsS n (nI k) E (ix w) 5 (ix y) < v)) (ix y) (2 ^ n)) ((-1000001))))) (E) (Kp) (cond (oyB y n && (inB v 0 999 && inB w 0 20)) (if rmS (fun k => !decide (yearsS n (nI k) E (ix w) 5 (ix y) < v)) (ix y) (2 ^ n) < 0 then fndS Q 3 else Q) (fndS Q 0))) := by
  refine vMet_of (by decide) rfl ?_
  intro K hl hD hnL hret h hR hEx
  subst hl hD
  show V K (mW cI b (E, Kp, Bf, As, Q)) 0 [(0, .ref (b 0)), (1, .int y), (2, .int v), (3, .int w)] []
  have hn8 := hW.1
  have hpw := pow_256 hn8
  have hpp := Nat.two_pow_pos n
  refine v_aload_n h pX4_room_0 0 rfl 0 rfl rfl (v_iload_n h pX4_room_0 1 rfl 1 rfl rfl ?_)
  refine v_callV h pX4_room_0 2 mX4_88 (As := [.int y]) (st := []) (kX4_isOyster _ _ cI cS b E Kp Bf As Q n hW.2.1 y) v0B v0C (vEmb_rf _ _) 0 rfl rfl rfl rfl rfl rfl rfl (vDet_k ?_)
  show V K (mW cI b (E, Kp, Bf, As, Q)) 5 [(0, .ref (b 0)), (1, .int y), (2, .int v), (3, .int w)] [.int (bI (oyB y n))]
  refine v_bif_eq (tgt := 32) h pX4_room_0 3 rfl rfl (fun c1 => ?_) (fun c1 => ?_)
  · skip
    refine v_aload_n h pX4_room_0 16 rfl 0 rfl rfl (v_ldc h pX4_room_0 17 wm_104 rfl ?_)
    refine v_callV h pX4_room_0 18 mX4_42 (As := [.int (-1000001)]) (st := []) (kX4_finds _ _ cI cS b E Kp Bf As Q 0 (by decide) (-1000001) (by decide)) v0B v0C (vEmb_rf _ _) 0 rfl rfl rfl rfl rfl rfl rfl (vDet_k ?_)
    show V K (mW cI b (E, Kp, Bf, As, fndS Q 0)) 38 [(0, .ref (b 0)), (1, .int y), (2, .int v), (3, .int w)] [.int (-1000001)]
    generalize hS2 : fndS Q 0 = S2
    exact v_iret h pX4_room_0 19 hR hret rfl ((E, Kp, Bf, As, S2)) rfl ⟨vI (by simp [c1, -Int32.not_lt]), rfl, rfl, (qR_of (by simp [c1, hS2, -Int32.not_lt]))⟩
  · skip
    obtain ⟨e_y, l_y⟩ := oyB_t hn8 c1
    refine v_iload_n h pX4_room_0 4 rfl 2 rfl rfl (v_i2l h pX4_room_0 5 rfl (v_lconst (v := (nI 0).toInt64) h pX4_room_0 6 rfl kl_0 (v_ldc2 h pX4_room_0 7 wm_102 rfl (v_top (w := .long (nI 999).toInt64) (kL 999 _ (by decide)) ?_))))
    refine v_callS h pX4_room_0 8 mX4_50 (As := [.long v.toInt64, .long ((nI 0).toInt64), .long ((nI 999).toInt64)]) (st := []) (kX4_isIn _ _ cI cS v 0 999) v0B v0C (vEmb_u _) rfl rfl rfl rfl rfl (vDet_k ?_)
    show V K (mW cI b (E, Kp, Bf, As, Q)) 17 [(0, .ref (b 0)), (1, .int y), (2, .int v), (3, .int w)] [.int (bI (inB v 0 999))]
    refine v_bif_eq (tgt := 32) h pX4_room_0 9 rfl rfl (fun c3 => ?_) (fun c3 => ?_)
    · skip
      refine v_aload_n h pX4_room_0 16 rfl 0 rfl rfl (v_ldc h pX4_room_0 17 wm_104 rfl ?_)
      refine v_callV h pX4_room_0 18 mX4_42 (As := [.int (-1000001)]) (st := []) (kX4_finds _ _ cI cS b E Kp Bf As Q 0 (by decide) (-1000001) (by decide)) v0B v0C (vEmb_rf _ _) 0 rfl rfl rfl rfl rfl rfl rfl (vDet_k ?_)
      show V K (mW cI b (E, Kp, Bf, As, fndS Q 0)) 38 [(0, .ref (b 0)), (1, .int y), (2, .int v), (3, .int w)] [.int (-1000001)]
      generalize hS4 : fndS Q 0 = S4
      exact v_iret h pX4_room_0 19 hR hret rfl ((E, Kp, Bf, As, S4)) rfl ⟨vI (by simp [c1, c3, -Int32.not_lt]), rfl, rfl, (qR_of (by simp [c1, c3, hS4, -Int32.not_lt]))⟩
    · skip
      refine v_iload_n h pX4_room_0 10 rfl 3 rfl rfl (v_i2l h pX4_room_0 11 rfl (v_lconst (v := (nI 0).toInt64) h pX4_room_0 12 rfl kl_0 (v_ldc2 h pX4_room_0 13 wm_503 rfl (v_top (w := .long (nI 20).toInt64) (kL 20 _ (by decide)) ?_))))
      refine v_callS h pX4_room_0 14 mX4_50 (As := [.long w.toInt64, .long ((nI 0).toInt64), .long ((nI 20).toInt64)]) (st := []) (kX4_isIn _ _ cI cS w 0 20) v0B v0C (vEmb_u _) rfl rfl rfl rfl rfl (vDet_k ?_)
      show V K (mW cI b (E, Kp, Bf, As, Q)) 29 [(0, .ref (b 0)), (1, .int y), (2, .int v), (3, .int w)] [.int (bI (inB w 0 20))]
      refine v_bif_ne (tgt := 39) h pX4_room_0 15 rfl rfl (fun c5 => ?_) (fun c5 => ?_)
      · skip
        obtain ⟨e_w, l_w⟩ := inB_t 20 rfl (by decide) c5
        refine v_iconst h pX4_room_0 20 rfl ki_m1 (v_istore h pX4_room_0 21 (lv' := [(4, .int (-1)), (0, .ref (b 0)), (1, .int y), (2, .int v), (3, .int w)]) rfl hnL rfl rfl (v_aload_n h pX4_room_0 22 rfl 1 rfl rfl (v_get h pX4_room_0 23 fX4_7 0 rfl rfl rfl (v_aload_n h pX4_room_0 24 rfl 1 rfl rfl (v_get h pX4_room_0 25 fX4_19 0 rfl rfl rfl ?_)))))
        refine v_callS h pX4_room_0 26 mX4_132 (As := [.ref (b 1), .ref (b 4)]) (st := []) (kX4_copyRow _ _ cI cS (b 1) (b 4) (pr (fl E) (fl As))) v0B v0C emb_14 rfl rfl rfl rfl rfl (vDet_k ?_)
        show V K (mW cI b (E, Kp, Bf, E, Q)) 53 [(4, .int (-1)), (0, .ref (b 0)), (1, .int y), (2, .int v), (3, .int w)] []
        refine v_iconst h pX4_room_0 27 rfl ki_0 (v_istore h pX4_room_0 28 (lv' := [(5, .int 0), (4, .int (-1)), (0, .ref (b 0)), (1, .int y), (2, .int v), (3, .int w)]) rfl hnL rfl rfl ?_)
        refine v_lv [2, 3, 4, 5, 1, 0] (lv' := [(0, .ref (b 0)), (1, .int y), (2, .int v), (3, .int w), (4, .int (-1)), (5, .int 0)]) rfl ?_
        have LA : ∀ (m iA : Nat), iA ≤ (2 ^ n) → (True) → (2 ^ n) + 1 ≤ iA + m → V K (mW cI b (E, Kp, Bf, E, Q)) 56 [(0, .ref (b 0)), (1, .int y), (2, .int v), (3, .int w), (4, .int (rmS (fun k => !decide (yearsS n (nI k) E (ix w) 5 (ix y) < v)) (ix y) iA)), (5, .int (nI iA))] [] := by
          intro m
          induction m with
          | zero => exact fun iA h1 hh h2 => absurd h2 (by omega)
          | succ m ihA =>
            intro iA hleA hhA hltA
            refine v_iload h pX4_room_0 29 rfl 5 rfl (v_iconst h pX4_room_0 30 rfl ki_1 (v_aload_n h pX4_room_0 31 rfl 0 rfl rfl (v_get h pX4_room_1 0 fX4_7 0 rfl rfl rfl (v_iconst h pX4_room_1 1 rfl ki_0 (v_iald h pX4_room_1 2 0 1 0 rfl rfl rfl rfl rfl (by omega) ?_)))))
            refine v_top (w := .int (E 9 0)) (congrArg Value.int rfl) (v_top (w := .int (nI n)) (congrArg Value.int hW.2.1) (v_ishl h pX4_room_1 3 rfl ?_))
            refine v_top (w := .int (nI (2 ^ n))) (congrArg Value.int (shl_n n (by omega))) ?_
            refine v_ncmp_ge (a := iA) (b := (2 ^ n)) (tgt := 153) h pX4_room_1 4 rfl rfl (by omega) (by omega) (fun c7 => ?_) (fun c7 => ?_)
            · skip
              obtain rfl : (2 ^ n) = iA := by omega
              refine v_aload_n h pX4_room_2 13 rfl 0 rfl rfl (v_iload h pX4_room_2 14 rfl 4 rfl ?_)
              by_cases hneg : rmS (fun k => !decide (yearsS n (nI k) E (ix w) 5 (ix y) < v)) (ix y) (2 ^ n) < 0
              · skip
                refine v_top (w := .int (-1)) (congrArg Value.int (rmS_neg (by omega) hneg)) ?_
                refine v_callV h pX4_room_2 15 mX4_155 (As := [.int (-1)]) (st := []) (kX4_orNone_n _ _ cI cS b E Kp Bf E Q) v0B v0C (vEmb_rf _ _) 0 rfl rfl rfl rfl rfl rfl rfl (vDet_k ?_)
                show V K (mW cI b (E, Kp, Bf, E, fndS Q 3)) 159 [(0, .ref (b 0)), (1, .int y), (2, .int v), (3, .int w), (4, .int (rmS (fun k => !decide (yearsS n (nI k) E (ix w) 5 (ix y) < v)) (ix y) ((2 ^ n)))), (5, .int (nI ((2 ^ n))))] [.int (-1000004)]
                generalize hS8 : fndS Q 3 = S8
                exact v_iret h pX4_room_2 16 hR hret rfl ((E, Kp, Bf, E, S8)) rfl ⟨vI (by simp [c1, c3, c5, c7, hneg, -Int32.not_lt]), rfl, rfl, (qR_of (by simp [c1, c3, c5, c7, hneg, hS8, -Int32.not_lt]))⟩
              · skip
                obtain ⟨e_n, l_n⟩ := rmS_nn (k := 2 ^ n) (by omega) hneg
                refine v_top (w := .int (nI (ix (rmS (fun k => !decide (yearsS n (nI k) E (ix w) 5 (ix y) < v)) (ix y) (2 ^ n))))) (congrArg Value.int e_n) ?_
                refine v_callV h pX4_room_2 15 mX4_155 (As := [.int (nI (ix (rmS (fun k => !decide (yearsS n (nI k) E (ix w) 5 (ix y) < v)) (ix y) (2 ^ n))))]) (st := []) (kX4_orNone _ _ cI cS b E Kp Bf E Q (ix (rmS (fun k => !decide (yearsS n (nI k) E (ix w) 5 (ix y) < v)) (ix y) (2 ^ n))) (by omega)) v0B v0C (vEmb_rf _ _) 0 rfl rfl rfl rfl rfl rfl rfl (vDet_k ?_)
                show V K (mW cI b (E, Kp, Bf, E, Q)) 159 [(0, .ref (b 0)), (1, .int y), (2, .int v), (3, .int w), (4, .int (rmS (fun k => !decide (yearsS n (nI k) E (ix w) 5 (ix y) < v)) (ix y) ((2 ^ n)))), (5, .int (nI ((2 ^ n))))] [.int (nI (ix (rmS (fun k => !decide (yearsS n (nI k) E (ix w) 5 (ix y) < v)) (ix y) (2 ^ n))))]
                refine v_top (w := .int (rmS (fun k => !decide (yearsS n (nI k) E (ix w) 5 (ix y) < v)) (ix y) (2 ^ n))) (congrArg Value.int e_n.symm) ?_
                exact v_iret h pX4_room_2 16 hR hret rfl ((E, Kp, Bf, E, Q)) rfl ⟨vI (by simp [c1, c3, c5, c7, hneg, -Int32.not_lt]), rfl, rfl, (qR_of (by simp [c1, c3, c5, c7, hneg, True, -Int32.not_lt]))⟩
            · skip
              refine v_iload h pX4_room_1 5 rfl 5 rfl (v_iload_n h pX4_room_1 6 rfl 1 rfl rfl (v_top (w := .int (nI (ix y))) (congrArg Value.int e_y) (v_ishr h pX4_room_1 7 rfl (v_iconst h pX4_room_1 8 rfl ki_1 (v_iand h pX4_room_1 9 rfl ?_)))))
              refine v_if_ne (tgt := 147) h pX4_room_1 10 rfl rfl (fun c9 => ?_) (fun c9 => ?_)
              · skip
                rw [sh_bit0 (nI iA) (by omega)] at c9
                refine v_iinc h pX4_room_2 11 (v := nI (iA + 1)) (lv' := [(5, .int (nI (iA + 1))), (0, .ref (b 0)), (1, .int y), (2, .int v), (3, .int w), (4, .int (rmS (fun k => !decide (yearsS n (nI k) E (ix w) 5 (ix y) < v)) (ix y) iA))]) rfl 5 rfl hnL rfl rfl (nI_1 iA) (v_goto (tgt := 56) h pX4_room_2 12 rfl rfl (v_lv [1, 2, 3, 4, 5, 0] (lv' := [(0, .ref (b 0)), (1, .int y), (2, .int v), (3, .int w), (4, .int (rmS (fun k => !decide (yearsS n (nI k) E (ix w) 5 (ix y) < v)) (ix y) iA)), (5, .int (nI (iA + 1)))]) rfl (v_eql (congrArg (fun z : Int32 => ([(0, .ref (b 0)), (1, .int y), (2, .int v), (3, .int w), (4, .int z), (5, .int (nI (iA + 1)))] : List (Nat × Value))) (by rw [rmS, rmT]; simp [c1, c3, c5, c7, c9, True, -Int32.not_lt] : rmS (fun k => !decide (yearsS n (nI k) E (ix w) 5 (ix y) < v)) (ix y) iA = rmS (fun k => !decide (yearsS n (nI k) E (ix w) 5 (ix y) < v)) (ix y) (iA + 1))) ?_)))
                exact ihA (iA + 1) (by omega) (trivial) (by omega)
              · skip
                rw [sh_bit0 (nI iA) (by omega)] at c9
                refine v_iload h pX4_room_1 11 rfl 4 rfl ?_
                refine v_if_lt (tgt := 96) h pX4_room_1 12 rfl rfl (fun c10 => ?_) (fun c10 => ?_)
                · skip
                  refine v_iconst h pX4_room_1 18 rfl ki_0 (v_istore h pX4_room_1 19 (lv' := [(6, .int 0), (0, .ref (b 0)), (1, .int y), (2, .int v), (3, .int w), (4, .int (rmS (fun k => !decide (yearsS n (nI k) E (ix w) 5 (ix y) < v)) (ix y) iA)), (5, .int (nI iA))]) rfl hnL rfl rfl ?_)
                  refine v_lv [1, 2, 3, 4, 5, 6, 0] (lv' := [(0, .ref (b 0)), (1, .int y), (2, .int v), (3, .int w), (4, .int (rmS (fun k => !decide (yearsS n (nI k) E (ix w) 5 (ix y) < v)) (ix y) iA)), (5, .int (nI iA)), (6, .int 0)]) rfl ?_
                  have LB : ∀ (m iB : Nat), iB ≤ (ix w) → (True) → (ix w) + 1 ≤ iB + m → V K (mW cI b (yearsS n (nI iA) E iB, Kp, Bf, E, Q)) 99 [(0, .ref (b 0)), (1, .int y), (2, .int v), (3, .int w), (4, .int (rmS (fun k => !decide (yearsS n (nI k) E (ix w) 5 (ix y) < v)) (ix y) iA)), (5, .int (nI iA)), (6, .int (nI iB))] [] := by
                    intro m
                    induction m with
                    | zero => exact fun iB h1 hh h2 => absurd h2 (by omega)
                    | succ m ihB =>
                      intro iB hleB hhB hltB
                      have hWSB : Wf (yearsS n (nI iA) E iB) n := (Wf_years hW _ iB)
                      generalize hSB : yearsS n (nI iA) E iB = SB at hWSB ⊢
                      have hYB : bd (SB 9 2) (yb + iB) := by rw [← hSB]; exact years_bd hY _ (by omega)
                      refine v_iload h pX4_room_1 20 rfl 6 rfl (v_iload_n h pX4_room_1 21 rfl 3 rfl rfl (v_top (w := .int (nI (ix w))) (congrArg Value.int e_w) ?_))
                      refine v_ncmp_ge (a := iB) (b := ix w) (tgt := 117) h pX4_room_1 22 rfl rfl (by omega) (by omega) (fun c13 => ?_) (fun c13 => ?_)
                      · skip
                        obtain rfl : (ix w) = iB := by omega
                        refine v_aload_n h pX4_room_1 28 rfl 0 rfl rfl (v_iload_n h pX4_room_1 29 rfl 1 rfl rfl (v_top (w := .int (nI (ix y))) (congrArg Value.int e_y) (v_iconst h pX4_room_1 30 rfl ki_3 ?_)))
                        refine v_callV h pX4_room_1 31 mX4_64 (As := [.int (nI (ix y)), .int 3]) (st := []) (kX4_its _ _ cI cS b SB Kp Bf E Q (ix y) 3 (by omega) (by omega)) v0B v0C (vEmb_rf _ _) 0 rfl rfl rfl rfl rfl rfl rfl (vDet_k ?_)
                        show V K (mW cI b (SB, Kp, Bf, E, Q)) 123 [(0, .ref (b 0)), (1, .int y), (2, .int v), (3, .int w), (4, .int (rmS (fun k => !decide (yearsS n (nI k) E (ix w) 5 (ix y) < v)) (ix y) iA)), (5, .int (nI iA)), (6, .int (nI ((ix w))))] [.int (SB 5 (ix y))]
                        refine v_iload_n h pX4_room_2 0 rfl 2 rfl rfl ?_
                        refine v_icmp_lt (tgt := 132) h pX4_room_2 1 rfl rfl (fun c14 => ?_) (fun c14 => ?_)
                        · skip
                          refine v_iload h pX4_room_2 4 rfl 4 rfl (v_istore h pX4_room_2 5 (lv' := [(4, .int (rmS (fun k => !decide (yearsS n (nI k) E (ix w) 5 (ix y) < v)) (ix y) iA)), (0, .ref (b 0)), (1, .int y), (2, .int v), (3, .int w), (5, .int (nI iA)), (6, .int (nI ((ix w))))]) rfl hnL rfl rfl (v_aload_n h pX4_room_2 6 rfl 1 rfl rfl (v_get h pX4_room_2 7 fX4_19 0 rfl rfl rfl (v_aload_n h pX4_room_2 8 rfl 1 rfl rfl (v_get h pX4_room_2 9 fX4_7 0 rfl rfl rfl ?_)))))
                          refine v_callS h pX4_room_2 10 mX4_132 (As := [.ref (b 4), .ref (b 1)]) (st := []) (kX4_copyRow _ _ cI cS (b 4) (b 1) (pr (fl E) (fl SB))) v0B v0C emb_41 rfl rfl rfl rfl rfl (vDet_k ?_)
                          show V K (mW cI b (E, Kp, Bf, E, Q)) 147 [(4, .int (rmS (fun k => !decide (yearsS n (nI k) E (ix w) 5 (ix y) < v)) (ix y) iA)), (0, .ref (b 0)), (1, .int y), (2, .int v), (3, .int w), (5, .int (nI iA)), (6, .int (nI ((ix w))))] []
                          refine v_iinc h pX4_room_2 11 (v := nI (iA + 1)) (lv' := [(5, .int (nI (iA + 1))), (4, .int (rmS (fun k => !decide (yearsS n (nI k) E (ix w) 5 (ix y) < v)) (ix y) iA)), (0, .ref (b 0)), (1, .int y), (2, .int v), (3, .int w), (6, .int (nI ((ix w))))]) rfl 5 rfl hnL rfl rfl (nI_1 iA) (v_goto (tgt := 56) h pX4_room_2 12 rfl rfl (v_lv [2, 3, 4, 5, 1, 0] (lv' := [(0, .ref (b 0)), (1, .int y), (2, .int v), (3, .int w), (4, .int (rmS (fun k => !decide (yearsS n (nI k) E (ix w) 5 (ix y) < v)) (ix y) iA)), (5, .int (nI (iA + 1)))]) rfl (v_eql (congrArg (fun z : Int32 => ([(0, .ref (b 0)), (1, .int y), (2, .int v), (3, .int w), (4, .int z), (5, .int (nI (iA + 1)))] : List (Nat × Value))) (by rw [rmS, rmT]; simp [c1, c3, c5, c7, c9, c10, c13, c14, hSB, -Int32.not_lt] : rmS (fun k => !decide (yearsS n (nI k) E (ix w) 5 (ix y) < v)) (ix y) iA = rmS (fun k => !decide (yearsS n (nI k) E (ix w) 5 (ix y) < v)) (ix y) (iA + 1))) ?_)))
                          exact ihA (iA + 1) (by omega) (trivial) (by omega)
                        · skip
                          refine v_iload h pX4_room_2 2 rfl 5 rfl (v_goto (tgt := 134) h pX4_room_2 3 rfl rfl (v_istore h pX4_room_2 5 (lv' := [(4, .int (nI iA)), (0, .ref (b 0)), (1, .int y), (2, .int v), (3, .int w), (5, .int (nI iA)), (6, .int (nI ((ix w))))]) rfl hnL rfl rfl (v_aload_n h pX4_room_2 6 rfl 1 rfl rfl (v_get h pX4_room_2 7 fX4_19 0 rfl rfl rfl (v_aload_n h pX4_room_2 8 rfl 1 rfl rfl ?_)))))
                          refine v_get h pX4_room_2 9 fX4_7 0 rfl rfl rfl ?_
                          refine v_callS h pX4_room_2 10 mX4_132 (As := [.ref (b 4), .ref (b 1)]) (st := []) (kX4_copyRow _ _ cI cS (b 4) (b 1) (pr (fl E) (fl SB))) v0B v0C emb_41 rfl rfl rfl rfl rfl (vDet_k ?_)
                          show V K (mW cI b (E, Kp, Bf, E, Q)) 147 [(4, .int (nI iA)), (0, .ref (b 0)), (1, .int y), (2, .int v), (3, .int w), (5, .int (nI iA)), (6, .int (nI ((ix w))))] []
                          refine v_iinc h pX4_room_2 11 (v := nI (iA + 1)) (lv' := [(5, .int (nI (iA + 1))), (4, .int (nI iA)), (0, .ref (b 0)), (1, .int y), (2, .int v), (3, .int w), (6, .int (nI ((ix w))))]) rfl 5 rfl hnL rfl rfl (nI_1 iA) (v_goto (tgt := 56) h pX4_room_2 12 rfl rfl (v_lv [2, 3, 4, 5, 1, 0] (lv' := [(0, .ref (b 0)), (1, .int y), (2, .int v), (3, .int w), (4, .int (nI iA)), (5, .int (nI (iA + 1)))]) rfl (v_eql (congrArg (fun z : Int32 => ([(0, .ref (b 0)), (1, .int y), (2, .int v), (3, .int w), (4, .int z), (5, .int (nI (iA + 1)))] : List (Nat × Value))) (by rw [rmS, rmT]; simp [c1, c3, c5, c7, c9, c10, c13, c14, hSB, -Int32.not_lt] : nI iA = rmS (fun k => !decide (yearsS n (nI k) E (ix w) 5 (ix y) < v)) (ix y) (iA + 1))) ?_)))
                          exact ihA (iA + 1) (by omega) (trivial) (by omega)
                      · skip
                        refine v_aload_n h pX4_room_1 23 rfl 0 rfl rfl (v_iload h pX4_room_1 24 rfl 5 rfl ?_)
                        refine v_callV h pX4_room_1 25 mX4_111 (As := [.int (nI iA)]) (st := []) (kX4_yearBut _ _ cI cS b SB Kp Bf E Q n hWSB (yb + iB) hYB (by omega) (nI iA)) v0B v0C (vEmb_rf _ _) 0 rfl rfl rfl rfl rfl rfl rfl (vDet_k ?_)
                        show V K (mW cI b (yearS n (nI iA) SB, Kp, Bf, E, Q)) 111 [(0, .ref (b 0)), (1, .int y), (2, .int v), (3, .int w), (4, .int (rmS (fun k => !decide (yearsS n (nI k) E (ix w) 5 (ix y) < v)) (ix y) iA)), (5, .int (nI iA)), (6, .int (nI iB))] []
                        have hWS15 : Wf (yearS n (nI iA) SB) n := (Wf_year hWSB _)
                        generalize hS15 : yearS n (nI iA) SB = S15 at hWS15 ⊢
                        refine v_iinc h pX4_room_1 26 (v := nI (iB + 1)) (lv' := [(6, .int (nI (iB + 1))), (0, .ref (b 0)), (1, .int y), (2, .int v), (3, .int w), (4, .int (rmS (fun k => !decide (yearsS n (nI k) E (ix w) 5 (ix y) < v)) (ix y) iA)), (5, .int (nI iA))]) rfl 6 rfl hnL rfl rfl (nI_1 iB) (v_goto (tgt := 99) h pX4_room_1 27 rfl rfl (v_lv [1, 2, 3, 4, 5, 6, 0] (lv' := [(0, .ref (b 0)), (1, .int y), (2, .int v), (3, .int w), (4, .int (rmS (fun k => !decide (yearsS n (nI k) E (ix w) 5 (ix y) < v)) (ix y) iA)), (5, .int (nI iA)), (6, .int (nI (iB + 1)))]) rfl (v_eqw (ws' := mW cI b (yearsS n (nI iA) E (iB + 1), Kp, Bf, E, Q)) (by subst hS15; rw [yearsS, hSB]) ?_)))
                        exact ihB (iB + 1) (by omega) (trivial) (by omega)
                  exact LB ((ix w) + 1) 0 (by omega) trivial (by omega)
                · skip
                  obtain ⟨e_r, l_r⟩ := rmS_nn (k := iA) (by omega) c10
                  have hp1 := popc_le iA
                  have hp2 := popc_le (ix (rmS (fun k => !decide (yearsS n (nI k) E (ix w) 5 (ix y) < v)) (ix y) iA))
                  refine v_iload h pX4_room_1 13 rfl 5 rfl ?_
                  refine v_callS h pX4_room_1 14 mX4_160 (As := [.int (nI iA)]) (st := []) (kX4_many _ _ cI cS iA (by first | exact setN_256 _ (by omega) | omega)) v0B v0C (vEmb_u _) rfl rfl rfl rfl rfl (vDet_k ?_)
                  show V K (mW cI b (E, Kp, Bf, E, Q)) 88 [(0, .ref (b 0)), (1, .int y), (2, .int v), (3, .int w), (4, .int (rmS (fun k => !decide (yearsS n (nI k) E (ix w) 5 (ix y) < v)) (ix y) iA)), (5, .int (nI iA))] [.int (nI (popc iA))]
                  refine v_iload h pX4_room_1 15 rfl 4 rfl ?_
                  refine v_top (w := .int (nI (ix (rmS (fun k => !decide (yearsS n (nI k) E (ix w) 5 (ix y) < v)) (ix y) iA)))) (congrArg Value.int e_r) ?_
                  refine v_callS h pX4_room_1 16 mX4_160 (As := [.int (nI (ix (rmS (fun k => !decide (yearsS n (nI k) E (ix w) 5 (ix y) < v)) (ix y) iA)))]) (st := [.int (nI (popc iA))]) (kX4_many _ _ cI cS (ix (rmS (fun k => !decide (yearsS n (nI k) E (ix w) 5 (ix y) < v)) (ix y) iA)) (by first | exact setN_256 _ (by omega) | omega)) v0B v0C (vEmb_u _) rfl rfl rfl rfl rfl (vDet_k ?_)
                  show V K (mW cI b (E, Kp, Bf, E, Q)) 93 [(0, .ref (b 0)), (1, .int y), (2, .int v), (3, .int w), (4, .int (rmS (fun k => !decide (yearsS n (nI k) E (ix w) 5 (ix y) < v)) (ix y) iA)), (5, .int (nI iA))] [.int (nI (popc (ix (rmS (fun k => !decide (yearsS n (nI k) E (ix w) 5 (ix y) < v)) (ix y) iA)))), .int (nI (popc iA))]
                  refine v_ncmp_ge (a := popc iA) (b := popc (ix (rmS (fun k => !decide (yearsS n (nI k) E (ix w) 5 (ix y) < v)) (ix y) iA))) (tgt := 147) h pX4_room_1 17 rfl rfl (by omega) (by omega) (fun c16 => ?_) (fun c16 => ?_)
                  · skip
                    have c16n := Nat.not_lt.mpr c16
                    refine v_iinc h pX4_room_2 11 (v := nI (iA + 1)) (lv' := [(5, .int (nI (iA + 1))), (0, .ref (b 0)), (1, .int y), (2, .int v), (3, .int w), (4, .int (rmS (fun k => !decide (yearsS n (nI k) E (ix w) 5 (ix y) < v)) (ix y) iA))]) rfl 5 rfl hnL rfl rfl (nI_1 iA) (v_goto (tgt := 56) h pX4_room_2 12 rfl rfl (v_lv [1, 2, 3, 4, 5, 0] (lv' := [(0, .ref (b 0)), (1, .int y), (2, .int v), (3, .int w), (4, .int (rmS (fun k => !decide (yearsS n (nI k) E (ix w) 5 (ix y) < v)) (ix y) iA)), (5, .int (nI (iA + 1)))]) rfl (v_eql (congrArg (fun z : Int32 => ([(0, .ref (b 0)), (1, .int y), (2, .int v), (3, .int w), (4, .int z), (5, .int (nI (iA + 1)))] : List (Nat × Value))) (by rw [rmS, rmT]; simp [c1, c3, c5, c7, c9, c10, c16n, True, -Int32.not_lt] : rmS (fun k => !decide (yearsS n (nI k) E (ix w) 5 (ix y) < v)) (ix y) iA = rmS (fun k => !decide (yearsS n (nI k) E (ix w) 5 (ix y) < v)) (ix y) (iA + 1))) ?_)))
                    exact ihA (iA + 1) (by omega) (trivial) (by omega)
                  · skip
                    refine v_iconst h pX4_room_1 18 rfl ki_0 (v_istore h pX4_room_1 19 (lv' := [(6, .int 0), (0, .ref (b 0)), (1, .int y), (2, .int v), (3, .int w), (4, .int (rmS (fun k => !decide (yearsS n (nI k) E (ix w) 5 (ix y) < v)) (ix y) iA)), (5, .int (nI iA))]) rfl hnL rfl rfl ?_)
                    refine v_lv [1, 2, 3, 4, 5, 6, 0] (lv' := [(0, .ref (b 0)), (1, .int y), (2, .int v), (3, .int w), (4, .int (rmS (fun k => !decide (yearsS n (nI k) E (ix w) 5 (ix y) < v)) (ix y) iA)), (5, .int (nI iA)), (6, .int 0)]) rfl ?_
                    have LB : ∀ (m iB : Nat), iB ≤ (ix w) → (True) → (ix w) + 1 ≤ iB + m → V K (mW cI b (yearsS n (nI iA) E iB, Kp, Bf, E, Q)) 99 [(0, .ref (b 0)), (1, .int y), (2, .int v), (3, .int w), (4, .int (rmS (fun k => !decide (yearsS n (nI k) E (ix w) 5 (ix y) < v)) (ix y) iA)), (5, .int (nI iA)), (6, .int (nI iB))] [] := by
                      intro m
                      induction m with
                      | zero => exact fun iB h1 hh h2 => absurd h2 (by omega)
                      | succ m ihB =>
                        intro iB hleB hhB hltB
                        have hWSB : Wf (yearsS n (nI iA) E iB) n := (Wf_years hW _ iB)
                        generalize hSB : yearsS n (nI iA) E iB = SB at hWSB ⊢
                        have hYB : bd (SB 9 2) (yb + iB) := by rw [← hSB]; exact years_bd hY _ (by omega)
                        refine v_iload h pX4_room_1 20 rfl 6 rfl (v_iload_n h pX4_room_1 21 rfl 3 rfl rfl (v_top (w := .int (nI (ix w))) (congrArg Value.int e_w) ?_))
                        refine v_ncmp_ge (a := iB) (b := ix w) (tgt := 117) h pX4_room_1 22 rfl rfl (by omega) (by omega) (fun c19 => ?_) (fun c19 => ?_)
                        · skip
                          obtain rfl : (ix w) = iB := by omega
                          refine v_aload_n h pX4_room_1 28 rfl 0 rfl rfl (v_iload_n h pX4_room_1 29 rfl 1 rfl rfl (v_top (w := .int (nI (ix y))) (congrArg Value.int e_y) (v_iconst h pX4_room_1 30 rfl ki_3 ?_)))
                          refine v_callV h pX4_room_1 31 mX4_64 (As := [.int (nI (ix y)), .int 3]) (st := []) (kX4_its _ _ cI cS b SB Kp Bf E Q (ix y) 3 (by omega) (by omega)) v0B v0C (vEmb_rf _ _) 0 rfl rfl rfl rfl rfl rfl rfl (vDet_k ?_)
                          show V K (mW cI b (SB, Kp, Bf, E, Q)) 123 [(0, .ref (b 0)), (1, .int y), (2, .int v), (3, .int w), (4, .int (rmS (fun k => !decide (yearsS n (nI k) E (ix w) 5 (ix y) < v)) (ix y) iA)), (5, .int (nI iA)), (6, .int (nI ((ix w))))] [.int (SB 5 (ix y))]
                          refine v_iload_n h pX4_room_2 0 rfl 2 rfl rfl ?_
                          refine v_icmp_lt (tgt := 132) h pX4_room_2 1 rfl rfl (fun c20 => ?_) (fun c20 => ?_)
                          · skip
                            refine v_iload h pX4_room_2 4 rfl 4 rfl (v_istore h pX4_room_2 5 (lv' := [(4, .int (rmS (fun k => !decide (yearsS n (nI k) E (ix w) 5 (ix y) < v)) (ix y) iA)), (0, .ref (b 0)), (1, .int y), (2, .int v), (3, .int w), (5, .int (nI iA)), (6, .int (nI ((ix w))))]) rfl hnL rfl rfl (v_aload_n h pX4_room_2 6 rfl 1 rfl rfl (v_get h pX4_room_2 7 fX4_19 0 rfl rfl rfl (v_aload_n h pX4_room_2 8 rfl 1 rfl rfl (v_get h pX4_room_2 9 fX4_7 0 rfl rfl rfl ?_)))))
                            refine v_callS h pX4_room_2 10 mX4_132 (As := [.ref (b 4), .ref (b 1)]) (st := []) (kX4_copyRow _ _ cI cS (b 4) (b 1) (pr (fl E) (fl SB))) v0B v0C emb_41 rfl rfl rfl rfl rfl (vDet_k ?_)
                            show V K (mW cI b (E, Kp, Bf, E, Q)) 147 [(4, .int (rmS (fun k => !decide (yearsS n (nI k) E (ix w) 5 (ix y) < v)) (ix y) iA)), (0, .ref (b 0)), (1, .int y), (2, .int v), (3, .int w), (5, .int (nI iA)), (6, .int (nI ((ix w))))] []
                            refine v_iinc h pX4_room_2 11 (v := nI (iA + 1)) (lv' := [(5, .int (nI (iA + 1))), (4, .int (rmS (fun k => !decide (yearsS n (nI k) E (ix w) 5 (ix y) < v)) (ix y) iA)), (0, .ref (b 0)), (1, .int y), (2, .int v), (3, .int w), (6, .int (nI ((ix w))))]) rfl 5 rfl hnL rfl rfl (nI_1 iA) (v_goto (tgt := 56) h pX4_room_2 12 rfl rfl (v_lv [2, 3, 4, 5, 1, 0] (lv' := [(0, .ref (b 0)), (1, .int y), (2, .int v), (3, .int w), (4, .int (rmS (fun k => !decide (yearsS n (nI k) E (ix w) 5 (ix y) < v)) (ix y) iA)), (5, .int (nI (iA + 1)))]) rfl (v_eql (congrArg (fun z : Int32 => ([(0, .ref (b 0)), (1, .int y), (2, .int v), (3, .int w), (4, .int z), (5, .int (nI (iA + 1)))] : List (Nat × Value))) (by rw [rmS, rmT]; simp [c1, c3, c5, c7, c9, c10, c16, c19, c20, hSB, -Int32.not_lt] : rmS (fun k => !decide (yearsS n (nI k) E (ix w) 5 (ix y) < v)) (ix y) iA = rmS (fun k => !decide (yearsS n (nI k) E (ix w) 5 (ix y) < v)) (ix y) (iA + 1))) ?_)))
                            exact ihA (iA + 1) (by omega) (trivial) (by omega)
                          · skip
                            refine v_iload h pX4_room_2 2 rfl 5 rfl (v_goto (tgt := 134) h pX4_room_2 3 rfl rfl (v_istore h pX4_room_2 5 (lv' := [(4, .int (nI iA)), (0, .ref (b 0)), (1, .int y), (2, .int v), (3, .int w), (5, .int (nI iA)), (6, .int (nI ((ix w))))]) rfl hnL rfl rfl (v_aload_n h pX4_room_2 6 rfl 1 rfl rfl (v_get h pX4_room_2 7 fX4_19 0 rfl rfl rfl (v_aload_n h pX4_room_2 8 rfl 1 rfl rfl ?_)))))
                            refine v_get h pX4_room_2 9 fX4_7 0 rfl rfl rfl ?_
                            refine v_callS h pX4_room_2 10 mX4_132 (As := [.ref (b 4), .ref (b 1)]) (st := []) (kX4_copyRow _ _ cI cS (b 4) (b 1) (pr (fl E) (fl SB))) v0B v0C emb_41 rfl rfl rfl rfl rfl (vDet_k ?_)
                            show V K (mW cI b (E, Kp, Bf, E, Q)) 147 [(4, .int (nI iA)), (0, .ref (b 0)), (1, .int y), (2, .int v), (3, .int w), (5, .int (nI iA)), (6, .int (nI ((ix w))))] []
                            refine v_iinc h pX4_room_2 11 (v := nI (iA + 1)) (lv' := [(5, .int (nI (iA + 1))), (4, .int (nI iA)), (0, .ref (b 0)), (1, .int y), (2, .int v), (3, .int w), (6, .int (nI ((ix w))))]) rfl 5 rfl hnL rfl rfl (nI_1 iA) (v_goto (tgt := 56) h pX4_room_2 12 rfl rfl (v_lv [2, 3, 4, 5, 1, 0] (lv' := [(0, .ref (b 0)), (1, .int y), (2, .int v), (3, .int w), (4, .int (nI iA)), (5, .int (nI (iA + 1)))]) rfl (v_eql (congrArg (fun z : Int32 => ([(0, .ref (b 0)), (1, .int y), (2, .int v), (3, .int w), (4, .int z), (5, .int (nI (iA + 1)))] : List (Nat × Value))) (by rw [rmS, rmT]; simp [c1, c3, c5, c7, c9, c10, c16, c19, c20, hSB, -Int32.not_lt] : nI iA = rmS (fun k => !decide (yearsS n (nI k) E (ix w) 5 (ix y) < v)) (ix y) (iA + 1))) ?_)))
                            exact ihA (iA + 1) (by omega) (trivial) (by omega)
                        · skip
                          refine v_aload_n h pX4_room_1 23 rfl 0 rfl rfl (v_iload h pX4_room_1 24 rfl 5 rfl ?_)
                          refine v_callV h pX4_room_1 25 mX4_111 (As := [.int (nI iA)]) (st := []) (kX4_yearBut _ _ cI cS b SB Kp Bf E Q n hWSB (yb + iB) hYB (by omega) (nI iA)) v0B v0C (vEmb_rf _ _) 0 rfl rfl rfl rfl rfl rfl rfl (vDet_k ?_)
                          show V K (mW cI b (yearS n (nI iA) SB, Kp, Bf, E, Q)) 111 [(0, .ref (b 0)), (1, .int y), (2, .int v), (3, .int w), (4, .int (rmS (fun k => !decide (yearsS n (nI k) E (ix w) 5 (ix y) < v)) (ix y) iA)), (5, .int (nI iA)), (6, .int (nI iB))] []
                          have hWS21 : Wf (yearS n (nI iA) SB) n := (Wf_year hWSB _)
                          generalize hS21 : yearS n (nI iA) SB = S21 at hWS21 ⊢
                          refine v_iinc h pX4_room_1 26 (v := nI (iB + 1)) (lv' := [(6, .int (nI (iB + 1))), (0, .ref (b 0)), (1, .int y), (2, .int v), (3, .int w), (4, .int (rmS (fun k => !decide (yearsS n (nI k) E (ix w) 5 (ix y) < v)) (ix y) iA)), (5, .int (nI iA))]) rfl 6 rfl hnL rfl rfl (nI_1 iB) (v_goto (tgt := 99) h pX4_room_1 27 rfl rfl (v_lv [1, 2, 3, 4, 5, 6, 0] (lv' := [(0, .ref (b 0)), (1, .int y), (2, .int v), (3, .int w), (4, .int (rmS (fun k => !decide (yearsS n (nI k) E (ix w) 5 (ix y) < v)) (ix y) iA)), (5, .int (nI iA)), (6, .int (nI (iB + 1)))]) rfl (v_eqw (ws' := mW cI b (yearsS n (nI iA) E (iB + 1), Kp, Bf, E, Q)) (by subst hS21; rw [yearsS, hSB]) ?_)))
                          exact ihB (iB + 1) (by omega) (trivial) (by omega)
                    exact LB ((ix w) + 1) 0 (by omega) trivial (by omega)
        exact LA ((2 ^ n) + 1) 0 (by omega) trivial (by omega)
      · skip
        refine v_aload_n h pX4_room_0 16 rfl 0 rfl rfl (v_ldc h pX4_room_0 17 wm_104 rfl ?_)
        refine v_callV h pX4_room_0 18 mX4_42 (As := [.int (-1000001)]) (st := []) (kX4_finds _ _ cI cS b E Kp Bf As Q 0 (by decide) (-1000001) (by decide)) v0B v0C (vEmb_rf _ _) 0 rfl rfl rfl rfl rfl rfl rfl (vDet_k ?_)
        show V K (mW cI b (E, Kp, Bf, As, fndS Q 0)) 38 [(0, .ref (b 0)), (1, .int y), (2, .int v), (3, .int w)] [.int (-1000001)]
        generalize hS22 : fndS Q 0 = S22
        exact v_iret h pX4_room_0 19 hR hret rfl ((E, Kp, Bf, As, S22)) rfl ⟨vI (by simp [c1, c3, c5, -Int32.not_lt]), rfl, rfl, (qR_of (by simp [c1, c3, c5, hS22, -Int32.not_lt]))⟩
