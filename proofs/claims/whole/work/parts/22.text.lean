set_option maxHeartbeats 300000 in
set_option maxRecDepth 100000 in
theorem kX4_text (l : Launch) (D : va_G) (cI cS : ClassId) (b : Nat → Nat) (E Kp Bf As Q : Nat → Nat → Int32) (n : Nat) (hW : Wf E n) (yb : Nat) (hY : bd (E 9 2) yb) (hyb : yb ≤ 99000) (hQ : WfQ Q) : vMet l D (vT cI cS) yX4_text cX4_text 3 (some .int) 5 114 (mW cI b) v0 [.ref (b 0)] (E, Kp, Bf, As, Q) (mPost (some (.int (txA (textS (Q 1) (ix (Q 6 1)) E n)))) (txE (textS (Q 1) (ix (Q 6 1)) E n) E) (Kp) (up Q 6 1 0)) := by
  refine vMet_of (by decide) rfl ?_
  intro K hl hD hnL hret h hR hEx
  subst hl hD
  show V K (mW cI b (E, Kp, Bf, As, Q)) 0 [(0, .ref (b 0))] []
  have hn8 := hW.1
  have hT := hQ.2.2.1
  have hL := hQ.taped
  have hLb := hQ.tapedL
  generalize hLL : ix (Q 6 1) = L at hL hLb
  refine v_aload_n h pX4_text_0 0 rfl 0 rfl rfl (v_get h pX4_text_0 1 fX4_7 0 rfl rfl rfl (v_aload_n h pX4_text_0 2 rfl 0 rfl rfl (v_get h pX4_text_0 3 fX4_16 0 rfl rfl rfl ?_)))
  refine v_callS h pX4_text_0 4 mX4_132 (As := [.ref (b 1), .ref (b 3)]) (st := []) (kX4_copyRow _ _ cI cS (b 1) (b 3) (pr (fl E) (fl Bf))) v0B v0C emb_13 rfl rfl rfl rfl rfl (vDet_k ?_)
  show V K (mW cI b (E, Kp, E, As, Q)) 11 [(0, .ref (b 0))] []
  refine v_aload_n h pX4_text_0 5 rfl 0 rfl rfl (v_iconst h pX4_text_0 6 rfl ki_0 (v_puti h pX4_text_0 7 gX4_196 0 (ws' := mW cI b (E, Kp, E, As, up Q 6 6 0)) rfl rfl rfl mW_p6 (v_aload_n h pX4_text_0 8 rfl 0 rfl rfl ?_)))
  refine v_callV h pX4_text_0 9 mX4_242 (As := []) (st := []) (kX4_nextToken _ _ cI cS b E Kp E As (up Q 6 6 0) 0 L rfl (by omega) hL hLb hT) v0B v0C (vEmb_rf _ _) 0 rfl rfl rfl rfl rfl rfl rfl (vDet_k ?_)
  show V K (mW cI b (E, Kp, E, As, tkF (up Q 6 6 0) L (sk (Q 1) L 0) (Q 6 8))) 20 [(0, .ref (b 0))] []
  refine v_eqw (ws' := mW cI b (E, Kp, E, As, tkF Q L (sk (Q 1) L 0) (Q 6 8))) (by rw [tkF_0]) ?_
  refine v_iconst h pX4_text_0 10 rfl ki_1 (v_istore_n h pX4_text_0 11 (lv' := [(1, .int 1), (0, .ref (b 0))]) rfl rfl hnL rfl rfl (v_aload_n h pX4_text_0 12 rfl 1 rfl rfl ?_))
  refine v_callV h pX4_text_0 13 mX4_261 (As := []) (st := []) (kX4_itemHere _ _ cI cS b E Kp E As Q L (sk (Q 1) L 0) (Q 6 8) (sc_le _ (by omega)) hL hLb hT n hW) v0B v0C (vEmb_rf _ _) 0 rfl rfl rfl rfl rfl rfl rfl (fun v1 u1 q1 => ?_)
  rcases q1 with ⟨E1, n1, f1, hr, rfl, rfl⟩ | ⟨p1, E1, f1, hr, rfl, rfl⟩
  · skip
    obtain ⟨hW1, hge1, hle1⟩ := it_ok hW (sc_le _ (by omega)) hr
    show V K (mW cI b (E1, Kp, E, As, tkF Q L f1 (Q 6 8))) 26 [(1, .int 1), (0, .ref (b 0))] [.int 1]
    refine v_istore_n h pX4_text_0 14 (lv' := [(2, .int 1), (1, .int 1), (0, .ref (b 0))]) rfl rfl hnL rfl rfl ?_
    refine v_lv [2, 1, 0] (lv' := [(0, .ref (b 0)), (1, .int 1), (2, .int 1)]) rfl ?_
    have LA : ∀ (m : Nat) (E2 : Nat → Nat → Int32) (n2 f2 it : Nat), Wf E2 n2 → f2 ≤ L → L + 1 ≤ f2 + m → conS (Q 1) L m E2 n2 f2 it = textS (Q 1) (ix (Q 6 1)) E n → V K (mW cI b (E2, Kp, E, As, tkF Q L f2 (Q 6 8))) 27 [(0, .ref (b 0)), (1, .int (nI it)), (2, .int 1)] [] := by
      intro m
      induction m with
      | zero => exact fun E2 n2 f2 it h1 h2 h3 h4 => absurd h3 (by omega)
      | succ m ihA =>
        intro E2 n2 f2 it hW2 hf2 hm2 hcon
        have htk4 := tk_le (Q 1) L f2
        have hnl2 := nx_le (T := Q 1) hf2
        refine v_iload_n h pX4_text_0 15 rfl 2 rfl rfl ?_
        refine v_if_eq (tgt := 54) h pX4_text_0 16 rfl rfl (fun c2 => absurd c2 (by decide)) (fun c2 => ?_)
        refine v_aload_n h pX4_text_0 17 rfl 0 rfl rfl (v_get h pX4_text_0 18 fX4_211 0 rfl rfl rfl (v_top (w := .int (nI (tk (Q 1) L f2))) rfl (v_iconst h pX4_text_0 19 rfl ki_3 ?_)))
        refine v_ncmp_ne (a := tk (Q 1) L f2) (b := 3) (tgt := 54) h pX4_text_0 20 rfl rfl (by omega) (by omega) (fun c3 => ?_) (fun c3 => ?_)
        · skip
          refine v_iload_n h pX4_text_0 28 rfl 2 rfl rfl ?_
          refine v_if_eq (tgt := 76) h pX4_text_0 29 rfl rfl (fun c4 => absurd c4 (by decide)) (fun c4 => ?_)
          refine v_aload_n h pX4_text_0 30 rfl 0 rfl rfl (v_get h pX4_text_0 31 fX4_211 0 rfl rfl rfl (v_top (w := .int (nI (tk (Q 1) L f2))) rfl ?_))
          refine v_nif_eq (a := tk (Q 1) L f2) (tgt := 72) h pX4_text_1 0 rfl rfl (by omega) (fun c5 => ?_) (fun c5 => ?_)
          · skip
            have hRR : textS (Q 1) (ix (Q 6 1)) E n = .ok (E2, n2, it) := by rw [← hcon, conS, if_neg c3, if_pos c5]
            refine v_iconst h pX4_text_1 4 rfl ki_1 (v_goto (tgt := 77) h pX4_text_1 5 rfl rfl (v_istore_n h pX4_text_1 7 (lv' := [(2, .int 1), (0, .ref (b 0)), (1, .int (nI it))]) rfl rfl hnL rfl rfl (v_aload_n h pX4_text_1 8 rfl 1 rfl rfl (v_iconst h pX4_text_1 9 rfl ki_0 (v_puti h pX4_text_1 10 gX4_193 0 (ws' := mW cI b (E2, Kp, E, As, up (tkF Q L f2 (Q 6 8)) 6 1 0)) rfl rfl rfl mW_p1 ?_)))))
            refine v_iload_n h pX4_text_1 11 rfl 0 rfl rfl ?_
            refine v_if_ne (tgt := 98) h pX4_text_1 12 rfl rfl (fun c6 => ?_) (fun c6 => absurd c6 (by decide))
            refine v_iload_n h pX4_text_1 18 rfl 0 rfl rfl ?_
            refine v_if_eq (tgt := 106) h pX4_text_1 19 rfl rfl (fun c7 => absurd c7 (by decide)) (fun c7 => ?_)
            refine v_iload_n h pX4_text_1 20 rfl 2 rfl rfl (v_goto (tgt := 112) h pX4_text_1 21 rfl rfl ?_)
            exact v_iret h pX4_text_1 26 hR hret rfl ((E2, Kp, E, As, up (tkF Q L f2 (Q 6 8)) 6 1 0)) rfl ⟨vI (by rw [hRR]; rfl), (by rw [hRR]; rfl), rfl, ⟨rfl, rfl, rfl, rfl, rfl, rfl, rfl⟩⟩
          · skip
            have hRR : textS (Q 1) (ix (Q 6 1)) E n = .error f2 := by rw [← hcon, conS, if_neg c3, if_neg (by omega)]
            refine v_aload_n h pX4_text_1 1 rfl 0 rfl rfl ?_
            refine v_callV h pX4_text_1 2 mX4_227 (As := []) (st := []) (kX4_fails _ _ cI cS b E2 Kp E As Q L f2 (Q 6 8) hf2 hL hLb hT) v0B v0C (vEmb_rf _ _) 0 rfl rfl rfl rfl rfl rfl rfl (vDet_k ?_)
            show V K (mW cI b (E2, Kp, E, As, tkF Q L f2 (nI f2))) 69 [(0, .ref (b 0)), (1, .int (nI it)), (2, .int 1)] [.int 0]
            refine v_if_eq (tgt := 76) h pX4_text_1 3 rfl rfl (fun c8 => ?_) (fun c8 => absurd c8 (by decide))
            refine v_iconst h pX4_text_1 6 rfl ki_0 (v_istore_n h pX4_text_1 7 (lv' := [(2, .int 0), (0, .ref (b 0)), (1, .int (nI it))]) rfl rfl hnL rfl rfl (v_aload_n h pX4_text_1 8 rfl 1 rfl rfl (v_iconst h pX4_text_1 9 rfl ki_0 (v_puti h pX4_text_1 10 gX4_193 0 (ws' := mW cI b (E2, Kp, E, As, up (tkF Q L f2 (nI f2)) 6 1 0)) rfl rfl rfl mW_p1 (v_iload_n h pX4_text_1 11 rfl 0 rfl rfl ?_)))))
            refine v_if_ne (tgt := 98) h pX4_text_1 12 rfl rfl (fun c9 => absurd c9 (by decide)) (fun c9 => ?_)
            refine v_aload_n h pX4_text_1 13 rfl 1 rfl rfl (v_get h pX4_text_1 14 fX4_16 0 rfl rfl rfl (v_aload_n h pX4_text_1 15 rfl 1 rfl rfl (v_get h pX4_text_1 16 fX4_7 0 rfl rfl rfl ?_)))
            refine v_callS h pX4_text_1 17 mX4_132 (As := [.ref (b 3), .ref (b 1)]) (st := []) (kX4_copyRow _ _ cI cS (b 3) (b 1) (pr (fl E) (fl E2))) v0B v0C emb_31 rfl rfl rfl rfl rfl (vDet_k ?_)
            show V K (mW cI b (E, Kp, E, As, up (tkF Q L f2 (nI f2)) 6 1 0)) 98 [(2, .int 0), (0, .ref (b 0)), (1, .int (nI it))] []
            refine v_iload_n h pX4_text_1 18 rfl 0 rfl rfl ?_
            refine v_if_eq (tgt := 106) h pX4_text_1 19 rfl rfl (fun c10 => ?_) (fun c10 => absurd c10 (by decide))
            refine v_iconst h pX4_text_1 22 rfl ki_m1 (v_aload_n h pX4_text_1 23 rfl 1 rfl rfl (v_get h pX4_text_1 24 fX4_217 0 rfl rfl rfl (v_top (w := .int ((tkF Q L f2 (nI f2)) 6 8)) rfl (v_isub h pX4_text_1 25 rfl ?_))))
            exact v_iret h pX4_text_1 26 hR hret rfl ((E, Kp, E, As, up (tkF Q L f2 (nI f2)) 6 1 0)) rfl ⟨vI (by rw [hRR]; rfl), (by rw [hRR]; rfl), rfl, ⟨rfl, rfl, rfl, rfl, rfl, rfl, rfl⟩⟩
        · skip
          refine v_aload_n h pX4_text_0 21 rfl 0 rfl rfl ?_
          refine v_callV h pX4_text_0 22 mX4_242 (As := []) (st := []) (kX4_nextToken _ _ cI cS b E2 Kp E As (tkF Q L f2 (Q 6 8)) (en (Q 1) L f2) L rfl (en_le hf2) hL hLb hT) v0B v0C (vEmb_rf _ _) 0 rfl rfl rfl rfl rfl rfl rfl (vDet_k ?_)
          show V K (mW cI b (E2, Kp, E, As, tkF (tkF Q L f2 (Q 6 8)) L (nx (Q 1) L f2) (Q 6 8))) 43 [(0, .ref (b 0)), (1, .int (nI it)), (2, .int 1)] []
          refine v_eqw (ws' := mW cI b (E2, Kp, E, As, tkF Q L (nx (Q 1) L f2) (Q 6 8))) (by rw [tkF_tkF]) ?_
          refine v_aload_n h pX4_text_0 23 rfl 0 rfl rfl ?_
          refine v_callV h pX4_text_0 24 mX4_261 (As := []) (st := []) (kX4_itemHere _ _ cI cS b E2 Kp E As Q L (nx (Q 1) L f2) (Q 6 8) (nx_le hf2) hL hLb hT n2 hW2) v0B v0C (vEmb_rf _ _) 0 rfl rfl rfl rfl rfl rfl rfl (fun v11 u11 q11 => ?_)
          rcases q11 with ⟨E1, n1, f1, hr, rfl, rfl⟩ | ⟨p1, E1, f1, hr, rfl, rfl⟩
          · skip
            obtain ⟨hW1, hge1, hle1⟩ := it_ok hW2 (nx_le hf2) hr
            show V K (mW cI b (E1, Kp, E, As, tkF Q L f1 (Q 6 8))) 47 [(0, .ref (b 0)), (1, .int (nI it)), (2, .int 1)] [.int 1]
            refine v_istore_n h pX4_text_0 25 (lv' := [(2, .int 1), (0, .ref (b 0)), (1, .int (nI it))]) rfl rfl hnL rfl rfl (v_iinc h pX4_text_0 26 (v := nI (it + 1)) (lv' := [(1, .int (nI (it + 1))), (2, .int 1), (0, .ref (b 0))]) rfl 2 rfl hnL rfl rfl (nI_1 it) (v_goto (tgt := 27) h pX4_text_0 27 rfl rfl (v_lv [2, 0, 1] (lv' := [(0, .ref (b 0)), (1, .int (nI (it + 1))), (2, .int 1)]) rfl ?_)))
            have hgt := nx_gt (T := Q 1) (L := L) (f := f2) (by omega)
            exact ihA E1 n1 f1 (it + 1) hW1 hle1 (by omega) (by rw [← hcon, conS, if_pos c3, hr])
          · skip
            have hRR : textS (Q 1) (ix (Q 6 1)) E n = .error p1 := by rw [← hcon, conS, if_pos c3, hr]
            show V K (mW cI b (E1, Kp, E, As, tkF Q L f1 (nI p1))) 47 [(0, .ref (b 0)), (1, .int (nI it)), (2, .int 1)] [.int 0]
            refine v_istore_n h pX4_text_0 25 (lv' := [(2, .int 0), (0, .ref (b 0)), (1, .int (nI it))]) rfl rfl hnL rfl rfl (v_iinc h pX4_text_0 26 (v := nI (it + 1)) (lv' := [(1, .int (nI (it + 1))), (2, .int 0), (0, .ref (b 0))]) rfl 2 rfl hnL rfl rfl (nI_1 it) (v_goto (tgt := 27) h pX4_text_0 27 rfl rfl (v_iload_n h pX4_text_0 15 rfl 1 rfl rfl ?_)))
            refine v_if_eq (tgt := 54) h pX4_text_0 16 rfl rfl (fun c12 => ?_) (fun c12 => absurd c12 (by decide))
            refine v_iload_n h pX4_text_0 28 rfl 1 rfl rfl ?_
            refine v_if_eq (tgt := 76) h pX4_text_0 29 rfl rfl (fun c13 => ?_) (fun c13 => absurd c13 (by decide))
            refine v_iconst h pX4_text_1 6 rfl ki_0 (v_istore_n h pX4_text_1 7 (lv' := [(2, .int 0), (1, .int (nI (it + 1))), (0, .ref (b 0))]) rfl rfl hnL rfl rfl (v_aload_n h pX4_text_1 8 rfl 2 rfl rfl (v_iconst h pX4_text_1 9 rfl ki_0 (v_puti h pX4_text_1 10 gX4_193 0 (ws' := mW cI b (E1, Kp, E, As, up (tkF Q L f1 (nI p1)) 6 1 0)) rfl rfl rfl mW_p1 (v_iload_n h pX4_text_1 11 rfl 0 rfl rfl ?_)))))
            refine v_if_ne (tgt := 98) h pX4_text_1 12 rfl rfl (fun c14 => absurd c14 (by decide)) (fun c14 => ?_)
            refine v_aload_n h pX4_text_1 13 rfl 2 rfl rfl (v_get h pX4_text_1 14 fX4_16 0 rfl rfl rfl (v_aload_n h pX4_text_1 15 rfl 2 rfl rfl (v_get h pX4_text_1 16 fX4_7 0 rfl rfl rfl ?_)))
            refine v_callS h pX4_text_1 17 mX4_132 (As := [.ref (b 3), .ref (b 1)]) (st := []) (kX4_copyRow _ _ cI cS (b 3) (b 1) (pr (fl E) (fl E1))) v0B v0C emb_31 rfl rfl rfl rfl rfl (vDet_k ?_)
            show V K (mW cI b (E, Kp, E, As, up (tkF Q L f1 (nI p1)) 6 1 0)) 98 [(2, .int 0), (1, .int (nI (it + 1))), (0, .ref (b 0))] []
            refine v_iload_n h pX4_text_1 18 rfl 0 rfl rfl ?_
            refine v_if_eq (tgt := 106) h pX4_text_1 19 rfl rfl (fun c15 => ?_) (fun c15 => absurd c15 (by decide))
            refine v_iconst h pX4_text_1 22 rfl ki_m1 (v_aload_n h pX4_text_1 23 rfl 2 rfl rfl (v_get h pX4_text_1 24 fX4_217 0 rfl rfl rfl (v_top (w := .int ((tkF Q L f1 (nI p1)) 6 8)) rfl (v_isub h pX4_text_1 25 rfl ?_))))
            exact v_iret h pX4_text_1 26 hR hret rfl ((E, Kp, E, As, up (tkF Q L f1 (nI p1)) 6 1 0)) rfl ⟨vI (by rw [hRR]; rfl), (by rw [hRR]; rfl), rfl, ⟨rfl, rfl, rfl, rfl, rfl, rfl, rfl⟩⟩
    exact LA (L + 1) E1 n1 f1 1 hW1 hle1 (by omega) (by rw [hLL, textS, hr])
  · skip
    have hRR : textS (Q 1) (ix (Q 6 1)) E n = .error p1 := by rw [hLL, textS, hr]
    show V K (mW cI b (E1, Kp, E, As, tkF Q L f1 (nI p1))) 26 [(1, .int 1), (0, .ref (b 0))] [.int 0]
    refine v_istore_n h pX4_text_0 14 (lv' := [(2, .int 0), (1, .int 1), (0, .ref (b 0))]) rfl rfl hnL rfl rfl ?_
    refine v_iload_n h pX4_text_0 15 rfl 0 rfl rfl ?_
    refine v_if_eq (tgt := 54) h pX4_text_0 16 rfl rfl (fun c16 => ?_) (fun c16 => absurd c16 (by decide))
    refine v_iload_n h pX4_text_0 28 rfl 0 rfl rfl ?_
    refine v_if_eq (tgt := 76) h pX4_text_0 29 rfl rfl (fun c17 => ?_) (fun c17 => absurd c17 (by decide))
    refine v_iconst h pX4_text_1 6 rfl ki_0 (v_istore_n h pX4_text_1 7 (lv' := [(2, .int 0), (1, .int 1), (0, .ref (b 0))]) rfl rfl hnL rfl rfl (v_aload_n h pX4_text_1 8 rfl 2 rfl rfl (v_iconst h pX4_text_1 9 rfl ki_0 (v_puti h pX4_text_1 10 gX4_193 0 (ws' := mW cI b (E1, Kp, E, As, up (tkF Q L f1 (nI p1)) 6 1 0)) rfl rfl rfl mW_p1 (v_iload_n h pX4_text_1 11 rfl 0 rfl rfl ?_)))))
    refine v_if_ne (tgt := 98) h pX4_text_1 12 rfl rfl (fun c18 => absurd c18 (by decide)) (fun c18 => ?_)
    refine v_aload_n h pX4_text_1 13 rfl 2 rfl rfl (v_get h pX4_text_1 14 fX4_16 0 rfl rfl rfl (v_aload_n h pX4_text_1 15 rfl 2 rfl rfl (v_get h pX4_text_1 16 fX4_7 0 rfl rfl rfl ?_)))
    refine v_callS h pX4_text_1 17 mX4_132 (As := [.ref (b 3), .ref (b 1)]) (st := []) (kX4_copyRow _ _ cI cS (b 3) (b 1) (pr (fl E) (fl E1))) v0B v0C emb_31 rfl rfl rfl rfl rfl (vDet_k ?_)
    show V K (mW cI b (E, Kp, E, As, up (tkF Q L f1 (nI p1)) 6 1 0)) 98 [(2, .int 0), (1, .int 1), (0, .ref (b 0))] []
    refine v_iload_n h pX4_text_1 18 rfl 0 rfl rfl ?_
    refine v_if_eq (tgt := 106) h pX4_text_1 19 rfl rfl (fun c19 => ?_) (fun c19 => absurd c19 (by decide))
    refine v_iconst h pX4_text_1 22 rfl ki_m1 (v_aload_n h pX4_text_1 23 rfl 2 rfl rfl (v_get h pX4_text_1 24 fX4_217 0 rfl rfl rfl (v_top (w := .int ((tkF Q L f1 (nI p1)) 6 8)) rfl (v_isub h pX4_text_1 25 rfl ?_))))
    exact v_iret h pX4_text_1 26 hR hret rfl ((E, Kp, E, As, up (tkF Q L f1 (nI p1)) 6 1 0)) rfl ⟨vI (by rw [hRR]; rfl), (by rw [hRR]; rfl), rfl, ⟨rfl, rfl, rfl, rfl, rfl, rfl, rfl⟩⟩
