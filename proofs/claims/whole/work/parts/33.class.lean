set_option maxHeartbeats 300000 in
set_option maxRecDepth 100000 in
theorem kX2_readInto (l : Launch) (D : va_G) (cI cS : ClassId) (a b : Nat → Nat) (x : xS) (P E : Nat → Nat → Int32) (L : Nat) (hL : P 4 0 = nI L) (hLb : L ≤ 120) (n : Nat) (hW : Wf E n) : vMet l D (vT cI cS) yX2_readInto cX2_readInto 4 (some .int) 8 175 (uW cI a b) (exA x) [.ref (a 0), .ref (b 0)] (P, E) (tiC P (textS (P 0) L E n)) := by
  refine vMet_of (by decide) rfl ?_
  intro K hl hD hnL hret h hR hEx
  subst hl hD
  show V K (uW cI a b (P, E)) 0 [(0, .ref (a 0)), (1, .ref (b 0))] []
  refine v_aload_n h pX2_readInto_0 0 rfl 0 rfl rfl ?_
  refine v_callV h pX2_readInto_0 1 mX2_37 (As := []) (st := []) (kX2_splitIntoTokens _ _ cI cS a x P L hL hLb) (exA_B _) (exA_C hEx.2) uW_1 0 rfl rfl rfl rfl rfl rfl rfl (fun v0 u0 q0 => ?_)
  obtain ⟨rfl, N, hNL, hSt, hNe, rfl⟩ := q0
  show V K (uW cI a b (tpS P L N 0 (P 4 3), E)) 4 [(0, .ref (a 0)), (1, .ref (b 0))] []
  refine v_iconst h pX2_readInto_0 2 rfl ki_0 (v_istore_n h pX2_readInto_0 3 (lv' := [(2, .int 0), (0, .ref (a 0)), (1, .ref (b 0))]) rfl rfl hnL rfl rfl (v_iconst h pX2_readInto_0 4 rfl ki_1 (v_istore_n h pX2_readInto_0 5 (lv' := [(3, .int 1), (2, .int 0), (0, .ref (a 0)), (1, .ref (b 0))]) rfl rfl hnL rfl rfl ?_)))
  refine v_iload_n h pX2_readInto_0 6 rfl 0 rfl rfl ?_
  refine v_if_eq (tgt := 71) h pX2_readInto_0 7 rfl rfl (fun c2 => absurd c2 (by decide)) (fun c2 => ?_)
  refine v_iload_n h pX2_readInto_0 8 rfl 1 rfl rfl (v_bipush h pX2_readInto_0 9 rfl kb_120 ?_)
  refine v_ncmp_ge (a := 0) (b := 120) (tgt := 71) h pX2_readInto_0 10 rfl rfl (by omega) (by omega) (fun c0 => absurd c0 (by omega)) (fun c0 => ?_)
  refine v_aload_n h pX2_readInto_0 11 rfl 2 rfl rfl (v_aload_n h pX2_readInto_0 12 rfl 3 rfl rfl ?_)
  refine v_callV h pX2_readInto_0 13 mX2_40 (As := [.ref (b 0)]) (st := []) (kX2_readItem _ _ cI cS a b x P E L N 0 (P 4 3) hNe hNL hLb n hW (by omega)) (exA_B _) (exA_C hEx.2) (vEmb_rf _ _) 0 rfl rfl rfl rfl rfl rfl rfl (fun v3 u3 q3 => ?_)
  rcases q3 with ⟨E1, n1, k1, w1, hr, hk1, hk1N, rfl, rfl⟩ | ⟨E1, k1, w1, hr, hk1N, rfl, rfl⟩
  · skip
    obtain ⟨hW1, -, -⟩ := it_ok hW (St_le (P 0) L _) hr
    have hSl := St_le (P 0) L k1
    show V K (uW cI a b (tpS P L N k1 w1, E1)) 23 [(3, .int 1), (2, .int 0), (0, .ref (a 0)), (1, .ref (b 0))] [.int 1]
    refine v_if_ne (tgt := 38) h pX2_readInto_0 14 rfl rfl (fun c4 => ?_) (fun c4 => absurd c4 (by decide))
    refine v_iinc h pX2_readInto_0 23 (v := nI 1) (lv' := [(2, .int (nI 1)), (3, .int 1), (0, .ref (a 0)), (1, .ref (b 0))]) rfl 1 rfl hnL rfl rfl rfl (v_aload_n h pX2_readInto_0 24 rfl 2 rfl rfl (v_get h pX2_readInto_0 25 fX2_15 0 rfl rfl rfl (v_aload_n h pX2_readInto_0 26 rfl 2 rfl rfl (v_get h pX2_readInto_0 27 fX2_31 0 rfl rfl rfl (v_top (w := .int (nI k1)) rfl ?_)))))
    refine v_iald h pX2_readInto_0 28 k1 2 0 rfl rfl rfl rfl rfl (by omega) (v_top (w := .int (nI (so (P 0) L (St (P 0) L k1)))) (congrArg Value.int (tp_1 (k := k1) (v := w1) (by omega))) ?_)
    have hs17 := so_le (P 0) L (St (P 0) L k1)
    refine v_bipush h pX2_readInto_0 29 rfl kb_15 ?_
    refine v_ncmp_ne (a := so (P 0) L (St (P 0) L k1)) (b := 15) (tgt := 59) h pX2_readInto_0 30 rfl rfl (by omega) (by omega) (fun c5 => ?_) (fun c5 => ?_)
    · skip
      refine v_iconst h pX2_readInto_1 1 rfl ki_0 (v_istore_n h pX2_readInto_1 2 (lv' := [(3, .int 0), (2, .int (nI 1)), (0, .ref (a 0)), (1, .ref (b 0))]) rfl rfl hnL rfl rfl (v_aload_n h pX2_readInto_1 3 rfl 2 rfl rfl (v_bipush h pX2_readInto_1 4 rfl kb_15 ?_)))
      refine v_callV h pX2_readInto_1 5 mX2_44 (As := [.int 15]) (st := []) (kX2_passIf _ _ cI cS a P L N k1 15 w1 hNe hNL hLb (by omega) (by omega)) v0B v0C uW_1 0 rfl rfl rfl rfl rfl rfl rfl (vDet_k ?_)
      show V K (uW cI a b (tpS P L N (pfK (P 0) L k1 15) w1, E1)) 67 [(3, .int 0), (2, .int (nI 1)), (0, .ref (a 0)), (1, .ref (b 0))] [.int (bI (decide (so (P 0) L (St (P 0) L k1) = 15)))]
      refine v_pop h pX2_readInto_1 6 rfl rfl ?_
      refine v_eqw (ws' := uW cI a b (tpS P L N k1 w1, E1)) (by rw [pfK_f c5]) ?_
      refine v_goto (tgt := 8) h pX2_readInto_1 7 rfl rfl ?_
      refine v_iload_n h pX2_readInto_0 6 rfl 0 rfl rfl ?_
      refine v_if_eq (tgt := 71) h pX2_readInto_0 7 rfl rfl (fun c6 => ?_) (fun c6 => absurd c6 (by decide))
      refine v_aload_n h pX2_readInto_1 8 rfl 2 rfl rfl (v_get h pX2_readInto_1 9 fX2_15 0 rfl rfl rfl (v_aload_n h pX2_readInto_1 10 rfl 2 rfl rfl (v_get h pX2_readInto_1 11 fX2_31 0 rfl rfl rfl (v_top (w := .int (nI k1)) rfl (v_iald h pX2_readInto_1 12 k1 2 0 rfl rfl rfl rfl rfl (by omega) ?_)))))
      refine v_top (w := .int (nI (so (P 0) L (St (P 0) L k1)))) (congrArg Value.int (tp_1 (k := k1) (v := w1) (by omega))) ?_
      have hs17 := so_le (P 0) L (St (P 0) L k1)
      refine v_bipush h pX2_readInto_1 13 rfl kb_16 ?_
      refine v_ncmp_ne (a := so (P 0) L (St (P 0) L k1)) (b := 16) (tgt := 89) h pX2_readInto_1 14 rfl rfl (by omega) (by omega) (fun c7 => ?_) (fun c7 => ?_)
      · skip
        have hRR : textS (P 0) L E n = .error (St (P 0) L k1) := by rw [txt_k hr, con_xm (by omega) c5 c7]
        refine v_iconst h pX2_readInto_1 17 rfl ki_m1 (v_aload_n h pX2_readInto_1 18 rfl 2 rfl rfl (v_get h pX2_readInto_1 19 fX2_18 0 rfl rfl rfl (v_aload_n h pX2_readInto_1 20 rfl 2 rfl rfl (v_get h pX2_readInto_1 21 fX2_31 0 rfl rfl rfl (v_top (w := .int (nI k1)) rfl ?_)))))
        refine v_iald h pX2_readInto_1 22 k1 3 0 rfl rfl rfl rfl rfl (by omega) (v_top (w := .int (nI (St (P 0) L k1))) (congrArg Value.int (tp_2 (k := k1) (v := w1) (by omega))) (v_isub h pX2_readInto_1 23 rfl ?_))
        exact v_iret h pX2_readInto_1 24 hR hret rfl ((tpS P L N k1 w1, E1)) rfl ⟨vI (by rw [hRR]; rfl), (fun _ _ _ e => by rw [hRR] at e; cases e), (fun _ e => by rw [hRR] at e; cases e; omega), ⟨rfl, rfl⟩⟩
      · skip
        have hRR : textS (P 0) L E n = .ok (E1, n1, 1) := by rw [txt_k hr, con_16m (by omega) c7]
        refine v_iload_n h pX2_readInto_1 15 rfl 1 rfl rfl (v_goto (tgt := 100) h pX2_readInto_1 16 rfl rfl ?_)
        exact v_iret h pX2_readInto_1 24 hR hret rfl ((tpS P L N k1 w1, E1)) rfl ⟨vI (by rw [hRR]; rfl), (fun _ _ _ e => ⟨(ok_inj hRR e).1, by rw [← (ok_inj hRR e).2]; omega⟩), (fun _ e => by rw [hRR] at e; cases e), ⟨rfl, rfl⟩⟩
    · skip
      refine v_iconst h pX2_readInto_0 31 rfl ki_1 (v_goto (tgt := 60) h pX2_readInto_1 0 rfl rfl (v_istore_n h pX2_readInto_1 2 (lv' := [(3, .int 1), (2, .int (nI 1)), (0, .ref (a 0)), (1, .ref (b 0))]) rfl rfl hnL rfl rfl (v_aload_n h pX2_readInto_1 3 rfl 2 rfl rfl (v_bipush h pX2_readInto_1 4 rfl kb_15 ?_))))
      refine v_callV h pX2_readInto_1 5 mX2_44 (As := [.int 15]) (st := []) (kX2_passIf _ _ cI cS a P L N k1 15 w1 hNe hNL hLb (by omega) (by omega)) v0B v0C uW_1 0 rfl rfl rfl rfl rfl rfl rfl (vDet_k ?_)
      show V K (uW cI a b (tpS P L N (pfK (P 0) L k1 15) w1, E1)) 67 [(3, .int 1), (2, .int (nI 1)), (0, .ref (a 0)), (1, .ref (b 0))] [.int (bI (decide (so (P 0) L (St (P 0) L k1) = 15)))]
      refine v_pop h pX2_readInto_1 6 rfl rfl ?_
      refine v_eqw (ws' := uW cI a b (tpS P L N (k1 + 1) w1, E1)) (by rw [pfK_t c5]) ?_
      have hk1L := so_N hNe (k := k1) (by omega) (by omega)
      refine v_goto (tgt := 8) h pX2_readInto_1 7 rfl rfl ?_
      refine v_lv [2, 3, 1, 0] (lv' := [(0, .ref (a 0)), (1, .ref (b 0)), (2, .int (nI 1)), (3, .int 1)]) rfl ?_
      have LA : ∀ (m : Nat) (E2 : Nat → Nat → Int32) (n2 k2 it : Nat) (w2 : Int32), Wf E2 n2 → k2 < N → 2 * it ≤ k2 + 1 → so (P 0) L (St (P 0) L k2) = 15 → L + 1 ≤ St (P 0) L k2 + m → conS (P 0) L m E2 n2 (St (P 0) L k2) it = textS (P 0) L E n → V K (uW cI a b (tpS P L N (k2 + 1) w2, E2)) 8 [(0, .ref (a 0)), (1, .ref (b 0)), (2, .int (nI it)), (3, .int 1)] [] := by
        intro m
        induction m with
        | zero => exact fun E2 n2 k2 it w2 h1 h2 h3 h4 h5 => absurd h5 (by have := St_le (P 0) L k2; omega)
        | succ m ihA =>
          intro E2 n2 k2 it w2 hW2 hk2 hit hso hm2 hcon
          refine v_iload_n h pX2_readInto_0 6 rfl 3 rfl rfl ?_
          refine v_if_eq (tgt := 71) h pX2_readInto_0 7 rfl rfl (fun c8 => absurd c8 (by decide)) (fun c8 => ?_)
          refine v_iload_n h pX2_readInto_0 8 rfl 2 rfl rfl (v_bipush h pX2_readInto_0 9 rfl kb_120 ?_)
          refine v_ncmp_ge (a := it) (b := 120) (tgt := 71) h pX2_readInto_0 10 rfl rfl (by omega) (by omega) (fun c0 => absurd c0 (by omega)) (fun c0 => ?_)
          refine v_aload_n h pX2_readInto_0 11 rfl 0 rfl rfl (v_aload_n h pX2_readInto_0 12 rfl 1 rfl rfl ?_)
          refine v_callV h pX2_readInto_0 13 mX2_40 (As := [.ref (b 0)]) (st := []) (kX2_readItem _ _ cI cS a b x P E2 L N (k2 + 1) w2 hNe hNL hLb n2 hW2 (by omega)) (exA_B _) (exA_C hEx.2) (vEmb_rf _ _) 0 rfl rfl rfl rfl rfl rfl rfl (fun v9 u9 q9 => ?_)
          rcases q9 with ⟨E1, n1, k1, w1, hr, hk1, hk1N, rfl, rfl⟩ | ⟨E1, k1, w1, hr, hk1N, rfl, rfl⟩
          · skip
            obtain ⟨hW1, -, -⟩ := it_ok hW2 (St_le (P 0) L _) hr
            have hSl := St_le (P 0) L k1
            show V K (uW cI a b (tpS P L N k1 w1, E1)) 23 [(0, .ref (a 0)), (1, .ref (b 0)), (2, .int (nI it)), (3, .int 1)] [.int 1]
            refine v_if_ne (tgt := 38) h pX2_readInto_0 14 rfl rfl (fun c10 => ?_) (fun c10 => absurd c10 (by decide))
            refine v_iinc h pX2_readInto_0 23 (v := nI (it + 1)) (lv' := [(2, .int (nI (it + 1))), (0, .ref (a 0)), (1, .ref (b 0)), (3, .int 1)]) rfl 2 rfl hnL rfl rfl (nI_1 it) (v_aload_n h pX2_readInto_0 24 rfl 1 rfl rfl (v_get h pX2_readInto_0 25 fX2_15 0 rfl rfl rfl (v_aload_n h pX2_readInto_0 26 rfl 1 rfl rfl (v_get h pX2_readInto_0 27 fX2_31 0 rfl rfl rfl (v_top (w := .int (nI k1)) rfl ?_)))))
            refine v_iald h pX2_readInto_0 28 k1 2 0 rfl rfl rfl rfl rfl (by omega) (v_top (w := .int (nI (so (P 0) L (St (P 0) L k1)))) (congrArg Value.int (tp_1 (k := k1) (v := w1) (by omega))) ?_)
            have hs17 := so_le (P 0) L (St (P 0) L k1)
            refine v_bipush h pX2_readInto_0 29 rfl kb_15 ?_
            refine v_ncmp_ne (a := so (P 0) L (St (P 0) L k1)) (b := 15) (tgt := 59) h pX2_readInto_0 30 rfl rfl (by omega) (by omega) (fun c11 => ?_) (fun c11 => ?_)
            · skip
              refine v_iconst h pX2_readInto_1 1 rfl ki_0 (v_istore_n h pX2_readInto_1 2 (lv' := [(3, .int 0), (2, .int (nI (it + 1))), (0, .ref (a 0)), (1, .ref (b 0))]) rfl rfl hnL rfl rfl (v_aload_n h pX2_readInto_1 3 rfl 2 rfl rfl (v_bipush h pX2_readInto_1 4 rfl kb_15 ?_)))
              refine v_callV h pX2_readInto_1 5 mX2_44 (As := [.int 15]) (st := []) (kX2_passIf _ _ cI cS a P L N k1 15 w1 hNe hNL hLb (by omega) (by omega)) v0B v0C uW_1 0 rfl rfl rfl rfl rfl rfl rfl (vDet_k ?_)
              show V K (uW cI a b (tpS P L N (pfK (P 0) L k1 15) w1, E1)) 67 [(3, .int 0), (2, .int (nI (it + 1))), (0, .ref (a 0)), (1, .ref (b 0))] [.int (bI (decide (so (P 0) L (St (P 0) L k1) = 15)))]
              refine v_pop h pX2_readInto_1 6 rfl rfl ?_
              refine v_eqw (ws' := uW cI a b (tpS P L N k1 w1, E1)) (by rw [pfK_f c11]) ?_
              refine v_goto (tgt := 8) h pX2_readInto_1 7 rfl rfl (v_iload_n h pX2_readInto_0 6 rfl 0 rfl rfl ?_)
              refine v_if_eq (tgt := 71) h pX2_readInto_0 7 rfl rfl (fun c12 => ?_) (fun c12 => absurd c12 (by decide))
              refine v_aload_n h pX2_readInto_1 8 rfl 2 rfl rfl (v_get h pX2_readInto_1 9 fX2_15 0 rfl rfl rfl (v_aload_n h pX2_readInto_1 10 rfl 2 rfl rfl (v_get h pX2_readInto_1 11 fX2_31 0 rfl rfl rfl (v_top (w := .int (nI k1)) rfl (v_iald h pX2_readInto_1 12 k1 2 0 rfl rfl rfl rfl rfl (by omega) ?_)))))
              refine v_top (w := .int (nI (so (P 0) L (St (P 0) L k1)))) (congrArg Value.int (tp_1 (k := k1) (v := w1) (by omega))) ?_
              have hs17 := so_le (P 0) L (St (P 0) L k1)
              refine v_bipush h pX2_readInto_1 13 rfl kb_16 ?_
              refine v_ncmp_ne (a := so (P 0) L (St (P 0) L k1)) (b := 16) (tgt := 89) h pX2_readInto_1 14 rfl rfl (by omega) (by omega) (fun c13 => ?_) (fun c13 => ?_)
              · skip
                have hgt := St_gt hso (show k2 < k1 by omega)
                have hRR : textS (P 0) L E n = .error (St (P 0) L k1) := by rw [← hcon, con_3k hso hr, con_xm (by omega) c11 c13]
                refine v_iconst h pX2_readInto_1 17 rfl ki_m1 (v_aload_n h pX2_readInto_1 18 rfl 2 rfl rfl (v_get h pX2_readInto_1 19 fX2_18 0 rfl rfl rfl (v_aload_n h pX2_readInto_1 20 rfl 2 rfl rfl (v_get h pX2_readInto_1 21 fX2_31 0 rfl rfl rfl (v_top (w := .int (nI k1)) rfl ?_)))))
                refine v_iald h pX2_readInto_1 22 k1 3 0 rfl rfl rfl rfl rfl (by omega) (v_top (w := .int (nI (St (P 0) L k1))) (congrArg Value.int (tp_2 (k := k1) (v := w1) (by omega))) (v_isub h pX2_readInto_1 23 rfl ?_))
                exact v_iret h pX2_readInto_1 24 hR hret rfl ((tpS P L N k1 w1, E1)) rfl ⟨vI (by rw [hRR]; rfl), (fun _ _ _ e => by rw [hRR] at e; cases e), (fun _ e => by rw [hRR] at e; cases e; omega), ⟨rfl, rfl⟩⟩
              · skip
                have hgt := St_gt hso (show k2 < k1 by omega)
                have hRR : textS (P 0) L E n = .ok (E1, n1, it + 1) := by rw [← hcon, con_3k hso hr, con_16m (by omega) c13]
                refine v_iload_n h pX2_readInto_1 15 rfl 1 rfl rfl (v_goto (tgt := 100) h pX2_readInto_1 16 rfl rfl ?_)
                exact v_iret h pX2_readInto_1 24 hR hret rfl ((tpS P L N k1 w1, E1)) rfl ⟨vI (by rw [hRR]; rfl), (fun _ _ _ e => ⟨(ok_inj hRR e).1, by rw [← (ok_inj hRR e).2]; omega⟩), (fun _ e => by rw [hRR] at e; cases e), ⟨rfl, rfl⟩⟩
            · skip
              refine v_iconst h pX2_readInto_0 31 rfl ki_1 (v_goto (tgt := 60) h pX2_readInto_1 0 rfl rfl (v_istore_n h pX2_readInto_1 2 (lv' := [(3, .int 1), (2, .int (nI (it + 1))), (0, .ref (a 0)), (1, .ref (b 0))]) rfl rfl hnL rfl rfl (v_aload_n h pX2_readInto_1 3 rfl 2 rfl rfl (v_bipush h pX2_readInto_1 4 rfl kb_15 ?_))))
              refine v_callV h pX2_readInto_1 5 mX2_44 (As := [.int 15]) (st := []) (kX2_passIf _ _ cI cS a P L N k1 15 w1 hNe hNL hLb (by omega) (by omega)) v0B v0C uW_1 0 rfl rfl rfl rfl rfl rfl rfl (vDet_k ?_)
              show V K (uW cI a b (tpS P L N (pfK (P 0) L k1 15) w1, E1)) 67 [(3, .int 1), (2, .int (nI (it + 1))), (0, .ref (a 0)), (1, .ref (b 0))] [.int (bI (decide (so (P 0) L (St (P 0) L k1) = 15)))]
              refine v_pop h pX2_readInto_1 6 rfl rfl ?_
              refine v_eqw (ws' := uW cI a b (tpS P L N (k1 + 1) w1, E1)) (by rw [pfK_t c11]) ?_
              have hk1L := so_N hNe (k := k1) (by omega) (by omega)
              refine v_goto (tgt := 8) h pX2_readInto_1 7 rfl rfl (v_lv [2, 3, 1, 0] (lv' := [(0, .ref (a 0)), (1, .ref (b 0)), (2, .int (nI (it + 1))), (3, .int 1)]) rfl ?_)
              have hgt := St_gt hso (show k2 < k1 by omega)
              exact ihA E1 n1 k1 (it + 1) w1 hW1 (by omega) (by omega) c11 (by omega) (by rw [← hcon, con_3k hso hr])
          · skip
            have hSl := St_le (P 0) L k1
            show V K (uW cI a b (tpS P L N k1 w1, E1)) 23 [(0, .ref (a 0)), (1, .ref (b 0)), (2, .int (nI it)), (3, .int 1)] [.int 0]
            refine v_if_ne (tgt := 38) h pX2_readInto_0 14 rfl rfl (fun c14 => absurd c14 (by decide)) (fun c14 => ?_)
            have hRR : textS (P 0) L E n = .error (St (P 0) L k1) := by rw [← hcon, con_3 hso hr]
            refine v_iconst h pX2_readInto_0 15 rfl ki_m1 (v_aload_n h pX2_readInto_0 16 rfl 0 rfl rfl (v_get h pX2_readInto_0 17 fX2_18 0 rfl rfl rfl (v_aload_n h pX2_readInto_0 18 rfl 0 rfl rfl (v_get h pX2_readInto_0 19 fX2_31 0 rfl rfl rfl (v_top (w := .int (nI k1)) rfl ?_)))))
            refine v_iald h pX2_readInto_0 20 k1 3 0 rfl rfl rfl rfl rfl (by omega) (v_top (w := .int (nI (St (P 0) L k1))) (congrArg Value.int (tp_2 (k := k1) (v := w1) (by omega))) (v_isub h pX2_readInto_0 21 rfl ?_))
            exact v_iret h pX2_readInto_0 22 hR hret rfl ((tpS P L N k1 w1, E1)) rfl ⟨vI (by rw [hRR]; rfl), (fun _ _ _ e => by rw [hRR] at e; cases e), (fun _ e => by rw [hRR] at e; cases e; omega), ⟨rfl, rfl⟩⟩
      exact LA (L + 1) E1 n1 k1 1 w1 hW1 (by omega) (by omega) c5 (by omega) (txt_k hr).symm
  · skip
    have hSl := St_le (P 0) L k1
    show V K (uW cI a b (tpS P L N k1 w1, E1)) 23 [(3, .int 1), (2, .int 0), (0, .ref (a 0)), (1, .ref (b 0))] [.int 0]
    refine v_if_ne (tgt := 38) h pX2_readInto_0 14 rfl rfl (fun c15 => absurd c15 (by decide)) (fun c15 => ?_)
    have hRR : textS (P 0) L E n = .error (St (P 0) L k1) := txt_e hr
    refine v_iconst h pX2_readInto_0 15 rfl ki_m1 (v_aload_n h pX2_readInto_0 16 rfl 2 rfl rfl (v_get h pX2_readInto_0 17 fX2_18 0 rfl rfl rfl (v_aload_n h pX2_readInto_0 18 rfl 2 rfl rfl (v_get h pX2_readInto_0 19 fX2_31 0 rfl rfl rfl (v_top (w := .int (nI k1)) rfl ?_)))))
    refine v_iald h pX2_readInto_0 20 k1 3 0 rfl rfl rfl rfl rfl (by omega) (v_top (w := .int (nI (St (P 0) L k1))) (congrArg Value.int (tp_2 (k := k1) (v := w1) (by omega))) (v_isub h pX2_readInto_0 21 rfl ?_))
    exact v_iret h pX2_readInto_0 22 hR hret rfl ((tpS P L N k1 w1, E1)) rfl ⟨vI (by rw [hRR]; rfl), (fun _ _ _ e => by rw [hRR] at e; cases e), (fun _ e => by rw [hRR] at e; cases e; omega), ⟨rfl, rfl⟩⟩
set_option maxHeartbeats 300000 in
set_option maxRecDepth 100000 in
theorem kX3_text (l : Launch) (D : va_G) (cI cS : ClassId) (a : Nat → Nat) (x : xS) (E T Kp P F : Nat → Nat → Int32) (S : Nat → Nat → Nat → Int32) (n : Nat) (hW : Wf E n) (hZ : E 9 4 = 0) (hP : bd (P 4 0) 120) : vMet l D (vT cI cS) yX3_text cX3_text 2 (some .int) 9 198 (cW cI cS a) (exA x) [.ref (a 0)] (E, T, Kp, P, S, F) (cPost (some (.int (txA (textS (P 0) (ix (P 4 0)) E n)))) (txE (textS (P 0) (ix (P 4 0)) E n) E) (Kp) (up P 4 0 0) (S) (F)) := by
  refine vMet_of (by decide) rfl ?_
  intro K hl hD hnL hret h hR hEx
  subst hl hD
  show V K (cW cI cS a (E, T, Kp, P, S, F)) 0 [(0, .ref (a 0))] []
  have hn8 := hW.1
  obtain ⟨hP4, htl⟩ := bd_ix hP (by decide)
  refine v_aload_n h pX3_text_0 0 rfl 0 rfl rfl (v_get h pX3_text_0 1 fX3_16 0 rfl rfl rfl (v_aload_n h pX3_text_0 2 rfl 0 rfl rfl (v_get h pX3_text_0 3 fX3_10 0 rfl rfl rfl ?_)))
  refine v_callV h pX3_text_0 4 mX3_139 (As := [.ref (a 1)]) (st := []) (kX0_copyFrom _ _ cI cS (sh a 11) (sh a 1) E T) v0B v0C emb_TE 11 rfl rfl rfl rfl rfl rfl rfl (vDet_k ?_)
  show V K (cW cI cS a (E, E, Kp, P, S, F)) 11 [(0, .ref (a 0))] []
  refine v_aload_n h pX3_text_0 5 rfl 0 rfl rfl (v_get h pX3_text_0 6 fX3_29 0 rfl rfl rfl (v_aload_n h pX3_text_0 7 rfl 0 rfl rfl (v_get h pX3_text_0 8 fX3_16 0 rfl rfl rfl ?_)))
  refine v_callV h pX3_text_0 9 mX3_220 (As := [.ref (a 11)]) (st := []) (kX2_readInto _ _ cI cS (sh a 31) (sh a 11) x P E (ix (P 4 0)) hP4 htl n hW) (exA_B _) (exA_C hEx.2) emb_PT 31 rfl rfl rfl rfl rfl rfl rfl (fun v1 u1 q1 => ?_)
  obtain ⟨rfl, hok, her, hPR⟩ := q1
  obtain ⟨Pz, Tz⟩ := u1
  rcases hRT : textS (P 0) (ix (P 4 0)) E n with p | ⟨E1, n1, it⟩
  · skip
    have hb := her p hRT
    show V K (cW cI cS a (E, Tz, Kp, Pz, S, F)) 22 [(0, .ref (a 0))] [.int ((-1) - nI p)]
    refine v_istore_n h pX3_text_0 10 (lv' := [(1, .int ((-1) - nI p)), (0, .ref (a 0))]) rfl rfl hnL rfl rfl (v_iload_n h pX3_text_0 11 rfl 0 rfl rfl ?_)
    refine v_if_lt (tgt := 38) h pX3_text_0 12 rfl rfl (fun c0 => ?_) (fun c0 => absurd (tx_neg (by omega)) c0)
    refine v_aload_n h pX3_text_0 18 rfl 1 rfl rfl (v_get h pX3_text_0 19 fX3_29 0 rfl rfl rfl (v_iconst h pX3_text_0 20 rfl ki_0 (v_puti h pX3_text_0 21 gX3_216 31 (ws' := cW cI cS a (E, Tz, Kp, up Pz 4 0 0, S, F)) rfl rfl rfl cW_Pp0 (v_iload_n h pX3_text_0 22 rfl 0 rfl rfl ?_))))
    exact v_iret h pX3_text_0 23 hR hret rfl ((E, Tz, Kp, up Pz 4 0 0, S, F)) rfl ⟨vI (by rw [hRT]; rfl), (by rw [hRT]; first | rfl | exact hE1), rfl, ⟨hPR.1, rfl⟩, rfl, ⟨rfl, rfl⟩⟩
  · skip
    obtain ⟨hE1, hb⟩ := hok E1 n1 it hRT
    show V K (cW cI cS a (E, Tz, Kp, Pz, S, F)) 22 [(0, .ref (a 0))] [.int (nI it)]
    refine v_istore_n h pX3_text_0 10 (lv' := [(1, .int (nI it)), (0, .ref (a 0))]) rfl rfl hnL rfl rfl (v_iload_n h pX3_text_0 11 rfl 0 rfl rfl ?_)
    refine v_nif_lt (a := it) (tgt := 38) h pX3_text_0 12 rfl rfl (by omega) ?_
    refine v_aload_n h pX3_text_0 13 rfl 1 rfl rfl (v_get h pX3_text_0 14 fX3_10 0 rfl rfl rfl (v_aload_n h pX3_text_0 15 rfl 1 rfl rfl (v_get h pX3_text_0 16 fX3_16 0 rfl rfl rfl ?_)))
    refine v_callV h pX3_text_0 17 mX3_139 (As := [.ref (a 11)]) (st := []) (kX0_copyFrom _ _ cI cS (sh a 1) (sh a 11) Tz E) v0B v0C emb_ET 1 rfl rfl rfl rfl rfl rfl rfl (vDet_k ?_)
    show V K (cW cI cS a (Tz, Tz, Kp, Pz, S, F)) 38 [(1, .int (nI it)), (0, .ref (a 0))] []
    refine v_aload_n h pX3_text_0 18 rfl 1 rfl rfl (v_get h pX3_text_0 19 fX3_29 0 rfl rfl rfl (v_iconst h pX3_text_0 20 rfl ki_0 (v_puti h pX3_text_0 21 gX3_216 31 (ws' := cW cI cS a (Tz, Tz, Kp, up Pz 4 0 0, S, F)) rfl rfl rfl cW_Pp0 (v_iload_n h pX3_text_0 22 rfl 0 rfl rfl ?_))))
    exact v_iret h pX3_text_0 23 hR hret rfl ((Tz, Tz, Kp, up Pz 4 0 0, S, F)) rfl ⟨vI (by rw [hRT]; rfl), (by rw [hRT]; first | rfl | exact hE1), rfl, ⟨hPR.1, rfl⟩, rfl, ⟨rfl, rfl⟩⟩
set_option maxHeartbeats 300000 in
set_option maxRecDepth 100000 in
theorem kX3_isOfKind_0 (l : Launch) (D : va_G) (cI cS : ClassId)  (x : xS) (kd : Int32) : vMet l D (vT cI cS) yX3_isOfKind cX3_isOfKind 4 (some .boolean) 2 41 (fun _ : Unit => ([] : va_W)) (exA x) [.int 0, .int kd] () (fun v u => v = some (.int (bI (underB 0 kd))) ∧ u = ()) := by
  refine vMet_of (by decide) rfl ?_
  intro K hl hD hnL hret h hR hEx
  subst hl hD
  show V K (([] : va_W)) 0 [(0, .int 0), (1, .int kd)] []
  refine v_iload_n h pX3_isOfKind_0 0 rfl 0 rfl rfl (v_istore_n h pX3_isOfKind_0 1 (lv' := [(2, .int 0), (0, .int 0), (1, .int kd)]) rfl rfl hnL rfl rfl (v_iconst h pX3_isOfKind_0 2 rfl ki_0 (v_istore_n h pX3_isOfKind_0 3 (lv' := [(3, .int 0), (2, .int 0), (0, .int 0), (1, .int kd)]) rfl rfl hnL rfl rfl (v_iload_n h pX3_isOfKind_0 4 rfl 0 rfl rfl (v_bipush h pX3_isOfKind_0 5 rfl kb_7 ?_)))))
  refine v_ncmp_ge (a := 0) (b := 7) (tgt := 36) h pX3_isOfKind_0 6 rfl rfl (by decide) (by decide) (fun c1 => absurd c1 (by decide)) (fun c1 => ?_)
  refine v_iload_n h pX3_isOfKind_0 7 rfl 1 rfl rfl ?_
  refine v_callS h pX3_isOfKind_0 8 mX3_72 (As := [.int 0]) (st := []) (kX3_isKind _ _ cI cS 0) v0B v0C (vEmb_u _) rfl rfl rfl rfl rfl (vDet_k ?_)
  show V K (([] : va_W)) 14 [(3, .int 0), (2, .int 0), (0, .int 0), (1, .int kd)] [.int (bI (inB 0 0 6))]
  refine v_bif_eq (tgt := 36) h pX3_isOfKind_0 9 rfl rfl (fun c0 => absurd c0 (by decide)) (fun c0 => ?_)
  refine v_iload_n h pX3_isOfKind_0 10 rfl 1 rfl rfl (v_iload_n h pX3_isOfKind_0 11 rfl 3 rfl rfl ?_)
  refine v_icmp_ne (tgt := 24) h pX3_isOfKind_0 12 rfl rfl (fun c2 => ?_) (fun c2 => ?_)
  · skip
    refine v_gets h pX3_isOfKind_0 15 hEx.2.2.2.2.2.2.1.1 wm_894 rfl (v_iload_n h pX3_isOfKind_0 16 rfl 1 rfl rfl (v_tint h pX3_isOfKind_0 17 hEx.2.2.2.2.2.2.1.2 0 rfl rfl (by omega) (by decide) (v_top (w := .int (-1)) rfl (v_istore_n h pX3_isOfKind_0 18 (lv' := [(2, .int (-1)), (3, .int 0), (0, .int 0), (1, .int kd)]) rfl rfl hnL rfl rfl (v_iinc h pX3_isOfKind_0 19 (v := nI 1) (lv' := [(3, .int (nI 1)), (2, .int (-1)), (0, .int 0), (1, .int kd)]) rfl 1 rfl hnL rfl rfl rfl ?_)))))
    refine v_goto (tgt := 4) h pX3_isOfKind_0 20 rfl rfl (v_iload_n h pX3_isOfKind_0 4 rfl 0 rfl rfl (v_bipush h pX3_isOfKind_0 5 rfl kb_7 ?_))
    refine v_ncmp_ge (a := 1) (b := 7) (tgt := 36) h pX3_isOfKind_0 6 rfl rfl (by decide) (by decide) (fun c3 => absurd c3 (by decide)) (fun c3 => ?_)
    refine v_iload_n h pX3_isOfKind_0 7 rfl 1 rfl rfl ?_
    refine v_callS h pX3_isOfKind_0 8 mX3_72 (As := [.int (-1)]) (st := []) (kX3_isKind _ _ cI cS (-1)) v0B v0C (vEmb_u _) rfl rfl rfl rfl rfl (vDet_k ?_)
    show V K (([] : va_W)) 14 [(3, .int (nI 1)), (2, .int (-1)), (0, .int 0), (1, .int kd)] [.int (bI (inB (-1) 0 6))]
    refine v_bif_eq (tgt := 36) h pX3_isOfKind_0 9 rfl rfl (fun c0 => ?_) (fun c0 => absurd c0 (by decide))
    refine v_iconst h pX3_isOfKind_0 21 rfl ki_0 ?_
    have d0 : ¬ kd = 0 := fun e => c2 e.symm
    exact v_zret h pX3_isOfKind_0 22 (Or.inl rfl) hR hret rfl (()) rfl ⟨vI (by simp [underB, bI, d0, c2]), rfl⟩
  · skip
    refine v_iconst h pX3_isOfKind_0 13 rfl ki_1 ?_
    exact v_zret h pX3_isOfKind_0 14 (Or.inr rfl) hR hret rfl (()) rfl ⟨vI (by subst c2; rfl), rfl⟩
set_option maxHeartbeats 300000 in
set_option maxRecDepth 100000 in
theorem kX3_isOfKind_1 (l : Launch) (D : va_G) (cI cS : ClassId)  (x : xS) (kd : Int32) : vMet l D (vT cI cS) yX3_isOfKind cX3_isOfKind 4 (some .boolean) 2 41 (fun _ : Unit => ([] : va_W)) (exA x) [.int 1, .int kd] () (fun v u => v = some (.int (bI (underB 1 kd))) ∧ u = ()) := by
  refine vMet_of (by decide) rfl ?_
  intro K hl hD hnL hret h hR hEx
  subst hl hD
  show V K (([] : va_W)) 0 [(0, .int 1), (1, .int kd)] []
  refine v_iload_n h pX3_isOfKind_0 0 rfl 0 rfl rfl (v_istore_n h pX3_isOfKind_0 1 (lv' := [(2, .int 1), (0, .int 1), (1, .int kd)]) rfl rfl hnL rfl rfl (v_iconst h pX3_isOfKind_0 2 rfl ki_0 (v_istore_n h pX3_isOfKind_0 3 (lv' := [(3, .int 0), (2, .int 1), (0, .int 1), (1, .int kd)]) rfl rfl hnL rfl rfl (v_iload_n h pX3_isOfKind_0 4 rfl 0 rfl rfl (v_bipush h pX3_isOfKind_0 5 rfl kb_7 ?_)))))
  refine v_ncmp_ge (a := 0) (b := 7) (tgt := 36) h pX3_isOfKind_0 6 rfl rfl (by decide) (by decide) (fun c1 => absurd c1 (by decide)) (fun c1 => ?_)
  refine v_iload_n h pX3_isOfKind_0 7 rfl 1 rfl rfl ?_
  refine v_callS h pX3_isOfKind_0 8 mX3_72 (As := [.int 1]) (st := []) (kX3_isKind _ _ cI cS 1) v0B v0C (vEmb_u _) rfl rfl rfl rfl rfl (vDet_k ?_)
  show V K (([] : va_W)) 14 [(3, .int 0), (2, .int 1), (0, .int 1), (1, .int kd)] [.int (bI (inB 1 0 6))]
  refine v_bif_eq (tgt := 36) h pX3_isOfKind_0 9 rfl rfl (fun c0 => absurd c0 (by decide)) (fun c0 => ?_)
  refine v_iload_n h pX3_isOfKind_0 10 rfl 1 rfl rfl (v_iload_n h pX3_isOfKind_0 11 rfl 3 rfl rfl ?_)
  refine v_icmp_ne (tgt := 24) h pX3_isOfKind_0 12 rfl rfl (fun c2 => ?_) (fun c2 => ?_)
  · skip
    refine v_gets h pX3_isOfKind_0 15 hEx.2.2.2.2.2.2.1.1 wm_894 rfl (v_iload_n h pX3_isOfKind_0 16 rfl 1 rfl rfl (v_tint h pX3_isOfKind_0 17 hEx.2.2.2.2.2.2.1.2 1 rfl rfl (by omega) (by decide) (v_top (w := .int 0) rfl (v_istore_n h pX3_isOfKind_0 18 (lv' := [(2, .int 0), (3, .int 0), (0, .int 1), (1, .int kd)]) rfl rfl hnL rfl rfl (v_iinc h pX3_isOfKind_0 19 (v := nI 1) (lv' := [(3, .int (nI 1)), (2, .int 0), (0, .int 1), (1, .int kd)]) rfl 1 rfl hnL rfl rfl rfl ?_)))))
    refine v_goto (tgt := 4) h pX3_isOfKind_0 20 rfl rfl (v_iload_n h pX3_isOfKind_0 4 rfl 0 rfl rfl (v_bipush h pX3_isOfKind_0 5 rfl kb_7 ?_))
    refine v_ncmp_ge (a := 1) (b := 7) (tgt := 36) h pX3_isOfKind_0 6 rfl rfl (by decide) (by decide) (fun c3 => absurd c3 (by decide)) (fun c3 => ?_)
    refine v_iload_n h pX3_isOfKind_0 7 rfl 1 rfl rfl ?_
    refine v_callS h pX3_isOfKind_0 8 mX3_72 (As := [.int 0]) (st := []) (kX3_isKind _ _ cI cS 0) v0B v0C (vEmb_u _) rfl rfl rfl rfl rfl (vDet_k ?_)
    show V K (([] : va_W)) 14 [(3, .int (nI 1)), (2, .int 0), (0, .int 1), (1, .int kd)] [.int (bI (inB 0 0 6))]
    refine v_bif_eq (tgt := 36) h pX3_isOfKind_0 9 rfl rfl (fun c0 => absurd c0 (by decide)) (fun c0 => ?_)
    refine v_iload_n h pX3_isOfKind_0 10 rfl 1 rfl rfl (v_iload_n h pX3_isOfKind_0 11 rfl 3 rfl rfl ?_)
    refine v_icmp_ne (tgt := 24) h pX3_isOfKind_0 12 rfl rfl (fun c4 => ?_) (fun c4 => ?_)
    · skip
      refine v_gets h pX3_isOfKind_0 15 hEx.2.2.2.2.2.2.1.1 wm_894 rfl (v_iload_n h pX3_isOfKind_0 16 rfl 1 rfl rfl (v_tint h pX3_isOfKind_0 17 hEx.2.2.2.2.2.2.1.2 0 rfl rfl (by omega) (by decide) (v_top (w := .int (-1)) rfl (v_istore_n h pX3_isOfKind_0 18 (lv' := [(2, .int (-1)), (3, .int (nI 1)), (0, .int 1), (1, .int kd)]) rfl rfl hnL rfl rfl (v_iinc h pX3_isOfKind_0 19 (v := nI 2) (lv' := [(3, .int (nI 2)), (2, .int (-1)), (0, .int 1), (1, .int kd)]) rfl 1 rfl hnL rfl rfl rfl ?_)))))
      refine v_goto (tgt := 4) h pX3_isOfKind_0 20 rfl rfl (v_iload_n h pX3_isOfKind_0 4 rfl 0 rfl rfl (v_bipush h pX3_isOfKind_0 5 rfl kb_7 ?_))
      refine v_ncmp_ge (a := 2) (b := 7) (tgt := 36) h pX3_isOfKind_0 6 rfl rfl (by decide) (by decide) (fun c5 => absurd c5 (by decide)) (fun c5 => ?_)
      refine v_iload_n h pX3_isOfKind_0 7 rfl 1 rfl rfl ?_
      refine v_callS h pX3_isOfKind_0 8 mX3_72 (As := [.int (-1)]) (st := []) (kX3_isKind _ _ cI cS (-1)) v0B v0C (vEmb_u _) rfl rfl rfl rfl rfl (vDet_k ?_)
      show V K (([] : va_W)) 14 [(3, .int (nI 2)), (2, .int (-1)), (0, .int 1), (1, .int kd)] [.int (bI (inB (-1) 0 6))]
      refine v_bif_eq (tgt := 36) h pX3_isOfKind_0 9 rfl rfl (fun c0 => ?_) (fun c0 => absurd c0 (by decide))
      refine v_iconst h pX3_isOfKind_0 21 rfl ki_0 ?_
      have d0 : ¬ kd = 1 := fun e => c2 e.symm
      have d1 : ¬ kd = 0 := fun e => c4 e.symm
      exact v_zret h pX3_isOfKind_0 22 (Or.inl rfl) hR hret rfl (()) rfl ⟨vI (by simp [underB, bI, d0, c2, d1, c4]), rfl⟩
    · skip
      refine v_iconst h pX3_isOfKind_0 13 rfl ki_1 ?_
      exact v_zret h pX3_isOfKind_0 14 (Or.inr rfl) hR hret rfl (()) rfl ⟨vI (by subst c4; rfl), rfl⟩
  · skip
    refine v_iconst h pX3_isOfKind_0 13 rfl ki_1 ?_
    exact v_zret h pX3_isOfKind_0 14 (Or.inr rfl) hR hret rfl (()) rfl ⟨vI (by subst c2; rfl), rfl⟩
set_option maxHeartbeats 300000 in
set_option maxRecDepth 100000 in
theorem kX3_isOfKind_2 (l : Launch) (D : va_G) (cI cS : ClassId)  (x : xS) (kd : Int32) : vMet l D (vT cI cS) yX3_isOfKind cX3_isOfKind 4 (some .boolean) 2 41 (fun _ : Unit => ([] : va_W)) (exA x) [.int 2, .int kd] () (fun v u => v = some (.int (bI (underB 2 kd))) ∧ u = ()) := by
  refine vMet_of (by decide) rfl ?_
  intro K hl hD hnL hret h hR hEx
  subst hl hD
  show V K (([] : va_W)) 0 [(0, .int 2), (1, .int kd)] []
  refine v_iload_n h pX3_isOfKind_0 0 rfl 0 rfl rfl (v_istore_n h pX3_isOfKind_0 1 (lv' := [(2, .int 2), (0, .int 2), (1, .int kd)]) rfl rfl hnL rfl rfl (v_iconst h pX3_isOfKind_0 2 rfl ki_0 (v_istore_n h pX3_isOfKind_0 3 (lv' := [(3, .int 0), (2, .int 2), (0, .int 2), (1, .int kd)]) rfl rfl hnL rfl rfl (v_iload_n h pX3_isOfKind_0 4 rfl 0 rfl rfl (v_bipush h pX3_isOfKind_0 5 rfl kb_7 ?_)))))
  refine v_ncmp_ge (a := 0) (b := 7) (tgt := 36) h pX3_isOfKind_0 6 rfl rfl (by decide) (by decide) (fun c1 => absurd c1 (by decide)) (fun c1 => ?_)
  refine v_iload_n h pX3_isOfKind_0 7 rfl 1 rfl rfl ?_
  refine v_callS h pX3_isOfKind_0 8 mX3_72 (As := [.int 2]) (st := []) (kX3_isKind _ _ cI cS 2) v0B v0C (vEmb_u _) rfl rfl rfl rfl rfl (vDet_k ?_)
  show V K (([] : va_W)) 14 [(3, .int 0), (2, .int 2), (0, .int 2), (1, .int kd)] [.int (bI (inB 2 0 6))]
  refine v_bif_eq (tgt := 36) h pX3_isOfKind_0 9 rfl rfl (fun c0 => absurd c0 (by decide)) (fun c0 => ?_)
  refine v_iload_n h pX3_isOfKind_0 10 rfl 1 rfl rfl (v_iload_n h pX3_isOfKind_0 11 rfl 3 rfl rfl ?_)
  refine v_icmp_ne (tgt := 24) h pX3_isOfKind_0 12 rfl rfl (fun c2 => ?_) (fun c2 => ?_)
  · skip
    refine v_gets h pX3_isOfKind_0 15 hEx.2.2.2.2.2.2.1.1 wm_894 rfl (v_iload_n h pX3_isOfKind_0 16 rfl 1 rfl rfl (v_tint h pX3_isOfKind_0 17 hEx.2.2.2.2.2.2.1.2 2 rfl rfl (by omega) (by decide) (v_top (w := .int 0) rfl (v_istore_n h pX3_isOfKind_0 18 (lv' := [(2, .int 0), (3, .int 0), (0, .int 2), (1, .int kd)]) rfl rfl hnL rfl rfl (v_iinc h pX3_isOfKind_0 19 (v := nI 1) (lv' := [(3, .int (nI 1)), (2, .int 0), (0, .int 2), (1, .int kd)]) rfl 1 rfl hnL rfl rfl rfl ?_)))))
    refine v_goto (tgt := 4) h pX3_isOfKind_0 20 rfl rfl (v_iload_n h pX3_isOfKind_0 4 rfl 0 rfl rfl (v_bipush h pX3_isOfKind_0 5 rfl kb_7 ?_))
    refine v_ncmp_ge (a := 1) (b := 7) (tgt := 36) h pX3_isOfKind_0 6 rfl rfl (by decide) (by decide) (fun c3 => absurd c3 (by decide)) (fun c3 => ?_)
    refine v_iload_n h pX3_isOfKind_0 7 rfl 1 rfl rfl ?_
    refine v_callS h pX3_isOfKind_0 8 mX3_72 (As := [.int 0]) (st := []) (kX3_isKind _ _ cI cS 0) v0B v0C (vEmb_u _) rfl rfl rfl rfl rfl (vDet_k ?_)
    show V K (([] : va_W)) 14 [(3, .int (nI 1)), (2, .int 0), (0, .int 2), (1, .int kd)] [.int (bI (inB 0 0 6))]
    refine v_bif_eq (tgt := 36) h pX3_isOfKind_0 9 rfl rfl (fun c0 => absurd c0 (by decide)) (fun c0 => ?_)
    refine v_iload_n h pX3_isOfKind_0 10 rfl 1 rfl rfl (v_iload_n h pX3_isOfKind_0 11 rfl 3 rfl rfl ?_)
    refine v_icmp_ne (tgt := 24) h pX3_isOfKind_0 12 rfl rfl (fun c4 => ?_) (fun c4 => ?_)
    · skip
      refine v_gets h pX3_isOfKind_0 15 hEx.2.2.2.2.2.2.1.1 wm_894 rfl (v_iload_n h pX3_isOfKind_0 16 rfl 1 rfl rfl (v_tint h pX3_isOfKind_0 17 hEx.2.2.2.2.2.2.1.2 0 rfl rfl (by omega) (by decide) (v_top (w := .int (-1)) rfl (v_istore_n h pX3_isOfKind_0 18 (lv' := [(2, .int (-1)), (3, .int (nI 1)), (0, .int 2), (1, .int kd)]) rfl rfl hnL rfl rfl (v_iinc h pX3_isOfKind_0 19 (v := nI 2) (lv' := [(3, .int (nI 2)), (2, .int (-1)), (0, .int 2), (1, .int kd)]) rfl 1 rfl hnL rfl rfl rfl ?_)))))
      refine v_goto (tgt := 4) h pX3_isOfKind_0 20 rfl rfl (v_iload_n h pX3_isOfKind_0 4 rfl 0 rfl rfl (v_bipush h pX3_isOfKind_0 5 rfl kb_7 ?_))
      refine v_ncmp_ge (a := 2) (b := 7) (tgt := 36) h pX3_isOfKind_0 6 rfl rfl (by decide) (by decide) (fun c5 => absurd c5 (by decide)) (fun c5 => ?_)
      refine v_iload_n h pX3_isOfKind_0 7 rfl 1 rfl rfl ?_
      refine v_callS h pX3_isOfKind_0 8 mX3_72 (As := [.int (-1)]) (st := []) (kX3_isKind _ _ cI cS (-1)) v0B v0C (vEmb_u _) rfl rfl rfl rfl rfl (vDet_k ?_)
      show V K (([] : va_W)) 14 [(3, .int (nI 2)), (2, .int (-1)), (0, .int 2), (1, .int kd)] [.int (bI (inB (-1) 0 6))]
      refine v_bif_eq (tgt := 36) h pX3_isOfKind_0 9 rfl rfl (fun c0 => ?_) (fun c0 => absurd c0 (by decide))
      refine v_iconst h pX3_isOfKind_0 21 rfl ki_0 ?_
      have d0 : ¬ kd = 2 := fun e => c2 e.symm
      have d1 : ¬ kd = 0 := fun e => c4 e.symm
      exact v_zret h pX3_isOfKind_0 22 (Or.inl rfl) hR hret rfl (()) rfl ⟨vI (by simp [underB, bI, d0, c2, d1, c4]), rfl⟩
    · skip
      refine v_iconst h pX3_isOfKind_0 13 rfl ki_1 ?_
      exact v_zret h pX3_isOfKind_0 14 (Or.inr rfl) hR hret rfl (()) rfl ⟨vI (by subst c4; rfl), rfl⟩
  · skip
    refine v_iconst h pX3_isOfKind_0 13 rfl ki_1 ?_
    exact v_zret h pX3_isOfKind_0 14 (Or.inr rfl) hR hret rfl (()) rfl ⟨vI (by subst c2; rfl), rfl⟩
set_option maxHeartbeats 300000 in
set_option maxRecDepth 100000 in
theorem kX3_isOfKind_3 (l : Launch) (D : va_G) (cI cS : ClassId)  (x : xS) (kd : Int32) : vMet l D (vT cI cS) yX3_isOfKind cX3_isOfKind 4 (some .boolean) 2 41 (fun _ : Unit => ([] : va_W)) (exA x) [.int 3, .int kd] () (fun v u => v = some (.int (bI (underB 3 kd))) ∧ u = ()) := by
  refine vMet_of (by decide) rfl ?_
  intro K hl hD hnL hret h hR hEx
  subst hl hD
  show V K (([] : va_W)) 0 [(0, .int 3), (1, .int kd)] []
  refine v_iload_n h pX3_isOfKind_0 0 rfl 0 rfl rfl (v_istore_n h pX3_isOfKind_0 1 (lv' := [(2, .int 3), (0, .int 3), (1, .int kd)]) rfl rfl hnL rfl rfl (v_iconst h pX3_isOfKind_0 2 rfl ki_0 (v_istore_n h pX3_isOfKind_0 3 (lv' := [(3, .int 0), (2, .int 3), (0, .int 3), (1, .int kd)]) rfl rfl hnL rfl rfl (v_iload_n h pX3_isOfKind_0 4 rfl 0 rfl rfl (v_bipush h pX3_isOfKind_0 5 rfl kb_7 ?_)))))
  refine v_ncmp_ge (a := 0) (b := 7) (tgt := 36) h pX3_isOfKind_0 6 rfl rfl (by decide) (by decide) (fun c1 => absurd c1 (by decide)) (fun c1 => ?_)
  refine v_iload_n h pX3_isOfKind_0 7 rfl 1 rfl rfl ?_
  refine v_callS h pX3_isOfKind_0 8 mX3_72 (As := [.int 3]) (st := []) (kX3_isKind _ _ cI cS 3) v0B v0C (vEmb_u _) rfl rfl rfl rfl rfl (vDet_k ?_)
  show V K (([] : va_W)) 14 [(3, .int 0), (2, .int 3), (0, .int 3), (1, .int kd)] [.int (bI (inB 3 0 6))]
  refine v_bif_eq (tgt := 36) h pX3_isOfKind_0 9 rfl rfl (fun c0 => absurd c0 (by decide)) (fun c0 => ?_)
  refine v_iload_n h pX3_isOfKind_0 10 rfl 1 rfl rfl (v_iload_n h pX3_isOfKind_0 11 rfl 3 rfl rfl ?_)
  refine v_icmp_ne (tgt := 24) h pX3_isOfKind_0 12 rfl rfl (fun c2 => ?_) (fun c2 => ?_)
  · skip
    refine v_gets h pX3_isOfKind_0 15 hEx.2.2.2.2.2.2.1.1 wm_894 rfl (v_iload_n h pX3_isOfKind_0 16 rfl 1 rfl rfl (v_tint h pX3_isOfKind_0 17 hEx.2.2.2.2.2.2.1.2 3 rfl rfl (by omega) (by decide) (v_top (w := .int 2) rfl (v_istore_n h pX3_isOfKind_0 18 (lv' := [(2, .int 2), (3, .int 0), (0, .int 3), (1, .int kd)]) rfl rfl hnL rfl rfl (v_iinc h pX3_isOfKind_0 19 (v := nI 1) (lv' := [(3, .int (nI 1)), (2, .int 2), (0, .int 3), (1, .int kd)]) rfl 1 rfl hnL rfl rfl rfl ?_)))))
    refine v_goto (tgt := 4) h pX3_isOfKind_0 20 rfl rfl (v_iload_n h pX3_isOfKind_0 4 rfl 0 rfl rfl (v_bipush h pX3_isOfKind_0 5 rfl kb_7 ?_))
    refine v_ncmp_ge (a := 1) (b := 7) (tgt := 36) h pX3_isOfKind_0 6 rfl rfl (by decide) (by decide) (fun c3 => absurd c3 (by decide)) (fun c3 => ?_)
    refine v_iload_n h pX3_isOfKind_0 7 rfl 1 rfl rfl ?_
    refine v_callS h pX3_isOfKind_0 8 mX3_72 (As := [.int 2]) (st := []) (kX3_isKind _ _ cI cS 2) v0B v0C (vEmb_u _) rfl rfl rfl rfl rfl (vDet_k ?_)
    show V K (([] : va_W)) 14 [(3, .int (nI 1)), (2, .int 2), (0, .int 3), (1, .int kd)] [.int (bI (inB 2 0 6))]
    refine v_bif_eq (tgt := 36) h pX3_isOfKind_0 9 rfl rfl (fun c0 => absurd c0 (by decide)) (fun c0 => ?_)
    refine v_iload_n h pX3_isOfKind_0 10 rfl 1 rfl rfl (v_iload_n h pX3_isOfKind_0 11 rfl 3 rfl rfl ?_)
    refine v_icmp_ne (tgt := 24) h pX3_isOfKind_0 12 rfl rfl (fun c4 => ?_) (fun c4 => ?_)
    · skip
      refine v_gets h pX3_isOfKind_0 15 hEx.2.2.2.2.2.2.1.1 wm_894 rfl (v_iload_n h pX3_isOfKind_0 16 rfl 1 rfl rfl (v_tint h pX3_isOfKind_0 17 hEx.2.2.2.2.2.2.1.2 2 rfl rfl (by omega) (by decide) (v_top (w := .int 0) rfl (v_istore_n h pX3_isOfKind_0 18 (lv' := [(2, .int 0), (3, .int (nI 1)), (0, .int 3), (1, .int kd)]) rfl rfl hnL rfl rfl (v_iinc h pX3_isOfKind_0 19 (v := nI 2) (lv' := [(3, .int (nI 2)), (2, .int 0), (0, .int 3), (1, .int kd)]) rfl 1 rfl hnL rfl rfl rfl ?_)))))
      refine v_goto (tgt := 4) h pX3_isOfKind_0 20 rfl rfl (v_iload_n h pX3_isOfKind_0 4 rfl 0 rfl rfl (v_bipush h pX3_isOfKind_0 5 rfl kb_7 ?_))
      refine v_ncmp_ge (a := 2) (b := 7) (tgt := 36) h pX3_isOfKind_0 6 rfl rfl (by decide) (by decide) (fun c5 => absurd c5 (by decide)) (fun c5 => ?_)
      refine v_iload_n h pX3_isOfKind_0 7 rfl 1 rfl rfl ?_
      refine v_callS h pX3_isOfKind_0 8 mX3_72 (As := [.int 0]) (st := []) (kX3_isKind _ _ cI cS 0) v0B v0C (vEmb_u _) rfl rfl rfl rfl rfl (vDet_k ?_)
      show V K (([] : va_W)) 14 [(3, .int (nI 2)), (2, .int 0), (0, .int 3), (1, .int kd)] [.int (bI (inB 0 0 6))]
      refine v_bif_eq (tgt := 36) h pX3_isOfKind_0 9 rfl rfl (fun c0 => absurd c0 (by decide)) (fun c0 => ?_)
      refine v_iload_n h pX3_isOfKind_0 10 rfl 1 rfl rfl (v_iload_n h pX3_isOfKind_0 11 rfl 3 rfl rfl ?_)
      refine v_icmp_ne (tgt := 24) h pX3_isOfKind_0 12 rfl rfl (fun c6 => ?_) (fun c6 => ?_)
      · skip
        refine v_gets h pX3_isOfKind_0 15 hEx.2.2.2.2.2.2.1.1 wm_894 rfl (v_iload_n h pX3_isOfKind_0 16 rfl 1 rfl rfl (v_tint h pX3_isOfKind_0 17 hEx.2.2.2.2.2.2.1.2 0 rfl rfl (by omega) (by decide) (v_top (w := .int (-1)) rfl (v_istore_n h pX3_isOfKind_0 18 (lv' := [(2, .int (-1)), (3, .int (nI 2)), (0, .int 3), (1, .int kd)]) rfl rfl hnL rfl rfl (v_iinc h pX3_isOfKind_0 19 (v := nI 3) (lv' := [(3, .int (nI 3)), (2, .int (-1)), (0, .int 3), (1, .int kd)]) rfl 1 rfl hnL rfl rfl rfl ?_)))))
        refine v_goto (tgt := 4) h pX3_isOfKind_0 20 rfl rfl (v_iload_n h pX3_isOfKind_0 4 rfl 0 rfl rfl (v_bipush h pX3_isOfKind_0 5 rfl kb_7 ?_))
        refine v_ncmp_ge (a := 3) (b := 7) (tgt := 36) h pX3_isOfKind_0 6 rfl rfl (by decide) (by decide) (fun c7 => absurd c7 (by decide)) (fun c7 => ?_)
        refine v_iload_n h pX3_isOfKind_0 7 rfl 1 rfl rfl ?_
        refine v_callS h pX3_isOfKind_0 8 mX3_72 (As := [.int (-1)]) (st := []) (kX3_isKind _ _ cI cS (-1)) v0B v0C (vEmb_u _) rfl rfl rfl rfl rfl (vDet_k ?_)
        show V K (([] : va_W)) 14 [(3, .int (nI 3)), (2, .int (-1)), (0, .int 3), (1, .int kd)] [.int (bI (inB (-1) 0 6))]
        refine v_bif_eq (tgt := 36) h pX3_isOfKind_0 9 rfl rfl (fun c0 => ?_) (fun c0 => absurd c0 (by decide))
        refine v_iconst h pX3_isOfKind_0 21 rfl ki_0 ?_
        have d0 : ¬ kd = 3 := fun e => c2 e.symm
        have d1 : ¬ kd = 2 := fun e => c4 e.symm
        have d2 : ¬ kd = 0 := fun e => c6 e.symm
        exact v_zret h pX3_isOfKind_0 22 (Or.inl rfl) hR hret rfl (()) rfl ⟨vI (by simp [underB, bI, d0, c2, d1, c4, d2, c6]), rfl⟩
      · skip
        refine v_iconst h pX3_isOfKind_0 13 rfl ki_1 ?_
        exact v_zret h pX3_isOfKind_0 14 (Or.inr rfl) hR hret rfl (()) rfl ⟨vI (by subst c6; rfl), rfl⟩
    · skip
      refine v_iconst h pX3_isOfKind_0 13 rfl ki_1 ?_
      exact v_zret h pX3_isOfKind_0 14 (Or.inr rfl) hR hret rfl (()) rfl ⟨vI (by subst c4; rfl), rfl⟩
  · skip
    refine v_iconst h pX3_isOfKind_0 13 rfl ki_1 ?_
    exact v_zret h pX3_isOfKind_0 14 (Or.inr rfl) hR hret rfl (()) rfl ⟨vI (by subst c2; rfl), rfl⟩
set_option maxHeartbeats 300000 in
set_option maxRecDepth 100000 in
theorem kX3_isOfKind_4 (l : Launch) (D : va_G) (cI cS : ClassId)  (x : xS) (kd : Int32) : vMet l D (vT cI cS) yX3_isOfKind cX3_isOfKind 4 (some .boolean) 2 41 (fun _ : Unit => ([] : va_W)) (exA x) [.int 4, .int kd] () (fun v u => v = some (.int (bI (underB 4 kd))) ∧ u = ()) := by
  refine vMet_of (by decide) rfl ?_
  intro K hl hD hnL hret h hR hEx
  subst hl hD
  show V K (([] : va_W)) 0 [(0, .int 4), (1, .int kd)] []
  refine v_iload_n h pX3_isOfKind_0 0 rfl 0 rfl rfl (v_istore_n h pX3_isOfKind_0 1 (lv' := [(2, .int 4), (0, .int 4), (1, .int kd)]) rfl rfl hnL rfl rfl (v_iconst h pX3_isOfKind_0 2 rfl ki_0 (v_istore_n h pX3_isOfKind_0 3 (lv' := [(3, .int 0), (2, .int 4), (0, .int 4), (1, .int kd)]) rfl rfl hnL rfl rfl (v_iload_n h pX3_isOfKind_0 4 rfl 0 rfl rfl (v_bipush h pX3_isOfKind_0 5 rfl kb_7 ?_)))))
  refine v_ncmp_ge (a := 0) (b := 7) (tgt := 36) h pX3_isOfKind_0 6 rfl rfl (by decide) (by decide) (fun c1 => absurd c1 (by decide)) (fun c1 => ?_)
  refine v_iload_n h pX3_isOfKind_0 7 rfl 1 rfl rfl ?_
  refine v_callS h pX3_isOfKind_0 8 mX3_72 (As := [.int 4]) (st := []) (kX3_isKind _ _ cI cS 4) v0B v0C (vEmb_u _) rfl rfl rfl rfl rfl (vDet_k ?_)
  show V K (([] : va_W)) 14 [(3, .int 0), (2, .int 4), (0, .int 4), (1, .int kd)] [.int (bI (inB 4 0 6))]
  refine v_bif_eq (tgt := 36) h pX3_isOfKind_0 9 rfl rfl (fun c0 => absurd c0 (by decide)) (fun c0 => ?_)
  refine v_iload_n h pX3_isOfKind_0 10 rfl 1 rfl rfl (v_iload_n h pX3_isOfKind_0 11 rfl 3 rfl rfl ?_)
  refine v_icmp_ne (tgt := 24) h pX3_isOfKind_0 12 rfl rfl (fun c2 => ?_) (fun c2 => ?_)
  · skip
    refine v_gets h pX3_isOfKind_0 15 hEx.2.2.2.2.2.2.1.1 wm_894 rfl (v_iload_n h pX3_isOfKind_0 16 rfl 1 rfl rfl (v_tint h pX3_isOfKind_0 17 hEx.2.2.2.2.2.2.1.2 4 rfl rfl (by omega) (by decide) (v_top (w := .int 3) rfl (v_istore_n h pX3_isOfKind_0 18 (lv' := [(2, .int 3), (3, .int 0), (0, .int 4), (1, .int kd)]) rfl rfl hnL rfl rfl (v_iinc h pX3_isOfKind_0 19 (v := nI 1) (lv' := [(3, .int (nI 1)), (2, .int 3), (0, .int 4), (1, .int kd)]) rfl 1 rfl hnL rfl rfl rfl ?_)))))
    refine v_goto (tgt := 4) h pX3_isOfKind_0 20 rfl rfl (v_iload_n h pX3_isOfKind_0 4 rfl 0 rfl rfl (v_bipush h pX3_isOfKind_0 5 rfl kb_7 ?_))
    refine v_ncmp_ge (a := 1) (b := 7) (tgt := 36) h pX3_isOfKind_0 6 rfl rfl (by decide) (by decide) (fun c3 => absurd c3 (by decide)) (fun c3 => ?_)
    refine v_iload_n h pX3_isOfKind_0 7 rfl 1 rfl rfl ?_
    refine v_callS h pX3_isOfKind_0 8 mX3_72 (As := [.int 3]) (st := []) (kX3_isKind _ _ cI cS 3) v0B v0C (vEmb_u _) rfl rfl rfl rfl rfl (vDet_k ?_)
    show V K (([] : va_W)) 14 [(3, .int (nI 1)), (2, .int 3), (0, .int 4), (1, .int kd)] [.int (bI (inB 3 0 6))]
    refine v_bif_eq (tgt := 36) h pX3_isOfKind_0 9 rfl rfl (fun c0 => absurd c0 (by decide)) (fun c0 => ?_)
    refine v_iload_n h pX3_isOfKind_0 10 rfl 1 rfl rfl (v_iload_n h pX3_isOfKind_0 11 rfl 3 rfl rfl ?_)
    refine v_icmp_ne (tgt := 24) h pX3_isOfKind_0 12 rfl rfl (fun c4 => ?_) (fun c4 => ?_)
    · skip
      refine v_gets h pX3_isOfKind_0 15 hEx.2.2.2.2.2.2.1.1 wm_894 rfl (v_iload_n h pX3_isOfKind_0 16 rfl 1 rfl rfl (v_tint h pX3_isOfKind_0 17 hEx.2.2.2.2.2.2.1.2 3 rfl rfl (by omega) (by decide) (v_top (w := .int 2) rfl (v_istore_n h pX3_isOfKind_0 18 (lv' := [(2, .int 2), (3, .int (nI 1)), (0, .int 4), (1, .int kd)]) rfl rfl hnL rfl rfl (v_iinc h pX3_isOfKind_0 19 (v := nI 2) (lv' := [(3, .int (nI 2)), (2, .int 2), (0, .int 4), (1, .int kd)]) rfl 1 rfl hnL rfl rfl rfl ?_)))))
      refine v_goto (tgt := 4) h pX3_isOfKind_0 20 rfl rfl (v_iload_n h pX3_isOfKind_0 4 rfl 0 rfl rfl (v_bipush h pX3_isOfKind_0 5 rfl kb_7 ?_))
      refine v_ncmp_ge (a := 2) (b := 7) (tgt := 36) h pX3_isOfKind_0 6 rfl rfl (by decide) (by decide) (fun c5 => absurd c5 (by decide)) (fun c5 => ?_)
      refine v_iload_n h pX3_isOfKind_0 7 rfl 1 rfl rfl ?_
      refine v_callS h pX3_isOfKind_0 8 mX3_72 (As := [.int 2]) (st := []) (kX3_isKind _ _ cI cS 2) v0B v0C (vEmb_u _) rfl rfl rfl rfl rfl (vDet_k ?_)
      show V K (([] : va_W)) 14 [(3, .int (nI 2)), (2, .int 2), (0, .int 4), (1, .int kd)] [.int (bI (inB 2 0 6))]
      refine v_bif_eq (tgt := 36) h pX3_isOfKind_0 9 rfl rfl (fun c0 => absurd c0 (by decide)) (fun c0 => ?_)
      refine v_iload_n h pX3_isOfKind_0 10 rfl 1 rfl rfl (v_iload_n h pX3_isOfKind_0 11 rfl 3 rfl rfl ?_)
      refine v_icmp_ne (tgt := 24) h pX3_isOfKind_0 12 rfl rfl (fun c6 => ?_) (fun c6 => ?_)
      · skip
        refine v_gets h pX3_isOfKind_0 15 hEx.2.2.2.2.2.2.1.1 wm_894 rfl (v_iload_n h pX3_isOfKind_0 16 rfl 1 rfl rfl (v_tint h pX3_isOfKind_0 17 hEx.2.2.2.2.2.2.1.2 2 rfl rfl (by omega) (by decide) (v_top (w := .int 0) rfl (v_istore_n h pX3_isOfKind_0 18 (lv' := [(2, .int 0), (3, .int (nI 2)), (0, .int 4), (1, .int kd)]) rfl rfl hnL rfl rfl (v_iinc h pX3_isOfKind_0 19 (v := nI 3) (lv' := [(3, .int (nI 3)), (2, .int 0), (0, .int 4), (1, .int kd)]) rfl 1 rfl hnL rfl rfl rfl ?_)))))
        refine v_goto (tgt := 4) h pX3_isOfKind_0 20 rfl rfl (v_iload_n h pX3_isOfKind_0 4 rfl 0 rfl rfl (v_bipush h pX3_isOfKind_0 5 rfl kb_7 ?_))
        refine v_ncmp_ge (a := 3) (b := 7) (tgt := 36) h pX3_isOfKind_0 6 rfl rfl (by decide) (by decide) (fun c7 => absurd c7 (by decide)) (fun c7 => ?_)
        refine v_iload_n h pX3_isOfKind_0 7 rfl 1 rfl rfl ?_
        refine v_callS h pX3_isOfKind_0 8 mX3_72 (As := [.int 0]) (st := []) (kX3_isKind _ _ cI cS 0) v0B v0C (vEmb_u _) rfl rfl rfl rfl rfl (vDet_k ?_)
        show V K (([] : va_W)) 14 [(3, .int (nI 3)), (2, .int 0), (0, .int 4), (1, .int kd)] [.int (bI (inB 0 0 6))]
        refine v_bif_eq (tgt := 36) h pX3_isOfKind_0 9 rfl rfl (fun c0 => absurd c0 (by decide)) (fun c0 => ?_)
        refine v_iload_n h pX3_isOfKind_0 10 rfl 1 rfl rfl (v_iload_n h pX3_isOfKind_0 11 rfl 3 rfl rfl ?_)
        refine v_icmp_ne (tgt := 24) h pX3_isOfKind_0 12 rfl rfl (fun c8 => ?_) (fun c8 => ?_)
        · skip
          refine v_gets h pX3_isOfKind_0 15 hEx.2.2.2.2.2.2.1.1 wm_894 rfl (v_iload_n h pX3_isOfKind_0 16 rfl 1 rfl rfl (v_tint h pX3_isOfKind_0 17 hEx.2.2.2.2.2.2.1.2 0 rfl rfl (by omega) (by decide) (v_top (w := .int (-1)) rfl (v_istore_n h pX3_isOfKind_0 18 (lv' := [(2, .int (-1)), (3, .int (nI 3)), (0, .int 4), (1, .int kd)]) rfl rfl hnL rfl rfl (v_iinc h pX3_isOfKind_0 19 (v := nI 4) (lv' := [(3, .int (nI 4)), (2, .int (-1)), (0, .int 4), (1, .int kd)]) rfl 1 rfl hnL rfl rfl rfl ?_)))))
          refine v_goto (tgt := 4) h pX3_isOfKind_0 20 rfl rfl (v_iload_n h pX3_isOfKind_0 4 rfl 0 rfl rfl (v_bipush h pX3_isOfKind_0 5 rfl kb_7 ?_))
          refine v_ncmp_ge (a := 4) (b := 7) (tgt := 36) h pX3_isOfKind_0 6 rfl rfl (by decide) (by decide) (fun c9 => absurd c9 (by decide)) (fun c9 => ?_)
          refine v_iload_n h pX3_isOfKind_0 7 rfl 1 rfl rfl ?_
          refine v_callS h pX3_isOfKind_0 8 mX3_72 (As := [.int (-1)]) (st := []) (kX3_isKind _ _ cI cS (-1)) v0B v0C (vEmb_u _) rfl rfl rfl rfl rfl (vDet_k ?_)
          show V K (([] : va_W)) 14 [(3, .int (nI 4)), (2, .int (-1)), (0, .int 4), (1, .int kd)] [.int (bI (inB (-1) 0 6))]
          refine v_bif_eq (tgt := 36) h pX3_isOfKind_0 9 rfl rfl (fun c0 => ?_) (fun c0 => absurd c0 (by decide))
          refine v_iconst h pX3_isOfKind_0 21 rfl ki_0 ?_
          have d0 : ¬ kd = 4 := fun e => c2 e.symm
          have d1 : ¬ kd = 3 := fun e => c4 e.symm
          have d2 : ¬ kd = 2 := fun e => c6 e.symm
          have d3 : ¬ kd = 0 := fun e => c8 e.symm
          exact v_zret h pX3_isOfKind_0 22 (Or.inl rfl) hR hret rfl (()) rfl ⟨vI (by simp [underB, bI, d0, c2, d1, c4, d2, c6, d3, c8]), rfl⟩
        · skip
          refine v_iconst h pX3_isOfKind_0 13 rfl ki_1 ?_
          exact v_zret h pX3_isOfKind_0 14 (Or.inr rfl) hR hret rfl (()) rfl ⟨vI (by subst c8; rfl), rfl⟩
      · skip
        refine v_iconst h pX3_isOfKind_0 13 rfl ki_1 ?_
        exact v_zret h pX3_isOfKind_0 14 (Or.inr rfl) hR hret rfl (()) rfl ⟨vI (by subst c6; rfl), rfl⟩
    · skip
      refine v_iconst h pX3_isOfKind_0 13 rfl ki_1 ?_
      exact v_zret h pX3_isOfKind_0 14 (Or.inr rfl) hR hret rfl (()) rfl ⟨vI (by subst c4; rfl), rfl⟩
  · skip
    refine v_iconst h pX3_isOfKind_0 13 rfl ki_1 ?_
    exact v_zret h pX3_isOfKind_0 14 (Or.inr rfl) hR hret rfl (()) rfl ⟨vI (by subst c2; rfl), rfl⟩
set_option maxHeartbeats 300000 in
set_option maxRecDepth 100000 in
theorem kX3_isOfKind_5 (l : Launch) (D : va_G) (cI cS : ClassId)  (x : xS) (kd : Int32) : vMet l D (vT cI cS) yX3_isOfKind cX3_isOfKind 4 (some .boolean) 2 41 (fun _ : Unit => ([] : va_W)) (exA x) [.int 5, .int kd] () (fun v u => v = some (.int (bI (underB 5 kd))) ∧ u = ()) := by
  refine vMet_of (by decide) rfl ?_
  intro K hl hD hnL hret h hR hEx
  subst hl hD
  show V K (([] : va_W)) 0 [(0, .int 5), (1, .int kd)] []
  refine v_iload_n h pX3_isOfKind_0 0 rfl 0 rfl rfl (v_istore_n h pX3_isOfKind_0 1 (lv' := [(2, .int 5), (0, .int 5), (1, .int kd)]) rfl rfl hnL rfl rfl (v_iconst h pX3_isOfKind_0 2 rfl ki_0 (v_istore_n h pX3_isOfKind_0 3 (lv' := [(3, .int 0), (2, .int 5), (0, .int 5), (1, .int kd)]) rfl rfl hnL rfl rfl (v_iload_n h pX3_isOfKind_0 4 rfl 0 rfl rfl (v_bipush h pX3_isOfKind_0 5 rfl kb_7 ?_)))))
  refine v_ncmp_ge (a := 0) (b := 7) (tgt := 36) h pX3_isOfKind_0 6 rfl rfl (by decide) (by decide) (fun c1 => absurd c1 (by decide)) (fun c1 => ?_)
  refine v_iload_n h pX3_isOfKind_0 7 rfl 1 rfl rfl ?_
  refine v_callS h pX3_isOfKind_0 8 mX3_72 (As := [.int 5]) (st := []) (kX3_isKind _ _ cI cS 5) v0B v0C (vEmb_u _) rfl rfl rfl rfl rfl (vDet_k ?_)
  show V K (([] : va_W)) 14 [(3, .int 0), (2, .int 5), (0, .int 5), (1, .int kd)] [.int (bI (inB 5 0 6))]
  refine v_bif_eq (tgt := 36) h pX3_isOfKind_0 9 rfl rfl (fun c0 => absurd c0 (by decide)) (fun c0 => ?_)
  refine v_iload_n h pX3_isOfKind_0 10 rfl 1 rfl rfl (v_iload_n h pX3_isOfKind_0 11 rfl 3 rfl rfl ?_)
  refine v_icmp_ne (tgt := 24) h pX3_isOfKind_0 12 rfl rfl (fun c2 => ?_) (fun c2 => ?_)
  · skip
    refine v_gets h pX3_isOfKind_0 15 hEx.2.2.2.2.2.2.1.1 wm_894 rfl (v_iload_n h pX3_isOfKind_0 16 rfl 1 rfl rfl (v_tint h pX3_isOfKind_0 17 hEx.2.2.2.2.2.2.1.2 5 rfl rfl (by omega) (by decide) (v_top (w := .int 0) rfl (v_istore_n h pX3_isOfKind_0 18 (lv' := [(2, .int 0), (3, .int 0), (0, .int 5), (1, .int kd)]) rfl rfl hnL rfl rfl (v_iinc h pX3_isOfKind_0 19 (v := nI 1) (lv' := [(3, .int (nI 1)), (2, .int 0), (0, .int 5), (1, .int kd)]) rfl 1 rfl hnL rfl rfl rfl ?_)))))
    refine v_goto (tgt := 4) h pX3_isOfKind_0 20 rfl rfl (v_iload_n h pX3_isOfKind_0 4 rfl 0 rfl rfl (v_bipush h pX3_isOfKind_0 5 rfl kb_7 ?_))
    refine v_ncmp_ge (a := 1) (b := 7) (tgt := 36) h pX3_isOfKind_0 6 rfl rfl (by decide) (by decide) (fun c3 => absurd c3 (by decide)) (fun c3 => ?_)
    refine v_iload_n h pX3_isOfKind_0 7 rfl 1 rfl rfl ?_
    refine v_callS h pX3_isOfKind_0 8 mX3_72 (As := [.int 0]) (st := []) (kX3_isKind _ _ cI cS 0) v0B v0C (vEmb_u _) rfl rfl rfl rfl rfl (vDet_k ?_)
    show V K (([] : va_W)) 14 [(3, .int (nI 1)), (2, .int 0), (0, .int 5), (1, .int kd)] [.int (bI (inB 0 0 6))]
    refine v_bif_eq (tgt := 36) h pX3_isOfKind_0 9 rfl rfl (fun c0 => absurd c0 (by decide)) (fun c0 => ?_)
    refine v_iload_n h pX3_isOfKind_0 10 rfl 1 rfl rfl (v_iload_n h pX3_isOfKind_0 11 rfl 3 rfl rfl ?_)
    refine v_icmp_ne (tgt := 24) h pX3_isOfKind_0 12 rfl rfl (fun c4 => ?_) (fun c4 => ?_)
    · skip
      refine v_gets h pX3_isOfKind_0 15 hEx.2.2.2.2.2.2.1.1 wm_894 rfl (v_iload_n h pX3_isOfKind_0 16 rfl 1 rfl rfl (v_tint h pX3_isOfKind_0 17 hEx.2.2.2.2.2.2.1.2 0 rfl rfl (by omega) (by decide) (v_top (w := .int (-1)) rfl (v_istore_n h pX3_isOfKind_0 18 (lv' := [(2, .int (-1)), (3, .int (nI 1)), (0, .int 5), (1, .int kd)]) rfl rfl hnL rfl rfl (v_iinc h pX3_isOfKind_0 19 (v := nI 2) (lv' := [(3, .int (nI 2)), (2, .int (-1)), (0, .int 5), (1, .int kd)]) rfl 1 rfl hnL rfl rfl rfl ?_)))))
      refine v_goto (tgt := 4) h pX3_isOfKind_0 20 rfl rfl (v_iload_n h pX3_isOfKind_0 4 rfl 0 rfl rfl (v_bipush h pX3_isOfKind_0 5 rfl kb_7 ?_))
      refine v_ncmp_ge (a := 2) (b := 7) (tgt := 36) h pX3_isOfKind_0 6 rfl rfl (by decide) (by decide) (fun c5 => absurd c5 (by decide)) (fun c5 => ?_)
      refine v_iload_n h pX3_isOfKind_0 7 rfl 1 rfl rfl ?_
      refine v_callS h pX3_isOfKind_0 8 mX3_72 (As := [.int (-1)]) (st := []) (kX3_isKind _ _ cI cS (-1)) v0B v0C (vEmb_u _) rfl rfl rfl rfl rfl (vDet_k ?_)
      show V K (([] : va_W)) 14 [(3, .int (nI 2)), (2, .int (-1)), (0, .int 5), (1, .int kd)] [.int (bI (inB (-1) 0 6))]
      refine v_bif_eq (tgt := 36) h pX3_isOfKind_0 9 rfl rfl (fun c0 => ?_) (fun c0 => absurd c0 (by decide))
      refine v_iconst h pX3_isOfKind_0 21 rfl ki_0 ?_
      have d0 : ¬ kd = 5 := fun e => c2 e.symm
      have d1 : ¬ kd = 0 := fun e => c4 e.symm
      exact v_zret h pX3_isOfKind_0 22 (Or.inl rfl) hR hret rfl (()) rfl ⟨vI (by simp [underB, bI, d0, c2, d1, c4]), rfl⟩
    · skip
      refine v_iconst h pX3_isOfKind_0 13 rfl ki_1 ?_
      exact v_zret h pX3_isOfKind_0 14 (Or.inr rfl) hR hret rfl (()) rfl ⟨vI (by subst c4; rfl), rfl⟩
  · skip
    refine v_iconst h pX3_isOfKind_0 13 rfl ki_1 ?_
    exact v_zret h pX3_isOfKind_0 14 (Or.inr rfl) hR hret rfl (()) rfl ⟨vI (by subst c2; rfl), rfl⟩
set_option maxHeartbeats 300000 in
set_option maxRecDepth 100000 in
theorem kX3_isOfKind_6 (l : Launch) (D : va_G) (cI cS : ClassId)  (x : xS) (kd : Int32) : vMet l D (vT cI cS) yX3_isOfKind cX3_isOfKind 4 (some .boolean) 2 41 (fun _ : Unit => ([] : va_W)) (exA x) [.int 6, .int kd] () (fun v u => v = some (.int (bI (underB 6 kd))) ∧ u = ()) := by
  refine vMet_of (by decide) rfl ?_
  intro K hl hD hnL hret h hR hEx
  subst hl hD
  show V K (([] : va_W)) 0 [(0, .int 6), (1, .int kd)] []
  refine v_iload_n h pX3_isOfKind_0 0 rfl 0 rfl rfl (v_istore_n h pX3_isOfKind_0 1 (lv' := [(2, .int 6), (0, .int 6), (1, .int kd)]) rfl rfl hnL rfl rfl (v_iconst h pX3_isOfKind_0 2 rfl ki_0 (v_istore_n h pX3_isOfKind_0 3 (lv' := [(3, .int 0), (2, .int 6), (0, .int 6), (1, .int kd)]) rfl rfl hnL rfl rfl (v_iload_n h pX3_isOfKind_0 4 rfl 0 rfl rfl (v_bipush h pX3_isOfKind_0 5 rfl kb_7 ?_)))))
  refine v_ncmp_ge (a := 0) (b := 7) (tgt := 36) h pX3_isOfKind_0 6 rfl rfl (by decide) (by decide) (fun c1 => absurd c1 (by decide)) (fun c1 => ?_)
  refine v_iload_n h pX3_isOfKind_0 7 rfl 1 rfl rfl ?_
  refine v_callS h pX3_isOfKind_0 8 mX3_72 (As := [.int 6]) (st := []) (kX3_isKind _ _ cI cS 6) v0B v0C (vEmb_u _) rfl rfl rfl rfl rfl (vDet_k ?_)
  show V K (([] : va_W)) 14 [(3, .int 0), (2, .int 6), (0, .int 6), (1, .int kd)] [.int (bI (inB 6 0 6))]
  refine v_bif_eq (tgt := 36) h pX3_isOfKind_0 9 rfl rfl (fun c0 => absurd c0 (by decide)) (fun c0 => ?_)
  refine v_iload_n h pX3_isOfKind_0 10 rfl 1 rfl rfl (v_iload_n h pX3_isOfKind_0 11 rfl 3 rfl rfl ?_)
  refine v_icmp_ne (tgt := 24) h pX3_isOfKind_0 12 rfl rfl (fun c2 => ?_) (fun c2 => ?_)
  · skip
    refine v_gets h pX3_isOfKind_0 15 hEx.2.2.2.2.2.2.1.1 wm_894 rfl (v_iload_n h pX3_isOfKind_0 16 rfl 1 rfl rfl (v_tint h pX3_isOfKind_0 17 hEx.2.2.2.2.2.2.1.2 6 rfl rfl (by omega) (by decide) (v_top (w := .int 1) rfl (v_istore_n h pX3_isOfKind_0 18 (lv' := [(2, .int 1), (3, .int 0), (0, .int 6), (1, .int kd)]) rfl rfl hnL rfl rfl (v_iinc h pX3_isOfKind_0 19 (v := nI 1) (lv' := [(3, .int (nI 1)), (2, .int 1), (0, .int 6), (1, .int kd)]) rfl 1 rfl hnL rfl rfl rfl ?_)))))
    refine v_goto (tgt := 4) h pX3_isOfKind_0 20 rfl rfl (v_iload_n h pX3_isOfKind_0 4 rfl 0 rfl rfl (v_bipush h pX3_isOfKind_0 5 rfl kb_7 ?_))
    refine v_ncmp_ge (a := 1) (b := 7) (tgt := 36) h pX3_isOfKind_0 6 rfl rfl (by decide) (by decide) (fun c3 => absurd c3 (by decide)) (fun c3 => ?_)
    refine v_iload_n h pX3_isOfKind_0 7 rfl 1 rfl rfl ?_
    refine v_callS h pX3_isOfKind_0 8 mX3_72 (As := [.int 1]) (st := []) (kX3_isKind _ _ cI cS 1) v0B v0C (vEmb_u _) rfl rfl rfl rfl rfl (vDet_k ?_)
    show V K (([] : va_W)) 14 [(3, .int (nI 1)), (2, .int 1), (0, .int 6), (1, .int kd)] [.int (bI (inB 1 0 6))]
    refine v_bif_eq (tgt := 36) h pX3_isOfKind_0 9 rfl rfl (fun c0 => absurd c0 (by decide)) (fun c0 => ?_)
    refine v_iload_n h pX3_isOfKind_0 10 rfl 1 rfl rfl (v_iload_n h pX3_isOfKind_0 11 rfl 3 rfl rfl ?_)
    refine v_icmp_ne (tgt := 24) h pX3_isOfKind_0 12 rfl rfl (fun c4 => ?_) (fun c4 => ?_)
    · skip
      refine v_gets h pX3_isOfKind_0 15 hEx.2.2.2.2.2.2.1.1 wm_894 rfl (v_iload_n h pX3_isOfKind_0 16 rfl 1 rfl rfl (v_tint h pX3_isOfKind_0 17 hEx.2.2.2.2.2.2.1.2 1 rfl rfl (by omega) (by decide) (v_top (w := .int 0) rfl (v_istore_n h pX3_isOfKind_0 18 (lv' := [(2, .int 0), (3, .int (nI 1)), (0, .int 6), (1, .int kd)]) rfl rfl hnL rfl rfl (v_iinc h pX3_isOfKind_0 19 (v := nI 2) (lv' := [(3, .int (nI 2)), (2, .int 0), (0, .int 6), (1, .int kd)]) rfl 1 rfl hnL rfl rfl rfl ?_)))))
      refine v_goto (tgt := 4) h pX3_isOfKind_0 20 rfl rfl (v_iload_n h pX3_isOfKind_0 4 rfl 0 rfl rfl (v_bipush h pX3_isOfKind_0 5 rfl kb_7 ?_))
      refine v_ncmp_ge (a := 2) (b := 7) (tgt := 36) h pX3_isOfKind_0 6 rfl rfl (by decide) (by decide) (fun c5 => absurd c5 (by decide)) (fun c5 => ?_)
      refine v_iload_n h pX3_isOfKind_0 7 rfl 1 rfl rfl ?_
      refine v_callS h pX3_isOfKind_0 8 mX3_72 (As := [.int 0]) (st := []) (kX3_isKind _ _ cI cS 0) v0B v0C (vEmb_u _) rfl rfl rfl rfl rfl (vDet_k ?_)
      show V K (([] : va_W)) 14 [(3, .int (nI 2)), (2, .int 0), (0, .int 6), (1, .int kd)] [.int (bI (inB 0 0 6))]
      refine v_bif_eq (tgt := 36) h pX3_isOfKind_0 9 rfl rfl (fun c0 => absurd c0 (by decide)) (fun c0 => ?_)
      refine v_iload_n h pX3_isOfKind_0 10 rfl 1 rfl rfl (v_iload_n h pX3_isOfKind_0 11 rfl 3 rfl rfl ?_)
      refine v_icmp_ne (tgt := 24) h pX3_isOfKind_0 12 rfl rfl (fun c6 => ?_) (fun c6 => ?_)
      · skip
        refine v_gets h pX3_isOfKind_0 15 hEx.2.2.2.2.2.2.1.1 wm_894 rfl (v_iload_n h pX3_isOfKind_0 16 rfl 1 rfl rfl (v_tint h pX3_isOfKind_0 17 hEx.2.2.2.2.2.2.1.2 0 rfl rfl (by omega) (by decide) (v_top (w := .int (-1)) rfl (v_istore_n h pX3_isOfKind_0 18 (lv' := [(2, .int (-1)), (3, .int (nI 2)), (0, .int 6), (1, .int kd)]) rfl rfl hnL rfl rfl (v_iinc h pX3_isOfKind_0 19 (v := nI 3) (lv' := [(3, .int (nI 3)), (2, .int (-1)), (0, .int 6), (1, .int kd)]) rfl 1 rfl hnL rfl rfl rfl ?_)))))
        refine v_goto (tgt := 4) h pX3_isOfKind_0 20 rfl rfl (v_iload_n h pX3_isOfKind_0 4 rfl 0 rfl rfl (v_bipush h pX3_isOfKind_0 5 rfl kb_7 ?_))
        refine v_ncmp_ge (a := 3) (b := 7) (tgt := 36) h pX3_isOfKind_0 6 rfl rfl (by decide) (by decide) (fun c7 => absurd c7 (by decide)) (fun c7 => ?_)
        refine v_iload_n h pX3_isOfKind_0 7 rfl 1 rfl rfl ?_
        refine v_callS h pX3_isOfKind_0 8 mX3_72 (As := [.int (-1)]) (st := []) (kX3_isKind _ _ cI cS (-1)) v0B v0C (vEmb_u _) rfl rfl rfl rfl rfl (vDet_k ?_)
        show V K (([] : va_W)) 14 [(3, .int (nI 3)), (2, .int (-1)), (0, .int 6), (1, .int kd)] [.int (bI (inB (-1) 0 6))]
        refine v_bif_eq (tgt := 36) h pX3_isOfKind_0 9 rfl rfl (fun c0 => ?_) (fun c0 => absurd c0 (by decide))
        refine v_iconst h pX3_isOfKind_0 21 rfl ki_0 ?_
        have d0 : ¬ kd = 6 := fun e => c2 e.symm
        have d1 : ¬ kd = 1 := fun e => c4 e.symm
        have d2 : ¬ kd = 0 := fun e => c6 e.symm
        exact v_zret h pX3_isOfKind_0 22 (Or.inl rfl) hR hret rfl (()) rfl ⟨vI (by simp [underB, bI, d0, c2, d1, c4, d2, c6]), rfl⟩
      · skip
        refine v_iconst h pX3_isOfKind_0 13 rfl ki_1 ?_
        exact v_zret h pX3_isOfKind_0 14 (Or.inr rfl) hR hret rfl (()) rfl ⟨vI (by subst c6; rfl), rfl⟩
    · skip
      refine v_iconst h pX3_isOfKind_0 13 rfl ki_1 ?_
      exact v_zret h pX3_isOfKind_0 14 (Or.inr rfl) hR hret rfl (()) rfl ⟨vI (by subst c4; rfl), rfl⟩
  · skip
    refine v_iconst h pX3_isOfKind_0 13 rfl ki_1 ?_
    exact v_zret h pX3_isOfKind_0 14 (Or.inr rfl) hR hret rfl (()) rfl ⟨vI (by subst c2; rfl), rfl⟩
theorem kX3_isOfKind (l : Launch) (D : va_G) (cI cS : ClassId) (x : xS) (o : Nat) (ho : o ≤ 6) (kd : Int32) : vMet l D (vT cI cS) yX3_isOfKind cX3_isOfKind 4 (some .boolean) 2 41 (fun _ : Unit => ([] : va_W)) (exA x) [.int (nI o), .int kd] () (fun v u => v = some (.int (bI (underB (nI o) kd))) ∧ u = ()) := by
  rcases (show o = 0 ∨ o = 1 ∨ o = 2 ∨ o = 3 ∨ o = 4 ∨ o = 5 ∨ o = 6 by omega) with rfl | rfl | rfl | rfl | rfl | rfl | rfl
  · exact kX3_isOfKind_0 l D cI cS x kd
  · exact kX3_isOfKind_1 l D cI cS x kd
  · exact kX3_isOfKind_2 l D cI cS x kd
  · exact kX3_isOfKind_3 l D cI cS x kd
  · exact kX3_isOfKind_4 l D cI cS x kd
  · exact kX3_isOfKind_5 l D cI cS x kd
  · exact kX3_isOfKind_6 l D cI cS x kd
set_option maxHeartbeats 300000 in
set_option maxRecDepth 100000 in
theorem kX3_change (l : Launch) (D : va_G) (cI cS : ClassId) (a : Nat → Nat) (x : xS) (E T Kp P F : Nat → Nat → Int32) (S : Nat → Nat → Nat → Int32) (n : Nat) (hW : Wf E n) (hZ : E 9 4 = 0) (y w v : Int32) : vMet l D (vT cI cS) yX3_change cX3_change 6 (some .int) 2 42 (cW cI cS a) (exA x) [.ref (a 0), .int y, .int w, .int v] (E, T, Kp, P, S, F) (cPost (some (.int (cond (oyB y n && (inB w 0 5 && inB v 0 (gOf w))) (E (2 + ix w) (ix y)) ((-1000001))))) (cond (oyB y n && (inB w 0 5 && inB v 0 (gOf w))) (up E (2 + ix w) (ix y) v) (E)) (Kp) (P) (S) (cond (oyB y n && (inB w 0 5 && inB v 0 (gOf w))) (F) (fndC F 0))) := by
  refine vMet_of (by decide) rfl ?_
  intro K hl hD hnL hret h hR hEx
  subst hl hD
  show V K (cW cI cS a (E, T, Kp, P, S, F)) 0 [(0, .ref (a 0)), (1, .int y), (2, .int w), (3, .int v)] []
  have hn8 := hW.1
  refine v_aload_n h pX3_change_0 0 rfl 0 rfl rfl (v_iload_n h pX3_change_0 1 rfl 1 rfl rfl ?_)
  refine v_callV h pX3_change_0 2 mX3_83 (As := [.int y]) (st := []) (kX3_isOyster _ _ cI cS a E T Kp P F S n hW y) v0B v0C (vEmb_rf _ _) 0 rfl rfl rfl rfl rfl rfl rfl (vDet_k ?_)
  show V K (cW cI cS a (E, T, Kp, P, S, F)) 5 [(0, .ref (a 0)), (1, .int y), (2, .int w), (3, .int v)] [.int (bI (oyB y n))]
  refine v_bif_eq (tgt := 28) h pX3_change_0 3 rfl rfl (fun c1 => ?_) (fun c1 => ?_)
  · skip
    refine v_aload_n h pX3_change_0 14 rfl 0 rfl rfl (v_iconst h pX3_change_0 15 rfl ki_0 ?_)
    refine v_callV h pX3_change_0 16 mX3_55 (As := [.int 0]) (st := []) (kX3_finding _ _ cI cS a E T Kp P F S 0 (by decide)) v0B v0C (vEmb_rf _ _) 0 rfl rfl rfl rfl rfl rfl rfl (vDet_k ?_)
    show V K (cW cI cS a (E, T, Kp, P, S, fndC F 0)) 33 [(0, .ref (a 0)), (1, .int y), (2, .int w), (3, .int v)] [.int ((-1000001) - (nI 0))]
    refine v_top (w := .int (-1000001)) (by decide) ?_
    exact v_iret h pX3_change_0 17 hR hret rfl ((E, T, Kp, P, S, fndC F 0)) rfl ⟨vI (by simp [c1]), (by simp [c1, True]), rfl, ⟨rfl, rfl⟩, rfl, (fR_of (by simp [c1, True]))⟩
  · skip
    obtain ⟨e_y, l_y⟩ := oyB_t hn8 c1
    refine v_iload_n h pX3_change_0 4 rfl 2 rfl rfl (v_iconst h pX3_change_0 5 rfl ki_5 ?_)
    refine v_callS h pX3_change_0 6 mX3_51 (As := [.int w, .int 5]) (st := []) (kX3_isWithin _ _ cI cS w 5) v0B v0C (vEmb_u _) rfl rfl rfl rfl rfl (vDet_k ?_)
    show V K (cW cI cS a (E, T, Kp, P, S, F)) 13 [(0, .ref (a 0)), (1, .int y), (2, .int w), (3, .int v)] [.int (bI (inB w 0 5))]
    refine v_bif_eq (tgt := 28) h pX3_change_0 7 rfl rfl (fun c2 => ?_) (fun c2 => ?_)
    · skip
      refine v_aload_n h pX3_change_0 14 rfl 0 rfl rfl (v_iconst h pX3_change_0 15 rfl ki_0 ?_)
      refine v_callV h pX3_change_0 16 mX3_55 (As := [.int 0]) (st := []) (kX3_finding _ _ cI cS a E T Kp P F S 0 (by decide)) v0B v0C (vEmb_rf _ _) 0 rfl rfl rfl rfl rfl rfl rfl (vDet_k ?_)
      show V K (cW cI cS a (E, T, Kp, P, S, fndC F 0)) 33 [(0, .ref (a 0)), (1, .int y), (2, .int w), (3, .int v)] [.int ((-1000001) - (nI 0))]
      refine v_top (w := .int (-1000001)) (by decide) ?_
      exact v_iret h pX3_change_0 17 hR hret rfl ((E, T, Kp, P, S, fndC F 0)) rfl ⟨vI (by simp [c1, c2]), (by simp [c1, c2, True]), rfl, ⟨rfl, rfl⟩, rfl, (fR_of (by simp [c1, c2, True]))⟩
    · skip
      obtain ⟨e_w, l_w⟩ := inB_t 5 rfl (by decide) c2
      refine v_iload_n h pX3_change_0 8 rfl 3 rfl rfl (v_gets h pX3_change_0 9 hEx.2.2.2.2.2.2.2.1 wm_257 rfl (v_iload_n h pX3_change_0 10 rfl 2 rfl rfl (v_top (w := .int (nI (ix w))) (congrArg Value.int e_w) (v_tint h pX3_change_0 11 hEx.2.2.2.2.2.2.2.2 (ix w) rfl rfl (by omega) (by decide) (v_top (w := .int (gOf w)) (congrArg Value.int (mw_g e_w (by omega))) ?_)))))
      refine v_callS h pX3_change_0 12 mX3_51 (As := [.int v, .int (gOf w)]) (st := []) (kX3_isWithin _ _ cI cS v (gOf w)) v0B v0C (vEmb_u _) rfl rfl rfl rfl rfl (vDet_k ?_)
      show V K (cW cI cS a (E, T, Kp, P, S, F)) 25 [(0, .ref (a 0)), (1, .int y), (2, .int w), (3, .int v)] [.int (bI (inB v 0 (gOf w)))]
      refine v_bif_ne (tgt := 34) h pX3_change_0 13 rfl rfl (fun c3 => ?_) (fun c3 => ?_)
      · skip
        refine v_aload_n h pX3_change_0 18 rfl 0 rfl rfl (v_get h pX3_change_0 19 fX3_10 0 rfl rfl rfl (v_iload_n h pX3_change_0 20 rfl 2 rfl rfl ?_))
        refine v_callV h pX3_change_0 21 mX3_98 (As := [.int w]) (st := []) (kX0_rowOf _ _ cI cS (sh a 1) E w) v0B v0C emb_E 1 rfl rfl rfl rfl rfl rfl rfl (vDet_k ?_)
        show V K (cW cI cS a (E, T, Kp, P, S, F)) 42 [(0, .ref (a 0)), (1, .int y), (2, .int w), (3, .int v)] [.ref (sh a 1 (rowA w))]
        refine v_top (w := .ref (a (4 + ix w))) (congrArg Value.ref (rowA_a (b := 1) e_w (by omega))) (v_astore h pX3_change_0 22 (lv' := [(4, .ref (a (4 + ix w))), (0, .ref (a 0)), (1, .int y), (2, .int w), (3, .int v)]) rfl hnL rfl rfl (v_aload h pX3_change_0 23 rfl 0 rfl (v_iload_n h pX3_change_0 24 rfl 2 rfl rfl (v_top (w := .int (nI (ix y))) (congrArg Value.int e_y) (v_iald h pX3_change_0 25 (ix y) (4 + ix w) 0 rfl (cW_row0 (by omega)) rfl rfl rfl (by omega) ?_)))))
        refine v_istore h pX3_change_0 26 (lv' := [(5, .int (E (2 + ix w) (ix y))), (4, .ref (a (4 + ix w))), (0, .ref (a 0)), (1, .int y), (2, .int w), (3, .int v)]) rfl hnL rfl rfl (v_aload h pX3_change_0 27 rfl 1 rfl (v_iload_n h pX3_change_0 28 rfl 3 rfl rfl (v_top (w := .int (nI (ix y))) (congrArg Value.int e_y) (v_iload_n h pX3_change_0 29 rfl 5 rfl rfl (v_iast h pX3_change_0 30 (ix y) (4 + ix w) 0 (ws' := cW cI cS a (up E (2 + ix w) (ix y) v, T, Kp, P, S, F)) rfl (cW_row0 (by omega)) rfl rfl rfl (by omega) (cW_rs0 (by omega)) ?_)))))
        refine v_iload h pX3_change_0 31 rfl 0 rfl ?_
        exact v_iret h pX3_change_1 0 hR hret rfl ((up E (2 + ix w) (ix y) v, T, Kp, P, S, F)) rfl ⟨vI (by simp [c1, c2, c3]), (by simp [c1, c2, c3, True]), rfl, ⟨rfl, rfl⟩, rfl, (fR_of (by simp [c1, c2, c3, True]))⟩
      · skip
        refine v_aload_n h pX3_change_0 14 rfl 0 rfl rfl (v_iconst h pX3_change_0 15 rfl ki_0 ?_)
        refine v_callV h pX3_change_0 16 mX3_55 (As := [.int 0]) (st := []) (kX3_finding _ _ cI cS a E T Kp P F S 0 (by decide)) v0B v0C (vEmb_rf _ _) 0 rfl rfl rfl rfl rfl rfl rfl (vDet_k ?_)
        show V K (cW cI cS a (E, T, Kp, P, S, fndC F 0)) 33 [(0, .ref (a 0)), (1, .int y), (2, .int w), (3, .int v)] [.int ((-1000001) - (nI 0))]
        refine v_top (w := .int (-1000001)) (by decide) ?_
        exact v_iret h pX3_change_0 17 hR hret rfl ((E, T, Kp, P, S, fndC F 0)) rfl ⟨vI (by simp [c1, c2, c3]), (by simp [c1, c2, c3, True]), rfl, ⟨rfl, rfl⟩, rfl, (fR_of (by simp [c1, c2, c3, True]))⟩
set_option maxHeartbeats 300000 in
set_option maxRecDepth 100000 in
theorem kX3_as (l : Launch) (D : va_G) (cI cS : ClassId) (a : Nat → Nat) (x : xS) (E T Kp P F : Nat → Nat → Int32) (S : Nat → Nat → Nat → Int32) (n : Nat) (hW : Wf E n) (hZ : E 9 4 = 0) (s kd : Int32) : vMet l D (vT cI cS) yX3_as cX3_as 4 (some .int) 3 64 (cW cI cS a) (exA x) [.ref (a 0), .int s, .int kd] (E, T, Kp, P, S, F) (cPost (some (.int (cond (inB s 0 9 && inB kd 0 6) (asS E (ix s) kd) ((-1000001))))) (E) (Kp) (P) (S) (cond (inB s 0 9 && inB kd 0 6) (asC E (ix s) kd F) (fndC F 0))) := by
  refine vMet_of (by decide) rfl ?_
  intro K hl hD hnL hret h hR hEx
  subst hl hD
  show V K (cW cI cS a (E, T, Kp, P, S, F)) 0 [(0, .ref (a 0)), (1, .int s), (2, .int kd)] []
  have hn8 := hW.1
  refine v_iload_n h pX3_as_0 0 rfl 1 rfl rfl (v_bipush h pX3_as_0 1 rfl kb_9 ?_)
  refine v_callS h pX3_as_0 2 mX3_51 (As := [.int s, .int 9]) (st := []) (kX3_isWithin _ _ cI cS s 9) v0B v0C (vEmb_u _) rfl rfl rfl rfl rfl (vDet_k ?_)
  show V K (cW cI cS a (E, T, Kp, P, S, F)) 6 [(0, .ref (a 0)), (1, .int s), (2, .int kd)] [.int (bI (inB s 0 9))]
  refine v_bif_eq (tgt := 16) h pX3_as_0 3 rfl rfl (fun c1 => ?_) (fun c1 => ?_)
  · skip
    refine v_aload_n h pX3_as_0 7 rfl 0 rfl rfl (v_iconst h pX3_as_0 8 rfl ki_0 ?_)
    refine v_callV h pX3_as_0 9 mX3_55 (As := [.int 0]) (st := []) (kX3_finding _ _ cI cS a E T Kp P F S 0 (by decide)) v0B v0C (vEmb_rf _ _) 0 rfl rfl rfl rfl rfl rfl rfl (vDet_k ?_)
    show V K (cW cI cS a (E, T, Kp, P, S, fndC F 0)) 21 [(0, .ref (a 0)), (1, .int s), (2, .int kd)] [.int ((-1000001) - (nI 0))]
    refine v_top (w := .int (-1000001)) (by decide) ?_
    exact v_iret h pX3_as_0 10 hR hret rfl ((E, T, Kp, P, S, fndC F 0)) rfl ⟨vI (by simp [asS, c1]), rfl, rfl, ⟨rfl, rfl⟩, rfl, (fR_of (by simp [asC, c1]))⟩
  · skip
    obtain ⟨e_s, l_s⟩ := inB_t 9 rfl (by decide) c1
    refine v_iload_n h pX3_as_0 4 rfl 2 rfl rfl ?_
    refine v_callS h pX3_as_0 5 mX3_72 (As := [.int kd]) (st := []) (kX3_isKind _ _ cI cS kd) v0B v0C (vEmb_u _) rfl rfl rfl rfl rfl (vDet_k ?_)
    show V K (cW cI cS a (E, T, Kp, P, S, F)) 13 [(0, .ref (a 0)), (1, .int s), (2, .int kd)] [.int (bI (inB kd 0 6))]
    refine v_bif_ne (tgt := 22) h pX3_as_0 6 rfl rfl (fun c2 => ?_) (fun c2 => ?_)
    · skip
      refine v_aload_n h pX3_as_0 11 rfl 0 rfl rfl (v_get h pX3_as_0 12 fX3_10 0 rfl rfl rfl (v_get h pX3_as_0 13 fX3_224 1 rfl rfl rfl (v_iload_n h pX3_as_0 14 rfl 1 rfl rfl (v_top (w := .int (nI (ix s))) (congrArg Value.int e_s) (v_iald h pX3_as_0 15 (ix s) 10 0 rfl rfl rfl rfl rfl (by omega) ?_)))))
      refine v_istore_n h pX3_as_0 16 (lv' := [(3, .int (E 8 (ix s))), (0, .ref (a 0)), (1, .int s), (2, .int kd)]) rfl rfl hnL rfl rfl (v_aload_n h pX3_as_0 17 rfl 1 rfl rfl (v_iload_n h pX3_as_0 18 rfl 0 rfl rfl ?_))
      refine v_callV h pX3_as_0 19 mX3_83 (As := [.int (E 8 (ix s))]) (st := []) (kX3_isOyster _ _ cI cS a E T Kp P F S n hW (E 8 (ix s))) v0B v0C (vEmb_rf _ _) 0 rfl rfl rfl rfl rfl rfl rfl (vDet_k ?_)
      show V K (cW cI cS a (E, T, Kp, P, S, F)) 37 [(3, .int (E 8 (ix s))), (0, .ref (a 0)), (1, .int s), (2, .int kd)] [.int (bI (oyB (E 8 (ix s)) n))]
      refine v_bif_ne (tgt := 46) h pX3_as_0 20 rfl rfl (fun c3 => ?_) (fun c3 => ?_)
      · skip
        have hne : ¬ E 8 (ix s) = -1 := fun e => by rw [e] at c3; revert c3; rw [show oyB (-1) n = false from rfl]; decide
        obtain ⟨e_h, l_h⟩ := spot_ix hW (k := ix s) (by omega) hne
        refine v_aload_n h pX3_as_0 25 rfl 1 rfl rfl (v_get h pX3_as_0 26 fX3_10 0 rfl rfl rfl (v_get h pX3_as_0 27 fX3_155 1 rfl rfl rfl (v_iload_n h pX3_as_0 28 rfl 0 rfl rfl ?_)))
        refine v_top (w := .int (nI (ix (E 8 (ix s))))) (congrArg Value.int e_h) (v_iald h pX3_as_0 29 (ix (E 8 (ix s))) 4 0 rfl rfl rfl rfl rfl (by omega) ?_)
        refine v_top (w := .int (nI (ix (E 2 (ix (E 8 (ix s))))))) (congrArg Value.int (kd_ix hW (by omega)).1) ?_
        have hk6 := (kd_ix hW (i := ix (E 8 (ix s))) (by have := hW.1; omega)).2
        refine v_iload_n h pX3_as_0 30 rfl 3 rfl rfl ?_
        refine v_callS h pX3_as_0 31 mX3_227 (As := [.int (nI (ix (E 2 (ix (E 8 (ix s)))))), .int kd]) (st := []) (kX3_isOfKind _ _ cI cS x (ix (E 2 (ix (E 8 (ix s))))) (by omega) kd) (exA_B _) (exA_C hEx.2) (vEmb_u _) rfl rfl rfl rfl rfl (vDet_k ?_)
        show V K (cW cI cS a (E, T, Kp, P, S, F)) 59 [(3, .int (E 8 (ix s))), (0, .ref (a 0)), (1, .int s), (2, .int kd)] [.int (bI (underB (nI (ix (E 2 (ix (E 8 (ix s)))))) kd))]
        refine v_top (w := .int (bI (underB (E 2 (ix (E 8 (ix s)))) kd))) (congrArg (fun z => Value.int (bI (underB z kd))) (kd_ix hW (i := ix (E 8 (ix s))) (by have := hW.1; omega)).1.symm) ?_
        refine v_bif_eq (tgt := 66) h pX3_as_1 0 rfl rfl (fun c4 => ?_) (fun c4 => ?_)
        · skip
          refine v_aload_n h pX3_as_1 3 rfl 1 rfl rfl (v_iconst h pX3_as_1 4 rfl ki_2 ?_)
          refine v_callV h pX3_as_1 5 mX3_55 (As := [.int 2]) (st := []) (kX3_finding _ _ cI cS a E T Kp P F S 2 (by decide)) v0B v0C (vEmb_rf _ _) 0 rfl rfl rfl rfl rfl rfl rfl (vDet_k ?_)
          show V K (cW cI cS a (E, T, Kp, P, S, fndC F 2)) 71 [(3, .int (E 8 (ix s))), (0, .ref (a 0)), (1, .int s), (2, .int kd)] [.int ((-1000001) - (nI 2))]
          refine v_top (w := .int (-1000003)) (by decide) ?_
          exact v_iret h pX3_as_1 6 hR hret rfl ((E, T, Kp, P, S, fndC F 2)) rfl ⟨vI (by simp [asS, c1, c2, hne, c4]), rfl, rfl, ⟨rfl, rfl⟩, rfl, (fR_of (by simp [asC, c1, c2, hne, c4]))⟩
        · skip
          refine v_iload_n h pX3_as_1 1 rfl 0 rfl rfl (v_goto (tgt := 71) h pX3_as_1 2 rfl rfl ?_)
          exact v_iret h pX3_as_1 6 hR hret rfl ((E, T, Kp, P, S, F)) rfl ⟨vI (by simp [asS, c1, c2, hne, c4]), rfl, rfl, ⟨rfl, rfl⟩, rfl, (fR_of (by simp [asC, c1, c2, hne, c4]))⟩
      · skip
        have hne : E 8 (ix s) = -1 := spot_no hW (by omega) c3
        refine v_aload_n h pX3_as_0 21 rfl 1 rfl rfl (v_iconst h pX3_as_0 22 rfl ki_5 ?_)
        refine v_callV h pX3_as_0 23 mX3_55 (As := [.int 5]) (st := []) (kX3_finding _ _ cI cS a E T Kp P F S 5 (by decide)) v0B v0C (vEmb_rf _ _) 0 rfl rfl rfl rfl rfl rfl rfl (vDet_k ?_)
        show V K (cW cI cS a (E, T, Kp, P, S, fndC F 5)) 45 [(3, .int (E 8 (ix s))), (0, .ref (a 0)), (1, .int s), (2, .int kd)] [.int ((-1000001) - (nI 5))]
        refine v_top (w := .int (-1000006)) (by decide) ?_
        exact v_iret h pX3_as_0 24 hR hret rfl ((E, T, Kp, P, S, fndC F 5)) rfl ⟨vI (by simp [asS, c1, c2, (eq_true hne)]), rfl, rfl, ⟨rfl, rfl⟩, rfl, (fR_of (by simp [asC, c1, c2, (eq_true hne)]))⟩
    · skip
      refine v_aload_n h pX3_as_0 7 rfl 0 rfl rfl (v_iconst h pX3_as_0 8 rfl ki_0 ?_)
      refine v_callV h pX3_as_0 9 mX3_55 (As := [.int 0]) (st := []) (kX3_finding _ _ cI cS a E T Kp P F S 0 (by decide)) v0B v0C (vEmb_rf _ _) 0 rfl rfl rfl rfl rfl rfl rfl (vDet_k ?_)
      show V K (cW cI cS a (E, T, Kp, P, S, fndC F 0)) 21 [(0, .ref (a 0)), (1, .int s), (2, .int kd)] [.int ((-1000001) - (nI 0))]
      refine v_top (w := .int (-1000001)) (by decide) ?_
      exact v_iret h pX3_as_0 10 hR hret rfl ((E, T, Kp, P, S, fndC F 0)) rfl ⟨vI (by simp [asS, c1, c2]), rfl, rfl, ⟨rfl, rfl⟩, rfl, (fR_of (by simp [asC, c1, c2]))⟩
