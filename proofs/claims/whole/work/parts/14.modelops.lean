set_option maxHeartbeats 300000 in
set_option maxRecDepth 100000 in
theorem kX4_isAsked (l : Launch) (D : va_G) (cI cS : ClassId) (b : Nat → Nat) (E Kp Bf As Q : Nat → Nat → Int32) (n : Nat) (hW : Wf E n) (y k : Int32) : vDet l D (vT cI cS) yX4_isAsked cX4_isAsked 3 (some .boolean) 1 25 (mW cI b) [.ref (b 0), .int y, .int k] (E, Kp, Bf, As, Q) (some (.int (bI (oyB y n && inB k 0 40)))) ((E, Kp, Bf, As, Q)) := by
  refine vMet_of (by decide) rfl ?_
  intro K hl hD hnL hret h hR hEx
  subst hl hD
  show V K (mW cI b (E, Kp, Bf, As, Q)) 0 [(0, .ref (b 0)), (1, .int y), (2, .int k)] []
  refine v_aload_n h pX4_isAsked_0 0 rfl 0 rfl rfl (v_iload_n h pX4_isAsked_0 1 rfl 1 rfl rfl ?_)
  refine v_callV h pX4_isAsked_0 2 mX4_88 (As := [.int y]) (st := []) (kX4_isOyster _ _ cI cS b E Kp Bf As Q n hW.2.1 y) v0B v0C (vEmb_rf _ _) 0 rfl rfl rfl rfl rfl rfl rfl (vDet_k ?_)
  show V K (mW cI b (E, Kp, Bf, As, Q)) 5 [(0, .ref (b 0)), (1, .int y), (2, .int k)] [.int (bI (oyB y n))]
  refine v_bif_eq (tgt := 24) h pX4_isAsked_0 3 rfl rfl (fun c1 => ?_) (fun c1 => ?_)
  · skip
    refine v_iconst h pX4_isAsked_0 12 rfl ki_0 ?_
    exact v_zret h pX4_isAsked_0 13 (Or.inl rfl) hR hret rfl ((E, Kp, Bf, As, Q)) rfl ⟨vI (by simp [bI, c1]), rfl⟩
  · skip
    refine v_iload_n h pX4_isAsked_0 4 rfl 2 rfl rfl (v_i2l h pX4_isAsked_0 5 rfl (v_lconst (v := (nI 0).toInt64) h pX4_isAsked_0 6 rfl kl_0 (v_ldc2 h pX4_isAsked_0 7 wm_436 rfl (v_top (w := .long (nI 40).toInt64) (kL 40 _ (by decide)) ?_))))
    refine v_callS h pX4_isAsked_0 8 mX4_50 (As := [.long k.toInt64, .long ((nI 0).toInt64), .long ((nI 40).toInt64)]) (st := []) (kX4_isIn _ _ cI cS k 0 40) v0B v0C (vEmb_u _) rfl rfl rfl rfl rfl (vDet_k ?_)
    show V K (mW cI b (E, Kp, Bf, As, Q)) 17 [(0, .ref (b 0)), (1, .int y), (2, .int k)] [.int (bI (inB k 0 40))]
    refine v_bif_eq (tgt := 24) h pX4_isAsked_0 9 rfl rfl (fun c2 => ?_) (fun c2 => ?_)
    · skip
      refine v_iconst h pX4_isAsked_0 12 rfl ki_0 ?_
      exact v_zret h pX4_isAsked_0 13 (Or.inl rfl) hR hret rfl ((E, Kp, Bf, As, Q)) rfl ⟨vI (by simp [bI, c1, c2]), rfl⟩
    · skip
      refine v_iconst h pX4_isAsked_0 10 rfl ki_1 (v_goto (tgt := 25) h pX4_isAsked_0 11 rfl rfl ?_)
      exact v_zret h pX4_isAsked_0 13 (Or.inr rfl) hR hret rfl ((E, Kp, Bf, As, Q)) rfl ⟨vI (by simp [bI, c1, c2]), rfl⟩
set_option maxHeartbeats 300000 in
set_option maxRecDepth 100000 in
theorem kX4_bestBy (l : Launch) (D : va_G) (cI cS : ClassId) (b : Nat → Nat) (E Kp Bf As Q : Nat → Nat → Int32) (n : Nat) (hW : Wf E n) (yb : Nat) (hY : bd (E 9 2) yb) (y w k m0 g : Nat) (hy : y < 8) (hw : w < 6) (hm : m0 < 6 ∨ m0 = 9) (hk : yb + k ≤ 99999) (hg : gOf (nI w) = nI g) (hgb : g ≤ 10) (hU : ∀ v, v ≤ g → Wf (up E (2 + w) y (nI v)) n) : vMet l D (vT cI cS) yX4_bestBy cX4_bestBy 10 (some .int) 6 135 (mW cI b) v0 [.ref (b 0), .int (nI y), .int (nI w), .int (nI k), .int (nI m0)] (E, Kp, Bf, As, Q) (mRel (some (.int (nI (bstS (fun v => thenS (yearsS n 0 (up E (2 + w) y (nI v)) k) y m0) (g + 1))))) E Kp Bf Q) := by
  refine vMet_of (by decide) rfl ?_
  intro K hl hD hnL hret h hR hEx
  subst hl hD
  show V K (mW cI b (E, Kp, Bf, As, Q)) 0 [(0, .ref (b 0)), (1, .int (nI y)), (2, .int (nI w)), (3, .int (nI k)), (4, .int (nI m0))] []
  have hn8 := hW.1
  have hYU : ∀ v, bd (up E (2 + w) y v 9 2) yb := fun v => by rw [up_n _ _ _ _ (beq_f (by omega))]; exact hY
  refine v_aload_n h pX4_bestBy_0 0 rfl 0 rfl rfl (v_iload_n h pX4_bestBy_0 1 rfl 1 rfl rfl (v_iload_n h pX4_bestBy_0 2 rfl 2 rfl rfl ?_))
  refine v_callV h pX4_bestBy_0 3 mX4_64 (As := [.int (nI y), .int (nI w)]) (st := []) (kX4_its _ _ cI cS b E Kp Bf As Q y w (by omega) (by omega)) v0B v0C (vEmb_rf _ _) 0 rfl rfl rfl rfl rfl rfl rfl (vDet_k ?_)
  show V K (mW cI b (E, Kp, Bf, As, Q)) 6 [(0, .ref (b 0)), (1, .int (nI y)), (2, .int (nI w)), (3, .int (nI k)), (4, .int (nI m0))] [.int (E (2 + w) y)]
  refine v_istore h pX4_bestBy_0 4 (lv' := [(5, .int (E (2 + w) y)), (0, .ref (b 0)), (1, .int (nI y)), (2, .int (nI w)), (3, .int (nI k)), (4, .int (nI m0))]) rfl hnL rfl rfl (v_iconst h pX4_bestBy_0 5 rfl ki_0 (v_istore h pX4_bestBy_0 6 (lv' := [(6, .int 0), (5, .int (E (2 + w) y)), (0, .ref (b 0)), (1, .int (nI y)), (2, .int (nI w)), (3, .int (nI k)), (4, .int (nI m0))]) rfl hnL rfl rfl (v_iconst h pX4_bestBy_0 7 rfl ki_m1 (v_istore h pX4_bestBy_0 8 (lv' := [(7, .int (-1)), (6, .int 0), (5, .int (E (2 + w) y)), (0, .ref (b 0)), (1, .int (nI y)), (2, .int (nI w)), (3, .int (nI k)), (4, .int (nI m0))]) rfl hnL rfl rfl ?_))))
  refine v_eqw (ws' := mW cI b (up E (2 + w) y (E (2 + w) y), Kp, Bf, As, Q)) (by rw [up_id]) ?_
  refine v_iconst h pX4_bestBy_0 9 rfl ki_0 (v_istore h pX4_bestBy_0 10 (lv' := [(8, .int 0), (7, .int (-1)), (6, .int 0), (5, .int (E (2 + w) y)), (0, .ref (b 0)), (1, .int (nI y)), (2, .int (nI w)), (3, .int (nI k)), (4, .int (nI m0))]) rfl hnL rfl rfl ?_)
  refine v_lv [4, 5, 6, 7, 8, 3, 2, 1, 0] (lv' := [(0, .ref (b 0)), (1, .int (nI y)), (2, .int (nI w)), (3, .int (nI k)), (4, .int (nI m0)), (5, .int (E (2 + w) y)), (6, .int 0), (7, .int (-1)), (8, .int 0)]) rfl ?_
  have LA : ∀ (m iA : Nat) (xA : Int32) (AsA : Nat → Nat → Int32), iA ≤ g + 1 → (True) → g + 1 + 1 ≤ iA + m → V K (mW cI b (up E (2 + w) y xA, Kp, Bf, AsA, Q)) 17 [(0, .ref (b 0)), (1, .int (nI y)), (2, .int (nI w)), (3, .int (nI k)), (4, .int (nI m0)), (5, .int (E (2 + w) y)), (6, .int (nI (bstS (fun v => thenS (yearsS n 0 (up E (2 + w) y (nI v)) k) y m0) iA))), (7, .int (mstS (fun v => thenS (yearsS n 0 (up E (2 + w) y (nI v)) k) y m0) iA)), (8, .int (nI iA))] [] := by
    intro m
    induction m with
    | zero => exact fun iA xA AsA h1 hh h2 => absurd h2 (by omega)
    | succ m ihA =>
      intro iA xA AsA hleA hhA hltA
      refine v_iload h pX4_bestBy_0 11 rfl 8 rfl (v_iload_n h pX4_bestBy_0 12 rfl 2 rfl rfl ?_)
      refine v_callS h pX4_bestBy_0 13 mX4_105 (As := [.int (nI w)]) (st := [.int (nI iA)]) (kX4_greatestOf _ _ cI cS (nI w)) v0B v0C (vEmb_u _) rfl rfl rfl rfl rfl (vDet_k ?_)
      show V K (mW cI b (up E (2 + w) y xA, Kp, Bf, AsA, Q)) 23 [(0, .ref (b 0)), (1, .int (nI y)), (2, .int (nI w)), (3, .int (nI k)), (4, .int (nI m0)), (5, .int (E (2 + w) y)), (6, .int (nI (bstS (fun v => thenS (yearsS n 0 (up E (2 + w) y (nI v)) k) y m0) iA))), (7, .int (mstS (fun v => thenS (yearsS n 0 (up E (2 + w) y (nI v)) k) y m0) iA)), (8, .int (nI iA))] [.int (gOf (nI w)), .int (nI iA)]
      refine v_top (w := .int (nI g)) (congrArg Value.int hg) ?_
      refine v_ncmp_gt (a := iA) (b := g) (tgt := 79) h pX4_bestBy_0 14 rfl rfl (by omega) (by omega) (fun c2 => ?_) (fun c2 => ?_)
      · skip
        obtain rfl : g + 1 = iA := by omega
        refine v_aload_n h pX4_bestBy_1 9 rfl 0 rfl rfl (v_get h pX4_bestBy_1 10 fX4_7 0 rfl rfl rfl (v_iload_n h pX4_bestBy_1 11 rfl 1 rfl rfl (v_iload_n h pX4_bestBy_1 12 rfl 2 rfl rfl ?_)))
        refine v_callS h pX4_bestBy_1 13 mX4_69 (As := [.int (nI y), .int (nI w)]) (st := [.ref (b 1)]) (kX4_at _ _ cI cS y w) v0B v0C (vEmb_u _) rfl rfl rfl rfl rfl (vDet_k ?_)
        show V K (mW cI b (up E (2 + w) y xA, Kp, Bf, AsA, Q)) 88 [(0, .ref (b 0)), (1, .int (nI y)), (2, .int (nI w)), (3, .int (nI k)), (4, .int (nI m0)), (5, .int (E (2 + w) y)), (6, .int (nI (bstS (fun v => thenS (yearsS n 0 (up E (2 + w) y (nI v)) k) y m0) (g + 1)))), (7, .int (mstS (fun v => thenS (yearsS n 0 (up E (2 + w) y (nI v)) k) y m0) (g + 1))), (8, .int (nI (g + 1)))] [.int (nI (16 + 6 * y + w)), .ref (b 1)]
        refine v_iload h pX4_bestBy_1 14 rfl 5 rfl (v_iast h pX4_bestBy_1 15 (16 + 6 * y + w) 1 0 (ws' := mW cI b (up (up E (2 + w) y xA) (2 + w) y (E (2 + w) y), Kp, Bf, AsA, Q)) rfl rfl rfl rfl rfl (by omega) (mW_s (16 + 6 * y + w) (2 + w) y (flR_y (by omega) (by omega)) (flI_y (by omega) (by omega))) ?_)
        refine v_eqw (ws' := mW cI b (E, Kp, Bf, AsA, Q)) (by rw [up_bk]) (v_iload h pX4_bestBy_1 16 rfl 6 rfl ?_)
        exact v_iret h pX4_bestBy_1 17 hR hret rfl ((E, Kp, Bf, AsA, Q)) rfl ⟨vI rfl, _, rfl⟩
      · skip
        refine v_aload_n h pX4_bestBy_0 15 rfl 0 rfl rfl (v_get h pX4_bestBy_0 16 fX4_7 0 rfl rfl rfl (v_iload_n h pX4_bestBy_0 17 rfl 1 rfl rfl (v_iload_n h pX4_bestBy_0 18 rfl 2 rfl rfl ?_)))
        refine v_callS h pX4_bestBy_0 19 mX4_69 (As := [.int (nI y), .int (nI w)]) (st := [.ref (b 1)]) (kX4_at _ _ cI cS y w) v0B v0C (vEmb_u _) rfl rfl rfl rfl rfl (vDet_k ?_)
        show V K (mW cI b (up E (2 + w) y xA, Kp, Bf, AsA, Q)) 35 [(0, .ref (b 0)), (1, .int (nI y)), (2, .int (nI w)), (3, .int (nI k)), (4, .int (nI m0)), (5, .int (E (2 + w) y)), (6, .int (nI (bstS (fun v => thenS (yearsS n 0 (up E (2 + w) y (nI v)) k) y m0) iA))), (7, .int (mstS (fun v => thenS (yearsS n 0 (up E (2 + w) y (nI v)) k) y m0) iA)), (8, .int (nI iA))] [.int (nI (16 + 6 * y + w)), .ref (b 1)]
        refine v_iload h pX4_bestBy_0 20 rfl 8 rfl (v_iast h pX4_bestBy_0 21 (16 + 6 * y + w) 1 0 (ws' := mW cI b (up (up E (2 + w) y xA) (2 + w) y (nI iA), Kp, Bf, AsA, Q)) rfl rfl rfl rfl rfl (by omega) (mW_s (16 + 6 * y + w) (2 + w) y (flR_y (by omega) (by omega)) (flI_y (by omega) (by omega))) ?_)
        refine v_eqw (ws' := mW cI b (up E (2 + w) y (nI iA), Kp, Bf, AsA, Q)) (by rw [up_up]) (v_aload_n h pX4_bestBy_0 22 rfl 0 rfl rfl (v_iload_n h pX4_bestBy_0 23 rfl 1 rfl rfl (v_iload h pX4_bestBy_0 24 rfl 4 rfl (v_iload_n h pX4_bestBy_0 25 rfl 3 rfl rfl ?_))))
        refine v_callV h pX4_bestBy_0 26 mX4_138 (As := [.int (nI y), .int (nI m0), .int (nI k)]) (st := []) (kX4_then _ _ cI cS b (up E (2 + w) y (nI iA)) Kp Bf AsA Q n (hU iA (by omega)) yb (hYU (nI iA)) y m0 k (by omega) (by omega) (by omega)) v0B v0C (vEmb_rf _ _) 0 rfl rfl rfl rfl rfl rfl rfl (vDet_k ?_)
        show V K (mW cI b (up E (2 + w) y (nI iA), Kp, Bf, up E (2 + w) y (nI iA), Q)) 46 [(0, .ref (b 0)), (1, .int (nI y)), (2, .int (nI w)), (3, .int (nI k)), (4, .int (nI m0)), (5, .int (E (2 + w) y)), (6, .int (nI (bstS (fun v => thenS (yearsS n 0 (up E (2 + w) y (nI v)) k) y m0) iA))), (7, .int (mstS (fun v => thenS (yearsS n 0 (up E (2 + w) y (nI v)) k) y m0) iA)), (8, .int (nI iA))] [.int (thenS (yearsS n 0 (up E (2 + w) y (nI iA)) k) y m0)]
        refine v_istore h pX4_bestBy_0 27 (lv' := [(9, .int (thenS (yearsS n 0 (up E (2 + w) y (nI iA)) k) y m0)), (0, .ref (b 0)), (1, .int (nI y)), (2, .int (nI w)), (3, .int (nI k)), (4, .int (nI m0)), (5, .int (E (2 + w) y)), (6, .int (nI (bstS (fun v => thenS (yearsS n 0 (up E (2 + w) y (nI v)) k) y m0) iA))), (7, .int (mstS (fun v => thenS (yearsS n 0 (up E (2 + w) y (nI v)) k) y m0) iA)), (8, .int (nI iA))]) rfl hnL rfl rfl (v_iload h pX4_bestBy_0 28 rfl 0 rfl (v_iload h pX4_bestBy_0 29 rfl 8 rfl ?_))
        refine v_icmp_le2 (tgt := 60) h pX4_bestBy_0 30 rfl rfl (fun c3 => ?_) (fun c3 => ?_)
        · skip
          refine v_iload h pX4_bestBy_1 1 rfl 7 rfl (v_istore h pX4_bestBy_1 2 (lv' := [(6, .int (nI (bstS (fun v => thenS (yearsS n 0 (up E (2 + w) y (nI v)) k) y m0) iA))), (9, .int (thenS (yearsS n 0 (up E (2 + w) y (nI iA)) k) y m0)), (0, .ref (b 0)), (1, .int (nI y)), (2, .int (nI w)), (3, .int (nI k)), (4, .int (nI m0)), (5, .int (E (2 + w) y)), (7, .int (mstS (fun v => thenS (yearsS n 0 (up E (2 + w) y (nI v)) k) y m0) iA)), (8, .int (nI iA))]) rfl hnL rfl rfl (v_iload h pX4_bestBy_1 3 rfl 8 rfl (v_iload h pX4_bestBy_1 4 rfl 1 rfl ?_)))
          refine v_callS h pX4_bestBy_1 5 mX4_82 (As := [.int (mstS (fun v => thenS (yearsS n 0 (up E (2 + w) y (nI v)) k) y m0) iA), .int (thenS (yearsS n 0 (up E (2 + w) y (nI iA)) k) y m0)]) (st := []) (kX4_greatest _ _ cI cS (mstS (fun v => thenS (yearsS n 0 (up E (2 + w) y (nI v)) k) y m0) iA) (thenS (yearsS n 0 (up E (2 + w) y (nI iA)) k) y m0)) v0B v0C (vEmb_u _) rfl rfl rfl rfl rfl (vDet_k ?_)
          show V K (mW cI b (up E (2 + w) y (nI iA), Kp, Bf, up E (2 + w) y (nI iA), Q)) 71 [(6, .int (nI (bstS (fun v => thenS (yearsS n 0 (up E (2 + w) y (nI v)) k) y m0) iA))), (9, .int (thenS (yearsS n 0 (up E (2 + w) y (nI iA)) k) y m0)), (0, .ref (b 0)), (1, .int (nI y)), (2, .int (nI w)), (3, .int (nI k)), (4, .int (nI m0)), (5, .int (E (2 + w) y)), (7, .int (mstS (fun v => thenS (yearsS n 0 (up E (2 + w) y (nI v)) k) y m0) iA)), (8, .int (nI iA))] [.int (mx (mstS (fun v => thenS (yearsS n 0 (up E (2 + w) y (nI v)) k) y m0) iA) (thenS (yearsS n 0 (up E (2 + w) y (nI iA)) k) y m0))]
          refine v_istore h pX4_bestBy_1 6 (lv' := [(7, .int (mx (mstS (fun v => thenS (yearsS n 0 (up E (2 + w) y (nI v)) k) y m0) iA) (thenS (yearsS n 0 (up E (2 + w) y (nI iA)) k) y m0))), (6, .int (nI (bstS (fun v => thenS (yearsS n 0 (up E (2 + w) y (nI v)) k) y m0) iA))), (9, .int (thenS (yearsS n 0 (up E (2 + w) y (nI iA)) k) y m0)), (0, .ref (b 0)), (1, .int (nI y)), (2, .int (nI w)), (3, .int (nI k)), (4, .int (nI m0)), (5, .int (E (2 + w) y)), (8, .int (nI iA))]) rfl hnL rfl rfl (v_iinc h pX4_bestBy_1 7 (v := nI (iA + 1)) (lv' := [(8, .int (nI (iA + 1))), (7, .int (mx (mstS (fun v => thenS (yearsS n 0 (up E (2 + w) y (nI v)) k) y m0) iA) (thenS (yearsS n 0 (up E (2 + w) y (nI iA)) k) y m0))), (6, .int (nI (bstS (fun v => thenS (yearsS n 0 (up E (2 + w) y (nI v)) k) y m0) iA))), (9, .int (thenS (yearsS n 0 (up E (2 + w) y (nI iA)) k) y m0)), (0, .ref (b 0)), (1, .int (nI y)), (2, .int (nI w)), (3, .int (nI k)), (4, .int (nI m0)), (5, .int (E (2 + w) y))]) rfl 9 rfl hnL rfl rfl (nI_1 iA) (v_goto (tgt := 17) h pX4_bestBy_1 8 rfl rfl (v_lv [4, 5, 6, 7, 8, 9, 2, 1, 0] (lv' := [(0, .ref (b 0)), (1, .int (nI y)), (2, .int (nI w)), (3, .int (nI k)), (4, .int (nI m0)), (5, .int (E (2 + w) y)), (6, .int (nI (bstS (fun v => thenS (yearsS n 0 (up E (2 + w) y (nI v)) k) y m0) iA))), (7, .int (mx (mstS (fun v => thenS (yearsS n 0 (up E (2 + w) y (nI v)) k) y m0) iA) (thenS (yearsS n 0 (up E (2 + w) y (nI iA)) k) y m0))), (8, .int (nI (iA + 1)))]) rfl (v_eql (congrArg (fun z : Int32 => ([(0, .ref (b 0)), (1, .int (nI y)), (2, .int (nI w)), (3, .int (nI k)), (4, .int (nI m0)), (5, .int (E (2 + w) y)), (6, .int z), (7, .int (mx (mstS (fun v => thenS (yearsS n 0 (up E (2 + w) y (nI v)) k) y m0) iA) (thenS (yearsS n 0 (up E (2 + w) y (nI iA)) k) y m0))), (8, .int (nI (iA + 1)))] : List (Nat × Value))) (by first | rfl | (simp [bstS, c2, c3, -Int32.not_lt]) : nI (bstS (fun v => thenS (yearsS n 0 (up E (2 + w) y (nI v)) k) y m0) iA) = nI (bstS (fun v => thenS (yearsS n 0 (up E (2 + w) y (nI v)) k) y m0) (iA + 1)))) (v_eql (congrArg (fun z : Int32 => ([(0, .ref (b 0)), (1, .int (nI y)), (2, .int (nI w)), (3, .int (nI k)), (4, .int (nI m0)), (5, .int (E (2 + w) y)), (6, .int (nI (bstS (fun v => thenS (yearsS n 0 (up E (2 + w) y (nI v)) k) y m0) (iA + 1)))), (7, .int z), (8, .int (nI (iA + 1)))] : List (Nat × Value))) (by first | rfl | (simp [bstS, c2, c3, -Int32.not_lt]) : mx (mstS (fun v => thenS (yearsS n 0 (up E (2 + w) y (nI v)) k) y m0) iA) (thenS (yearsS n 0 (up E (2 + w) y (nI iA)) k) y m0) = mstS (fun v => thenS (yearsS n 0 (up E (2 + w) y (nI v)) k) y m0) (iA + 1))) ?_)))))
          exact ihA (iA + 1) (nI iA) (up E (2 + w) y (nI iA)) (by omega) (trivial) (by omega)
        · skip
          refine v_iload h pX4_bestBy_0 31 rfl 9 rfl (v_goto (tgt := 62) h pX4_bestBy_1 0 rfl rfl (v_istore h pX4_bestBy_1 2 (lv' := [(6, .int (nI iA)), (9, .int (thenS (yearsS n 0 (up E (2 + w) y (nI iA)) k) y m0)), (0, .ref (b 0)), (1, .int (nI y)), (2, .int (nI w)), (3, .int (nI k)), (4, .int (nI m0)), (5, .int (E (2 + w) y)), (7, .int (mstS (fun v => thenS (yearsS n 0 (up E (2 + w) y (nI v)) k) y m0) iA)), (8, .int (nI iA))]) rfl hnL rfl rfl (v_iload h pX4_bestBy_1 3 rfl 8 rfl (v_iload h pX4_bestBy_1 4 rfl 1 rfl ?_))))
          refine v_callS h pX4_bestBy_1 5 mX4_82 (As := [.int (mstS (fun v => thenS (yearsS n 0 (up E (2 + w) y (nI v)) k) y m0) iA), .int (thenS (yearsS n 0 (up E (2 + w) y (nI iA)) k) y m0)]) (st := []) (kX4_greatest _ _ cI cS (mstS (fun v => thenS (yearsS n 0 (up E (2 + w) y (nI v)) k) y m0) iA) (thenS (yearsS n 0 (up E (2 + w) y (nI iA)) k) y m0)) v0B v0C (vEmb_u _) rfl rfl rfl rfl rfl (vDet_k ?_)
          show V K (mW cI b (up E (2 + w) y (nI iA), Kp, Bf, up E (2 + w) y (nI iA), Q)) 71 [(6, .int (nI iA)), (9, .int (thenS (yearsS n 0 (up E (2 + w) y (nI iA)) k) y m0)), (0, .ref (b 0)), (1, .int (nI y)), (2, .int (nI w)), (3, .int (nI k)), (4, .int (nI m0)), (5, .int (E (2 + w) y)), (7, .int (mstS (fun v => thenS (yearsS n 0 (up E (2 + w) y (nI v)) k) y m0) iA)), (8, .int (nI iA))] [.int (mx (mstS (fun v => thenS (yearsS n 0 (up E (2 + w) y (nI v)) k) y m0) iA) (thenS (yearsS n 0 (up E (2 + w) y (nI iA)) k) y m0))]
          refine v_istore h pX4_bestBy_1 6 (lv' := [(7, .int (mx (mstS (fun v => thenS (yearsS n 0 (up E (2 + w) y (nI v)) k) y m0) iA) (thenS (yearsS n 0 (up E (2 + w) y (nI iA)) k) y m0))), (6, .int (nI iA)), (9, .int (thenS (yearsS n 0 (up E (2 + w) y (nI iA)) k) y m0)), (0, .ref (b 0)), (1, .int (nI y)), (2, .int (nI w)), (3, .int (nI k)), (4, .int (nI m0)), (5, .int (E (2 + w) y)), (8, .int (nI iA))]) rfl hnL rfl rfl (v_iinc h pX4_bestBy_1 7 (v := nI (iA + 1)) (lv' := [(8, .int (nI (iA + 1))), (7, .int (mx (mstS (fun v => thenS (yearsS n 0 (up E (2 + w) y (nI v)) k) y m0) iA) (thenS (yearsS n 0 (up E (2 + w) y (nI iA)) k) y m0))), (6, .int (nI iA)), (9, .int (thenS (yearsS n 0 (up E (2 + w) y (nI iA)) k) y m0)), (0, .ref (b 0)), (1, .int (nI y)), (2, .int (nI w)), (3, .int (nI k)), (4, .int (nI m0)), (5, .int (E (2 + w) y))]) rfl 9 rfl hnL rfl rfl (nI_1 iA) (v_goto (tgt := 17) h pX4_bestBy_1 8 rfl rfl (v_lv [4, 5, 6, 7, 8, 9, 2, 1, 0] (lv' := [(0, .ref (b 0)), (1, .int (nI y)), (2, .int (nI w)), (3, .int (nI k)), (4, .int (nI m0)), (5, .int (E (2 + w) y)), (6, .int (nI iA)), (7, .int (mx (mstS (fun v => thenS (yearsS n 0 (up E (2 + w) y (nI v)) k) y m0) iA) (thenS (yearsS n 0 (up E (2 + w) y (nI iA)) k) y m0))), (8, .int (nI (iA + 1)))]) rfl (v_eql (congrArg (fun z : Int32 => ([(0, .ref (b 0)), (1, .int (nI y)), (2, .int (nI w)), (3, .int (nI k)), (4, .int (nI m0)), (5, .int (E (2 + w) y)), (6, .int z), (7, .int (mx (mstS (fun v => thenS (yearsS n 0 (up E (2 + w) y (nI v)) k) y m0) iA) (thenS (yearsS n 0 (up E (2 + w) y (nI iA)) k) y m0))), (8, .int (nI (iA + 1)))] : List (Nat × Value))) (by first | rfl | (simp [bstS, c2, c3, -Int32.not_lt]) : nI iA = nI (bstS (fun v => thenS (yearsS n 0 (up E (2 + w) y (nI v)) k) y m0) (iA + 1)))) (v_eql (congrArg (fun z : Int32 => ([(0, .ref (b 0)), (1, .int (nI y)), (2, .int (nI w)), (3, .int (nI k)), (4, .int (nI m0)), (5, .int (E (2 + w) y)), (6, .int (nI (bstS (fun v => thenS (yearsS n 0 (up E (2 + w) y (nI v)) k) y m0) (iA + 1)))), (7, .int z), (8, .int (nI (iA + 1)))] : List (Nat × Value))) (by first | rfl | (simp [bstS, c2, c3, -Int32.not_lt]) : mx (mstS (fun v => thenS (yearsS n 0 (up E (2 + w) y (nI v)) k) y m0) iA) (thenS (yearsS n 0 (up E (2 + w) y (nI iA)) k) y m0) = mstS (fun v => thenS (yearsS n 0 (up E (2 + w) y (nI v)) k) y m0) (iA + 1))) ?_)))))
          exact ihA (iA + 1) (nI iA) (up E (2 + w) y (nI iA)) (by omega) (trivial) (by omega)
  exact LA (g + 1 + 1) 0 (E (2 + w) y) As (by omega) trivial (by omega)
set_option maxHeartbeats 300000 in
set_option maxRecDepth 100000 in
theorem kX4_sow (l : Launch) (D : va_G) (cI cS : ClassId) (b : Nat → Nat) (E Kp Bf As Q : Nat → Nat → Int32) (n : Nat) (hW : Wf E n) (yb : Nat) (hY : bd (E 9 2) yb) (hyb : yb ≤ 99000) (y k : Int32) : vMet l D (vT cI cS) yX4_sow cX4_sow 3 (some .int) 7 164 (mW cI b) v0 [.ref (b 0), .int y, .int k] (E, Kp, Bf, As, Q) (mPost (some (.int (cond (oyB y n && inB k 0 40) (nI (bstS (fun v => yearsS n 0 (up E 3 (ix y) (nI v)) (ix k) 5 (ix y)) 6)) ((-1000001))))) (E) (Kp) (cond (oyB y n && inB k 0 40) (Q) (fndS Q 0))) := by
  refine vMet_of (by decide) rfl ?_
  intro K hl hD hnL hret h hR hEx
  subst hl hD
  show V K (mW cI b (E, Kp, Bf, As, Q)) 0 [(0, .ref (b 0)), (1, .int y), (2, .int k)] []
  have hn8 := hW.1
  refine v_aload_n h pX4_sow_0 0 rfl 0 rfl rfl (v_iload_n h pX4_sow_0 1 rfl 1 rfl rfl (v_iload_n h pX4_sow_0 2 rfl 2 rfl rfl ?_))
  refine v_callV h pX4_sow_0 3 mX4_144 (As := [.int y, .int k]) (st := []) (kX4_isAsked _ _ cI cS b E Kp Bf As Q n hW y k) v0B v0C (vEmb_rf _ _) 0 rfl rfl rfl rfl rfl rfl rfl (vDet_k ?_)
  show V K (mW cI b (E, Kp, Bf, As, Q)) 6 [(0, .ref (b 0)), (1, .int y), (2, .int k)] [.int (bI (oyB y n && inB k 0 40))]
  refine v_bif_eq (tgt := 20) h pX4_sow_0 4 rfl rfl (fun c1 => ?_) (fun c1 => ?_)
  · skip
    refine v_aload_n h pX4_sow_0 12 rfl 0 rfl rfl (v_ldc h pX4_sow_0 13 wm_104 rfl ?_)
    refine v_callV h pX4_sow_0 14 mX4_42 (As := [.int (-1000001)]) (st := []) (kX4_finds _ _ cI cS b E Kp Bf As Q 0 (by decide) (-1000001) (by decide)) v0B v0C (vEmb_rf _ _) 0 rfl rfl rfl rfl rfl rfl rfl (vDet_k ?_)
    show V K (mW cI b (E, Kp, Bf, As, fndS Q 0)) 26 [(0, .ref (b 0)), (1, .int y), (2, .int k)] [.int (-1000001)]
    generalize hS2 : fndS Q 0 = S2
    exact v_iret h pX4_sow_0 15 hR hret rfl ((E, Kp, Bf, As, S2)) rfl ⟨vI (by simp [c1]), rfl, rfl, (qR_of (by simp [c1, hS2]))⟩
  · skip
    obtain ⟨c1a, c1b⟩ := Bool.and_eq_true_iff.mp c1
    obtain ⟨e_y, l_y⟩ := oyB_t hn8 c1a
    obtain ⟨e_k, l_k⟩ := inB_t 40 rfl (by decide) c1b
    refine v_aload_n h pX4_sow_0 5 rfl 0 rfl rfl (v_iload_n h pX4_sow_0 6 rfl 1 rfl rfl (v_top (w := .int (nI (ix y))) (congrArg Value.int e_y) (v_iconst h pX4_sow_0 7 rfl ki_1 (v_iload_n h pX4_sow_0 8 rfl 2 rfl rfl (v_top (w := .int (nI (ix k))) (congrArg Value.int e_k) ?_)))))
    refine v_iconst h pX4_sow_0 9 rfl ki_3 ?_
    refine v_callV h pX4_sow_0 10 mX4_148 (As := [.int (nI (ix y)), .int 1, .int (nI (ix k)), .int 3]) (st := []) (kX4_bestBy _ _ cI cS b E Kp Bf As Q n hW yb hY (ix y) 1 (ix k) 3 5 (by omega) (by decide) (by decide) (by omega) (by decide) (by decide) (fun v hv => Wf_upb hW hv)) v0B v0C (vEmb_rf _ _) 0 rfl rfl rfl rfl rfl rfl rfl (fun v3 u3 q3 => ?_)
    obtain ⟨rfl, X3, rfl⟩ := q3
    show V K (mW cI b (E, Kp, Bf, X3, Q)) 17 [(0, .ref (b 0)), (1, .int y), (2, .int k)] [.int (nI (bstS (fun v => yearsS n 0 (up E 3 (ix y) (nI v)) (ix k) 5 (ix y)) 6))]
    refine v_goto (tgt := 26) h pX4_sow_0 11 rfl rfl ?_
    exact v_iret h pX4_sow_0 15 hR hret rfl ((E, Kp, Bf, X3, Q)) rfl ⟨vI (by simp [c1, c1a, c1b]), rfl, rfl, (qR_of (by simp [c1, c1a, c1b, True]))⟩
set_option maxHeartbeats 300000 in
set_option maxRecDepth 100000 in
theorem kX4_kindFor (l : Launch) (D : va_G) (cI cS : ClassId) (b : Nat → Nat) (E Kp Bf As Q : Nat → Nat → Int32) (n : Nat) (hW : Wf E n) (yb : Nat) (hY : bd (E 9 2) yb) (hyb : yb ≤ 99000) (y k : Int32) : vMet l D (vT cI cS) yX4_kindFor cX4_kindFor 3 (some .int) 7 164 (mW cI b) v0 [.ref (b 0), .int y, .int k] (E, Kp, Bf, As, Q) (mPost (some (.int (cond (oyB y n && inB k 0 40) (nI (bstS (fun v => worthS (yearsS n 0 (up E 2 (ix y) (nI v)) (ix k)) (ix y)) 7)) ((-1000001))))) (E) (Kp) (cond (oyB y n && inB k 0 40) (Q) (fndS Q 0))) := by
  refine vMet_of (by decide) rfl ?_
  intro K hl hD hnL hret h hR hEx
  subst hl hD
  show V K (mW cI b (E, Kp, Bf, As, Q)) 0 [(0, .ref (b 0)), (1, .int y), (2, .int k)] []
  have hn8 := hW.1
  refine v_aload_n h pX4_kindFor_0 0 rfl 0 rfl rfl (v_iload_n h pX4_kindFor_0 1 rfl 1 rfl rfl (v_iload_n h pX4_kindFor_0 2 rfl 2 rfl rfl ?_))
  refine v_callV h pX4_kindFor_0 3 mX4_144 (As := [.int y, .int k]) (st := []) (kX4_isAsked _ _ cI cS b E Kp Bf As Q n hW y k) v0B v0C (vEmb_rf _ _) 0 rfl rfl rfl rfl rfl rfl rfl (vDet_k ?_)
  show V K (mW cI b (E, Kp, Bf, As, Q)) 6 [(0, .ref (b 0)), (1, .int y), (2, .int k)] [.int (bI (oyB y n && inB k 0 40))]
  refine v_bif_eq (tgt := 21) h pX4_kindFor_0 4 rfl rfl (fun c1 => ?_) (fun c1 => ?_)
  · skip
    refine v_aload_n h pX4_kindFor_0 12 rfl 0 rfl rfl (v_ldc h pX4_kindFor_0 13 wm_104 rfl ?_)
    refine v_callV h pX4_kindFor_0 14 mX4_42 (As := [.int (-1000001)]) (st := []) (kX4_finds _ _ cI cS b E Kp Bf As Q 0 (by decide) (-1000001) (by decide)) v0B v0C (vEmb_rf _ _) 0 rfl rfl rfl rfl rfl rfl rfl (vDet_k ?_)
    show V K (mW cI b (E, Kp, Bf, As, fndS Q 0)) 27 [(0, .ref (b 0)), (1, .int y), (2, .int k)] [.int (-1000001)]
    generalize hS2 : fndS Q 0 = S2
    exact v_iret h pX4_kindFor_0 15 hR hret rfl ((E, Kp, Bf, As, S2)) rfl ⟨vI (by simp [c1]), rfl, rfl, (qR_of (by simp [c1, hS2]))⟩
  · skip
    obtain ⟨c1a, c1b⟩ := Bool.and_eq_true_iff.mp c1
    obtain ⟨e_y, l_y⟩ := oyB_t hn8 c1a
    obtain ⟨e_k, l_k⟩ := inB_t 40 rfl (by decide) c1b
    refine v_aload_n h pX4_kindFor_0 5 rfl 0 rfl rfl (v_iload_n h pX4_kindFor_0 6 rfl 1 rfl rfl (v_top (w := .int (nI (ix y))) (congrArg Value.int e_y) (v_iconst h pX4_kindFor_0 7 rfl ki_0 (v_iload_n h pX4_kindFor_0 8 rfl 2 rfl rfl (v_top (w := .int (nI (ix k))) (congrArg Value.int e_k) ?_)))))
    refine v_bipush h pX4_kindFor_0 9 rfl kb_9 ?_
    refine v_callV h pX4_kindFor_0 10 mX4_148 (As := [.int (nI (ix y)), .int 0, .int (nI (ix k)), .int 9]) (st := []) (kX4_bestBy _ _ cI cS b E Kp Bf As Q n hW yb hY (ix y) 0 (ix k) 9 6 (by omega) (by decide) (by decide) (by omega) (by decide) (by decide) (fun v hv => Wf_upk hW hv)) v0B v0C (vEmb_rf _ _) 0 rfl rfl rfl rfl rfl rfl rfl (fun v3 u3 q3 => ?_)
    obtain ⟨rfl, X3, rfl⟩ := q3
    show V K (mW cI b (E, Kp, Bf, X3, Q)) 18 [(0, .ref (b 0)), (1, .int y), (2, .int k)] [.int (nI (bstS (fun v => worthS (yearsS n 0 (up E 2 (ix y) (nI v)) (ix k)) (ix y)) 7))]
    refine v_goto (tgt := 27) h pX4_kindFor_0 11 rfl rfl ?_
    exact v_iret h pX4_kindFor_0 15 hR hret rfl ((E, Kp, Bf, X3, Q)) rfl ⟨vI (by simp [c1, c1a, c1b]), rfl, rfl, (qR_of (by simp [c1, c1a, c1b, True]))⟩
set_option maxHeartbeats 300000 in
set_option maxRecDepth 100000 in
theorem kX4_dive (l : Launch) (D : va_G) (cI cS : ClassId) (b : Nat → Nat) (E Kp Bf As Q : Nat → Nat → Int32) (n : Nat) (hW : Wf E n) (yb : Nat) (hY : bd (E 9 2) yb) (hyb : yb ≤ 99000) (y : Int32) : vMet l D (vT cI cS) yX4_dive cX4_dive 5 (some .int) 4 89 (mW cI b) v0 [.ref (b 0), .int y] (E, Kp, Bf, As, Q) (mPost (some (.int (cond (oyB y n) (nI (bstS (fun j => worthS (yearsS n 0 E j) (ix y)) 61)) ((-1000001))))) (E) (Kp) (cond (oyB y n) (Q) (fndS Q 0))) := by
  refine vMet_of (by decide) rfl ?_
  intro K hl hD hnL hret h hR hEx
  subst hl hD
  show V K (mW cI b (E, Kp, Bf, As, Q)) 0 [(0, .ref (b 0)), (1, .int y)] []
  have hn8 := hW.1
  refine v_aload_n h pX4_dive_0 0 rfl 0 rfl rfl (v_iload_n h pX4_dive_0 1 rfl 1 rfl rfl ?_)
  refine v_callV h pX4_dive_0 2 mX4_88 (As := [.int y]) (st := []) (kX4_isOyster _ _ cI cS b E Kp Bf As Q n hW.2.1 y) v0B v0C (vEmb_rf _ _) 0 rfl rfl rfl rfl rfl rfl rfl (vDet_k ?_)
  show V K (mW cI b (E, Kp, Bf, As, Q)) 5 [(0, .ref (b 0)), (1, .int y)] [.int (bI (oyB y n))]
  refine v_bif_ne (tgt := 15) h pX4_dive_0 3 rfl rfl (fun c1 => ?_) (fun c1 => ?_)
  · skip
    obtain ⟨e_y, l_y⟩ := oyB_t hn8 c1
    refine v_aload_n h pX4_dive_0 8 rfl 0 rfl rfl (v_get h pX4_dive_0 9 fX4_7 0 rfl rfl rfl (v_aload_n h pX4_dive_0 10 rfl 0 rfl rfl (v_get h pX4_dive_0 11 fX4_19 0 rfl rfl rfl ?_)))
    refine v_callS h pX4_dive_0 12 mX4_132 (As := [.ref (b 1), .ref (b 4)]) (st := []) (kX4_copyRow _ _ cI cS (b 1) (b 4) (pr (fl E) (fl As))) v0B v0C emb_14 rfl rfl rfl rfl rfl (vDet_k ?_)
    show V K (mW cI b (E, Kp, Bf, E, Q)) 26 [(0, .ref (b 0)), (1, .int y)] []
    refine v_iconst h pX4_dive_0 13 rfl ki_0 (v_istore_n h pX4_dive_0 14 (lv' := [(2, .int 0), (0, .ref (b 0)), (1, .int y)]) rfl rfl hnL rfl rfl (v_iconst h pX4_dive_0 15 rfl ki_m1 (v_istore_n h pX4_dive_0 16 (lv' := [(3, .int (-1)), (2, .int 0), (0, .ref (b 0)), (1, .int y)]) rfl rfl hnL rfl rfl (v_iconst h pX4_dive_0 17 rfl ki_0 (v_istore h pX4_dive_0 18 (lv' := [(4, .int 0), (3, .int (-1)), (2, .int 0), (0, .ref (b 0)), (1, .int y)]) rfl hnL rfl rfl ?_)))))
    refine v_lv [3, 4, 2, 1, 0] (lv' := [(0, .ref (b 0)), (1, .int y), (2, .int 0), (3, .int (-1)), (4, .int 0)]) rfl ?_
    have L2 : ∀ (m i2 : Nat), i2 ≤ 61 → 61 + 1 ≤ i2 + m → V K (mW cI b (yearsS n 0 E i2, Kp, Bf, E, Q)) 33 [(0, .ref (b 0)), (1, .int y), (2, .int (nI (bstS (fun j => worthS (yearsS n 0 E j) (ix y)) i2))), (3, .int (mstS (fun j => worthS (yearsS n 0 E j) (ix y)) i2)), (4, .int (nI i2))] [] := by
      intro m
      induction m with
      | zero => exact fun i2 h1 h2 => absurd h2 (by omega)
      | succ m ih2 =>
        intro i2 hle2 hlt2
        have hWSA : Wf (yearsS n 0 E i2) n := (Wf_years hW 0 i2)
        generalize hSA : yearsS n 0 E i2 = SA at hWSA ⊢
        have hYA : bd (SA 9 2) (yb + i2) := by rw [← hSA]; exact years_bd hY _ (by omega)
        refine v_iload h pX4_dive_0 19 rfl 4 rfl (v_bipush h pX4_dive_0 20 rfl kb_60 ?_)
        refine v_ncmp_gt (a := i2) (b := 60) (tgt := 77) h pX4_dive_0 21 rfl rfl (by omega) (by omega) (fun c4 => ?_) (fun c4 => ?_)
        · skip
          obtain rfl : 61 = i2 := by omega
          refine v_aload_n h pX4_dive_1 10 rfl 0 rfl rfl (v_get h pX4_dive_1 11 fX4_19 0 rfl rfl rfl (v_aload_n h pX4_dive_1 12 rfl 0 rfl rfl (v_get h pX4_dive_1 13 fX4_7 0 rfl rfl rfl ?_)))
          refine v_callS h pX4_dive_1 14 mX4_132 (As := [.ref (b 4), .ref (b 1)]) (st := []) (kX4_copyRow _ _ cI cS (b 4) (b 1) (pr (fl E) (fl SA))) v0B v0C emb_41 rfl rfl rfl rfl rfl (vDet_k ?_)
          show V K (mW cI b (E, Kp, Bf, E, Q)) 88 [(0, .ref (b 0)), (1, .int y), (2, .int (nI (bstS (fun j => worthS (yearsS n 0 E j) (ix y)) 61))), (3, .int (mstS (fun j => worthS (yearsS n 0 E j) (ix y)) 61)), (4, .int (nI 61))] []
          refine v_iload_n h pX4_dive_1 15 rfl 2 rfl rfl ?_
          exact v_iret h pX4_dive_1 16 hR hret rfl ((E, Kp, Bf, E, Q)) rfl ⟨vI (by simp [c1, c4]), rfl, rfl, (qR_of (by simp [c1, c4, hSA]))⟩
        · skip
          refine v_aload_n h pX4_dive_0 22 rfl 0 rfl rfl (v_iload_n h pX4_dive_0 23 rfl 1 rfl rfl (v_top (w := .int (nI (ix y))) (congrArg Value.int e_y) ?_))
          refine v_callV h pX4_dive_0 24 mX4_100 (As := [.int (nI (ix y))]) (st := []) (kX4_worthOf _ _ cI cS b SA Kp Bf E Q (ix y) (by omega)) v0B v0C (vEmb_rf _ _) 0 rfl rfl rfl rfl rfl rfl rfl (vDet_k ?_)
          show V K (mW cI b (SA, Kp, Bf, E, Q)) 45 [(0, .ref (b 0)), (1, .int y), (2, .int (nI (bstS (fun j => worthS (yearsS n 0 E j) (ix y)) i2))), (3, .int (mstS (fun j => worthS (yearsS n 0 E j) (ix y)) i2)), (4, .int (nI i2))] [.int (worthS SA (ix y))]
          refine v_iload_n h pX4_dive_0 25 rfl 3 rfl rfl ?_
          refine v_icmp_le2 (tgt := 54) h pX4_dive_0 26 rfl rfl (fun c5 => ?_) (fun c5 => ?_)
          · skip
            refine v_iload_n h pX4_dive_0 29 rfl 2 rfl rfl (v_istore_n h pX4_dive_0 30 (lv' := [(2, .int (nI (bstS (fun j => worthS (yearsS n 0 E j) (ix y)) i2))), (0, .ref (b 0)), (1, .int y), (3, .int (mstS (fun j => worthS (yearsS n 0 E j) (ix y)) i2)), (4, .int (nI i2))]) rfl rfl hnL rfl rfl (v_iload_n h pX4_dive_0 31 rfl 3 rfl rfl (v_aload_n h pX4_dive_1 0 rfl 1 rfl rfl (v_iload_n h pX4_dive_1 1 rfl 2 rfl rfl (v_top (w := .int (nI (ix y))) (congrArg Value.int e_y) ?_)))))
            refine v_callV h pX4_dive_1 2 mX4_100 (As := [.int (nI (ix y))]) (st := [.int (mstS (fun j => worthS (yearsS n 0 E j) (ix y)) i2)]) (kX4_worthOf _ _ cI cS b SA Kp Bf E Q (ix y) (by omega)) v0B v0C (vEmb_rf _ _) 0 rfl rfl rfl rfl rfl rfl rfl (vDet_k ?_)
            show V K (mW cI b (SA, Kp, Bf, E, Q)) 62 [(2, .int (nI (bstS (fun j => worthS (yearsS n 0 E j) (ix y)) i2))), (0, .ref (b 0)), (1, .int y), (3, .int (mstS (fun j => worthS (yearsS n 0 E j) (ix y)) i2)), (4, .int (nI i2))] [.int (worthS SA (ix y)), .int (mstS (fun j => worthS (yearsS n 0 E j) (ix y)) i2)]
            refine v_callS h pX4_dive_1 3 mX4_82 (As := [.int (mstS (fun j => worthS (yearsS n 0 E j) (ix y)) i2), .int (worthS SA (ix y))]) (st := []) (kX4_greatest _ _ cI cS (mstS (fun j => worthS (yearsS n 0 E j) (ix y)) i2) (worthS SA (ix y))) v0B v0C (vEmb_u _) rfl rfl rfl rfl rfl (vDet_k ?_)
            show V K (mW cI b (SA, Kp, Bf, E, Q)) 65 [(2, .int (nI (bstS (fun j => worthS (yearsS n 0 E j) (ix y)) i2))), (0, .ref (b 0)), (1, .int y), (3, .int (mstS (fun j => worthS (yearsS n 0 E j) (ix y)) i2)), (4, .int (nI i2))] [.int (mx (mstS (fun j => worthS (yearsS n 0 E j) (ix y)) i2) (worthS SA (ix y)))]
            refine v_istore_n h pX4_dive_1 4 (lv' := [(3, .int (mx (mstS (fun j => worthS (yearsS n 0 E j) (ix y)) i2) (worthS SA (ix y)))), (2, .int (nI (bstS (fun j => worthS (yearsS n 0 E j) (ix y)) i2))), (0, .ref (b 0)), (1, .int y), (4, .int (nI i2))]) rfl rfl hnL rfl rfl (v_aload_n h pX4_dive_1 5 rfl 2 rfl rfl (v_iconst h pX4_dive_1 6 rfl ki_0 ?_))
            refine v_callV h pX4_dive_1 7 mX4_111 (As := [.int 0]) (st := []) (kX4_yearBut _ _ cI cS b SA Kp Bf E Q n hWSA (yb + i2) hYA (by omega) 0) v0B v0C (vEmb_rf _ _) 0 rfl rfl rfl rfl rfl rfl rfl (vDet_k ?_)
            show V K (mW cI b (yearS n 0 SA, Kp, Bf, E, Q)) 71 [(3, .int (mx (mstS (fun j => worthS (yearsS n 0 E j) (ix y)) i2) (worthS SA (ix y)))), (2, .int (nI (bstS (fun j => worthS (yearsS n 0 E j) (ix y)) i2))), (0, .ref (b 0)), (1, .int y), (4, .int (nI i2))] []
            have hWS6 : Wf (yearS n 0 SA) n := (Wf_year hWSA _)
            generalize hS6 : yearS n 0 SA = S6 at hWS6 ⊢
            refine v_iinc h pX4_dive_1 8 (v := nI (i2 + 1)) (lv' := [(4, .int (nI (i2 + 1))), (3, .int (mx (mstS (fun j => worthS (yearsS n 0 E j) (ix y)) i2) (worthS SA (ix y)))), (2, .int (nI (bstS (fun j => worthS (yearsS n 0 E j) (ix y)) i2))), (0, .ref (b 0)), (1, .int y)]) rfl 4 rfl hnL rfl rfl (nI_1 i2) (v_goto (tgt := 33) h pX4_dive_1 9 rfl rfl (v_lv [3, 4, 2, 1, 0] (lv' := [(0, .ref (b 0)), (1, .int y), (2, .int (nI (bstS (fun j => worthS (yearsS n 0 E j) (ix y)) i2))), (3, .int (mx (mstS (fun j => worthS (yearsS n 0 E j) (ix y)) i2) (worthS SA (ix y)))), (4, .int (nI (i2 + 1)))]) rfl (v_eql (congrArg (fun z : Int32 => ([(0, .ref (b 0)), (1, .int y), (2, .int z), (3, .int (mx (mstS (fun j => worthS (yearsS n 0 E j) (ix y)) i2) (worthS SA (ix y)))), (4, .int (nI (i2 + 1)))] : List (Nat × Value))) (by first | rfl | (simp [bstS, hSA, c1, c4, c5, -Int32.not_lt]; done) | (simp [mstS, hSA]; done) : nI (bstS (fun j => worthS (yearsS n 0 E j) (ix y)) i2) = nI (bstS (fun j => worthS (yearsS n 0 E j) (ix y)) (i2 + 1)))) (v_eql (congrArg (fun z : Int32 => ([(0, .ref (b 0)), (1, .int y), (2, .int (nI (bstS (fun j => worthS (yearsS n 0 E j) (ix y)) (i2 + 1)))), (3, .int z), (4, .int (nI (i2 + 1)))] : List (Nat × Value))) (by first | rfl | (simp [bstS, hSA, c1, c4, c5, -Int32.not_lt]; done) | (simp [mstS, hSA]; done) : mx (mstS (fun j => worthS (yearsS n 0 E j) (ix y)) i2) (worthS SA (ix y)) = mstS (fun j => worthS (yearsS n 0 E j) (ix y)) (i2 + 1))) (v_eqw (ws' := mW cI b (yearsS n 0 E (i2 + 1), Kp, Bf, E, Q)) (by subst hS6; rw [yearsS, hSA]) ?_)))))
            exact ih2 (i2 + 1) (by omega) (by omega)
          · skip
            refine v_iload h pX4_dive_0 27 rfl 4 rfl (v_goto (tgt := 55) h pX4_dive_0 28 rfl rfl (v_istore_n h pX4_dive_0 30 (lv' := [(2, .int (nI i2)), (0, .ref (b 0)), (1, .int y), (3, .int (mstS (fun j => worthS (yearsS n 0 E j) (ix y)) i2)), (4, .int (nI i2))]) rfl rfl hnL rfl rfl (v_iload_n h pX4_dive_0 31 rfl 3 rfl rfl (v_aload_n h pX4_dive_1 0 rfl 1 rfl rfl (v_iload_n h pX4_dive_1 1 rfl 2 rfl rfl ?_)))))
            refine v_top (w := .int (nI (ix y))) (congrArg Value.int e_y) ?_
            refine v_callV h pX4_dive_1 2 mX4_100 (As := [.int (nI (ix y))]) (st := [.int (mstS (fun j => worthS (yearsS n 0 E j) (ix y)) i2)]) (kX4_worthOf _ _ cI cS b SA Kp Bf E Q (ix y) (by omega)) v0B v0C (vEmb_rf _ _) 0 rfl rfl rfl rfl rfl rfl rfl (vDet_k ?_)
            show V K (mW cI b (SA, Kp, Bf, E, Q)) 62 [(2, .int (nI i2)), (0, .ref (b 0)), (1, .int y), (3, .int (mstS (fun j => worthS (yearsS n 0 E j) (ix y)) i2)), (4, .int (nI i2))] [.int (worthS SA (ix y)), .int (mstS (fun j => worthS (yearsS n 0 E j) (ix y)) i2)]
            refine v_callS h pX4_dive_1 3 mX4_82 (As := [.int (mstS (fun j => worthS (yearsS n 0 E j) (ix y)) i2), .int (worthS SA (ix y))]) (st := []) (kX4_greatest _ _ cI cS (mstS (fun j => worthS (yearsS n 0 E j) (ix y)) i2) (worthS SA (ix y))) v0B v0C (vEmb_u _) rfl rfl rfl rfl rfl (vDet_k ?_)
            show V K (mW cI b (SA, Kp, Bf, E, Q)) 65 [(2, .int (nI i2)), (0, .ref (b 0)), (1, .int y), (3, .int (mstS (fun j => worthS (yearsS n 0 E j) (ix y)) i2)), (4, .int (nI i2))] [.int (mx (mstS (fun j => worthS (yearsS n 0 E j) (ix y)) i2) (worthS SA (ix y)))]
            refine v_istore_n h pX4_dive_1 4 (lv' := [(3, .int (mx (mstS (fun j => worthS (yearsS n 0 E j) (ix y)) i2) (worthS SA (ix y)))), (2, .int (nI i2)), (0, .ref (b 0)), (1, .int y), (4, .int (nI i2))]) rfl rfl hnL rfl rfl (v_aload_n h pX4_dive_1 5 rfl 2 rfl rfl (v_iconst h pX4_dive_1 6 rfl ki_0 ?_))
            refine v_callV h pX4_dive_1 7 mX4_111 (As := [.int 0]) (st := []) (kX4_yearBut _ _ cI cS b SA Kp Bf E Q n hWSA (yb + i2) hYA (by omega) 0) v0B v0C (vEmb_rf _ _) 0 rfl rfl rfl rfl rfl rfl rfl (vDet_k ?_)
            show V K (mW cI b (yearS n 0 SA, Kp, Bf, E, Q)) 71 [(3, .int (mx (mstS (fun j => worthS (yearsS n 0 E j) (ix y)) i2) (worthS SA (ix y)))), (2, .int (nI i2)), (0, .ref (b 0)), (1, .int y), (4, .int (nI i2))] []
            have hWS7 : Wf (yearS n 0 SA) n := (Wf_year hWSA _)
            generalize hS7 : yearS n 0 SA = S7 at hWS7 ⊢
            refine v_iinc h pX4_dive_1 8 (v := nI (i2 + 1)) (lv' := [(4, .int (nI (i2 + 1))), (3, .int (mx (mstS (fun j => worthS (yearsS n 0 E j) (ix y)) i2) (worthS SA (ix y)))), (2, .int (nI i2)), (0, .ref (b 0)), (1, .int y)]) rfl 4 rfl hnL rfl rfl (nI_1 i2) (v_goto (tgt := 33) h pX4_dive_1 9 rfl rfl (v_lv [3, 4, 2, 1, 0] (lv' := [(0, .ref (b 0)), (1, .int y), (2, .int (nI i2)), (3, .int (mx (mstS (fun j => worthS (yearsS n 0 E j) (ix y)) i2) (worthS SA (ix y)))), (4, .int (nI (i2 + 1)))]) rfl (v_eql (congrArg (fun z : Int32 => ([(0, .ref (b 0)), (1, .int y), (2, .int z), (3, .int (mx (mstS (fun j => worthS (yearsS n 0 E j) (ix y)) i2) (worthS SA (ix y)))), (4, .int (nI (i2 + 1)))] : List (Nat × Value))) (by first | rfl | (simp [bstS, hSA, c1, c4, c5, -Int32.not_lt]; done) | (simp [mstS, hSA]; done) : nI i2 = nI (bstS (fun j => worthS (yearsS n 0 E j) (ix y)) (i2 + 1)))) (v_eql (congrArg (fun z : Int32 => ([(0, .ref (b 0)), (1, .int y), (2, .int (nI (bstS (fun j => worthS (yearsS n 0 E j) (ix y)) (i2 + 1)))), (3, .int z), (4, .int (nI (i2 + 1)))] : List (Nat × Value))) (by first | rfl | (simp [bstS, hSA, c1, c4, c5, -Int32.not_lt]; done) | (simp [mstS, hSA]; done) : mx (mstS (fun j => worthS (yearsS n 0 E j) (ix y)) i2) (worthS SA (ix y)) = mstS (fun j => worthS (yearsS n 0 E j) (ix y)) (i2 + 1))) (v_eqw (ws' := mW cI b (yearsS n 0 E (i2 + 1), Kp, Bf, E, Q)) (by subst hS7; rw [yearsS, hSA]) ?_)))))
            exact ih2 (i2 + 1) (by omega) (by omega)
    exact L2 (61 + 1) 0 (by omega) (by omega)
  · skip
    refine v_aload_n h pX4_dive_0 4 rfl 0 rfl rfl (v_ldc h pX4_dive_0 5 wm_104 rfl ?_)
    refine v_callV h pX4_dive_0 6 mX4_42 (As := [.int (-1000001)]) (st := []) (kX4_finds _ _ cI cS b E Kp Bf As Q 0 (by decide) (-1000001) (by decide)) v0B v0C (vEmb_rf _ _) 0 rfl rfl rfl rfl rfl rfl rfl (vDet_k ?_)
    show V K (mW cI b (E, Kp, Bf, As, fndS Q 0)) 14 [(0, .ref (b 0)), (1, .int y)] [.int (-1000001)]
    generalize hS8 : fndS Q 0 = S8
    exact v_iret h pX4_dive_0 7 hR hret rfl ((E, Kp, Bf, As, S8)) rfl ⟨vI (by simp [c1]), rfl, rfl, (qR_of (by simp [c1, hS8]))⟩
set_option maxHeartbeats 300000 in
set_option maxRecDepth 100000 in
theorem kX4_orNone (l : Launch) (D : va_G) (cI cS : ClassId) (b : Nat → Nat) (E Kp Bf As Q : Nat → Nat → Int32) (i : Nat) (hi : i < 2147483648) : vDet l D (vT cI cS) yX4_orNone cX4_orNone 2 (some .int) 0 0 (mW cI b) [.ref (b 0), .int (nI i)] (E, Kp, Bf, As, Q) (some (.int (nI i))) ((E, Kp, Bf, As, Q)) := by
  refine vMet_of (by decide) rfl ?_
  intro K hl hD hnL hret h hR hEx
  subst hl hD
  show V K (mW cI b (E, Kp, Bf, As, Q)) 0 [(0, .ref (b 0)), (1, .int (nI i))] []
  refine v_iload_n h pX4_orNone_0 0 rfl 1 rfl rfl (v_nif_ge (a := i) (tgt := 13) h pX4_orNone_0 1 rfl rfl (by omega) (v_iload_n h pX4_orNone_0 6 rfl 1 rfl rfl ?_))
  exact v_iret h pX4_orNone_0 7 hR hret rfl ((E, Kp, Bf, As, Q)) rfl ⟨vI rfl, rfl⟩
set_option maxHeartbeats 300000 in
set_option maxRecDepth 100000 in
theorem kX4_orNone_n (l : Launch) (D : va_G) (cI cS : ClassId) (b : Nat → Nat) (E Kp Bf As Q : Nat → Nat → Int32)  : vDet l D (vT cI cS) yX4_orNone cX4_orNone 2 (some .int) 1 21 (mW cI b) [.ref (b 0), .int (-1)] (E, Kp, Bf, As, Q) (some (.int (-1000004))) ((E, Kp, Bf, As, fndS Q 3)) := by
  refine vMet_of (by decide) rfl ?_
  intro K hl hD hnL hret h hR hEx
  subst hl hD
  show V K (mW cI b (E, Kp, Bf, As, Q)) 0 [(0, .ref (b 0)), (1, .int (-1))] []
  refine v_iload_n h pX4_orNone_0 0 rfl 1 rfl rfl ?_
  refine v_if_ge2 (tgt := 13) h pX4_orNone_0 1 rfl rfl (fun c1 => absurd c1 (by decide)) (fun c1 => ?_)
  refine v_aload_n h pX4_orNone_0 2 rfl 0 rfl rfl (v_ldc h pX4_orNone_0 3 wm_405 rfl ?_)
  refine v_callV h pX4_orNone_0 4 mX4_42 (As := [.int (-1000004)]) (st := []) (kX4_finds _ _ cI cS b E Kp Bf As Q 3 (by decide) (-1000004) (by decide)) v0B v0C (vEmb_rf _ _) 0 rfl rfl rfl rfl rfl rfl rfl (vDet_k ?_)
  show V K (mW cI b (E, Kp, Bf, As, fndS Q 3)) 10 [(0, .ref (b 0)), (1, .int (-1))] [.int (-1000004)]
  generalize hS2 : fndS Q 3 = S2
  refine v_goto (tgt := 14) h pX4_orNone_0 5 rfl rfl ?_
  exact v_iret h pX4_orNone_0 7 hR hret rfl ((E, Kp, Bf, As, S2)) rfl ⟨vI rfl, (by subst hS2; rfl)⟩
set_option maxHeartbeats 300000 in
set_option maxRecDepth 100000 in
theorem kX4_weightFor (l : Launch) (D : va_G) (cI cS : ClassId) (b : Nat → Nat) (E Kp Bf As Q : Nat → Nat → Int32) (n : Nat) (hW : Wf E n) (yb : Nat) (hY : bd (E 9 2) yb) (hyb : yb ≤ 99000) (y k : Int32) : vMet l D (vT cI cS) yX4_weightFor cX4_weightFor 6 (some .int) 6 134 (mW cI b) v0 [.ref (b 0), .int y, .int k] (E, Kp, Bf, As, Q) (mPost (some (.int (cond (oyB y n && inB k 0 40) (if lstN (fun v => hiddenS (yearsS n 0 (up E 4 (ix y) (nI v)) (ix k)) (ix y)) 99 = 0 then (-1000004) else nI (lstN (fun v => hiddenS (yearsS n 0 (up E 4 (ix y) (nI v)) (ix k)) (ix y)) 99)) ((-1000001))))) (E) (Kp) (cond (oyB y n && inB k 0 40) (if lstN (fun v => hiddenS (yearsS n 0 (up E 4 (ix y) (nI v)) (ix k)) (ix y)) 99 = 0 then fndS Q 3 else Q) (fndS Q 0))) := by
  refine vMet_of (by decide) rfl ?_
  intro K hl hD hnL hret h hR hEx
  subst hl hD
  show V K (mW cI b (E, Kp, Bf, As, Q)) 0 [(0, .ref (b 0)), (1, .int y), (2, .int k)] []
  have hn8 := hW.1
  refine v_aload_n h pX4_weightFor_0 0 rfl 0 rfl rfl (v_iload_n h pX4_weightFor_0 1 rfl 1 rfl rfl (v_iload_n h pX4_weightFor_0 2 rfl 2 rfl rfl ?_))
  refine v_callV h pX4_weightFor_0 3 mX4_144 (As := [.int y, .int k]) (st := []) (kX4_isAsked _ _ cI cS b E Kp Bf As Q n hW y k) v0B v0C (vEmb_rf _ _) 0 rfl rfl rfl rfl rfl rfl rfl (vDet_k ?_)
  show V K (mW cI b (E, Kp, Bf, As, Q)) 6 [(0, .ref (b 0)), (1, .int y), (2, .int k)] [.int (bI (oyB y n && inB k 0 40))]
  refine v_bif_ne (tgt := 16) h pX4_weightFor_0 4 rfl rfl (fun c1 => ?_) (fun c1 => ?_)
  · skip
    obtain ⟨c1a, c1b⟩ := Bool.and_eq_true_iff.mp c1
    obtain ⟨e_y, l_y⟩ := oyB_t hn8 c1a
    obtain ⟨e_k, l_k⟩ := inB_t 40 rfl (by decide) c1b
    refine v_aload_n h pX4_weightFor_0 9 rfl 0 rfl rfl (v_iload_n h pX4_weightFor_0 10 rfl 1 rfl rfl (v_top (w := .int (nI (ix y))) (congrArg Value.int e_y) (v_iconst h pX4_weightFor_0 11 rfl ki_2 ?_)))
    refine v_callV h pX4_weightFor_0 12 mX4_64 (As := [.int (nI (ix y)), .int 2]) (st := []) (kX4_its _ _ cI cS b E Kp Bf As Q (ix y) 2 (by omega) (by omega)) v0B v0C (vEmb_rf _ _) 0 rfl rfl rfl rfl rfl rfl rfl (vDet_k ?_)
    show V K (mW cI b (E, Kp, Bf, As, Q)) 22 [(0, .ref (b 0)), (1, .int y), (2, .int k)] [.int (E 4 (ix y))]
    refine v_istore_n h pX4_weightFor_0 13 (lv' := [(3, .int (E 4 (ix y))), (0, .ref (b 0)), (1, .int y), (2, .int k)]) rfl rfl hnL rfl rfl ?_
    refine v_eqw (ws' := mW cI b (up E 4 (ix y) (E 4 (ix y)), Kp, Bf, As, Q)) (by rw [up_id]) ?_
    refine v_iconst h pX4_weightFor_0 14 rfl ki_m1 (v_istore h pX4_weightFor_0 15 (lv' := [(4, .int (-1)), (3, .int (E 4 (ix y))), (0, .ref (b 0)), (1, .int y), (2, .int k)]) rfl hnL rfl rfl (v_bipush h pX4_weightFor_0 16 rfl kb_99 (v_istore h pX4_weightFor_0 17 (lv' := [(5, .int 99), (4, .int (-1)), (3, .int (E 4 (ix y))), (0, .ref (b 0)), (1, .int y), (2, .int k)]) rfl hnL rfl rfl ?_)))
    refine v_lv [3, 4, 5, 2, 1, 0] (lv' := [(0, .ref (b 0)), (1, .int y), (2, .int k), (3, .int (E 4 (ix y))), (4, .int (-1)), (5, .int 99)]) rfl ?_
    have LA : ∀ (m iA : Nat) (xA : Int32) (AsA : Nat → Nat → Int32), iA ≤ 99 → (lstN (fun v => hiddenS (yearsS n 0 (up E 4 (ix y) (nI v)) (ix k)) (ix y)) 99 = lstN (fun v => hiddenS (yearsS n 0 (up E 4 (ix y) (nI v)) (ix k)) (ix y)) iA) → iA + 1 ≤ m → V K (mW cI b (up E 4 (ix y) xA, Kp, Bf, AsA, Q)) 30 [(0, .ref (b 0)), (1, .int y), (2, .int k), (3, .int (E 4 (ix y))), (4, .int (-1)), (5, .int (nI iA))] [] := by
      intro m
      induction m with
      | zero => exact fun iA xA AsA h1 hh h2 => absurd h2 (by omega)
      | succ m ihA =>
        intro iA xA AsA hleA hhA hltA
        refine v_iload h pX4_weightFor_0 18 rfl 5 rfl ?_
        refine v_nif_le (a := iA) (tgt := 75) h pX4_weightFor_0 19 rfl rfl (by omega) (fun c2 => ?_) (fun c2 => ?_)
        · skip
          refine v_aload_n h pX4_weightFor_1 8 rfl 0 rfl rfl (v_get h pX4_weightFor_1 9 fX4_7 0 rfl rfl rfl (v_iload_n h pX4_weightFor_1 10 rfl 1 rfl rfl (v_top (w := .int (nI (ix y))) (congrArg Value.int e_y) (v_iconst h pX4_weightFor_1 11 rfl ki_2 ?_))))
          refine v_callS h pX4_weightFor_1 12 mX4_69 (As := [.int (nI (ix y)), .int 2]) (st := [.ref (b 1)]) (kX4_at _ _ cI cS (ix y) 2) v0B v0C (vEmb_u _) rfl rfl rfl rfl rfl (vDet_k ?_)
          show V K (mW cI b (up E 4 (ix y) xA, Kp, Bf, AsA, Q)) 84 [(0, .ref (b 0)), (1, .int y), (2, .int k), (3, .int (E 4 (ix y))), (4, .int (-1)), (5, .int (nI iA))] [.int (nI (16 + 6 * (ix y) + 2)), .ref (b 1)]
          refine v_iload_n h pX4_weightFor_1 13 rfl 3 rfl rfl (v_iast h pX4_weightFor_1 14 (16 + 6 * (ix y) + 2) 1 0 (ws' := mW cI b (up (up E 4 (ix y) xA) 4 (ix y) (E 4 (ix y)), Kp, Bf, AsA, Q)) rfl rfl rfl rfl rfl (by omega) (mW_s (16 + 6 * (ix y) + 2) 4 (ix y) (flR_y (by omega) (by omega)) (flI_y (by omega) (by omega))) ?_)
          refine v_eqw (ws' := mW cI b (E, Kp, Bf, AsA, Q)) (by rw [up_bk]) (v_aload_n h pX4_weightFor_1 15 rfl 0 rfl rfl (v_iload h pX4_weightFor_1 16 rfl 4 rfl ?_))
          refine v_callV h pX4_weightFor_1 17 mX4_155 (As := [.int (-1)]) (st := []) (kX4_orNone_n _ _ cI cS b E Kp Bf AsA Q) v0B v0C (vEmb_rf _ _) 0 rfl rfl rfl rfl rfl rfl rfl (vDet_k ?_)
          show V K (mW cI b (E, Kp, Bf, AsA, fndS Q 3)) 92 [(0, .ref (b 0)), (1, .int y), (2, .int k), (3, .int (E 4 (ix y))), (4, .int (-1)), (5, .int (nI iA))] [.int (-1000004)]
          generalize hS3 : fndS Q 3 = S3
          exact v_iret h pX4_weightFor_1 18 hR hret rfl ((E, Kp, Bf, AsA, S3)) rfl ⟨vI (by first | (simp [c1, c1a, c1b, (eq_true c2), hS3]; done) | (simp only [c1a, c1b, c1, cond_true]; rw [hhA]; simp [lstN, c1, c1a, c1b, (eq_true c2), hS3]; done) | (have e0 : iA = 0 := (by omega); subst e0; simp only [c1a, c1b, c1, cond_true]; rw [hhA]; try (simp [lstN, hS3]; done))), rfl, rfl, (qR_of (by first | (simp [c1, c1a, c1b, (eq_true c2), hS3]; done) | (simp only [c1a, c1b, c1, cond_true]; rw [hhA]; simp [lstN, c1, c1a, c1b, (eq_true c2), hS3]; done) | (have e0 : iA = 0 := (by omega); subst e0; simp only [c1a, c1b, c1, cond_true]; rw [hhA]; try (simp [lstN, hS3]; done))))⟩
        · skip
          obtain ⟨iB, rfl⟩ : ∃ z, iA = z + 1 := ⟨iA - 1, by omega⟩
          refine v_iload h pX4_weightFor_0 20 rfl 4 rfl ?_
          refine v_if_ge2 (tgt := 75) h pX4_weightFor_0 21 rfl rfl (fun c4 => absurd c4 (by decide)) (fun c4 => ?_)
          refine v_aload_n h pX4_weightFor_0 22 rfl 0 rfl rfl (v_get h pX4_weightFor_0 23 fX4_7 0 rfl rfl rfl (v_iload_n h pX4_weightFor_0 24 rfl 1 rfl rfl (v_top (w := .int (nI (ix y))) (congrArg Value.int e_y) (v_iconst h pX4_weightFor_0 25 rfl ki_2 ?_))))
          refine v_callS h pX4_weightFor_0 26 mX4_69 (As := [.int (nI (ix y)), .int 2]) (st := [.ref (b 1)]) (kX4_at _ _ cI cS (ix y) 2) v0B v0C (vEmb_u _) rfl rfl rfl rfl rfl (vDet_k ?_)
          show V K (mW cI b (up E 4 (ix y) xA, Kp, Bf, AsA, Q)) 49 [(0, .ref (b 0)), (1, .int y), (2, .int k), (3, .int (E 4 (ix y))), (4, .int (-1)), (5, .int (nI (iB + 1)))] [.int (nI (16 + 6 * (ix y) + 2)), .ref (b 1)]
          refine v_iload h pX4_weightFor_0 27 rfl 5 rfl (v_iast h pX4_weightFor_0 28 (16 + 6 * (ix y) + 2) 1 0 (ws' := mW cI b (up (up E 4 (ix y) xA) 4 (ix y) (nI (iB + 1)), Kp, Bf, AsA, Q)) rfl rfl rfl rfl rfl (by omega) (mW_s (16 + 6 * (ix y) + 2) 4 (ix y) (flR_y (by omega) (by omega)) (flI_y (by omega) (by omega))) ?_)
          refine v_eqw (ws' := mW cI b (up E 4 (ix y) (nI (iB + 1)), Kp, Bf, AsA, Q)) (by rw [up_up]) (v_aload_n h pX4_weightFor_0 29 rfl 0 rfl rfl (v_iload_n h pX4_weightFor_0 30 rfl 1 rfl rfl (v_top (w := .int (nI (ix y))) (congrArg Value.int e_y) (v_iload_n h pX4_weightFor_0 31 rfl 2 rfl rfl (v_top (w := .int (nI (ix k))) (congrArg Value.int e_k) ?_)))))
          refine v_callV h pX4_weightFor_1 0 mX4_152 (As := [.int (nI (ix y)), .int (nI (ix k))]) (st := []) (kX4_isHiddenThen _ _ cI cS b (up E 4 (ix y) (nI (iB + 1))) Kp Bf AsA Q n (Wf_upw hW (by omega)) yb hY (ix y) (ix k) (by omega) (by omega)) v0B v0C (vEmb_rf _ _) 0 rfl rfl rfl rfl rfl rfl rfl (vDet_k ?_)
          show V K (mW cI b (up E 4 (ix y) (nI (iB + 1)), Kp, Bf, up E 4 (ix y) (nI (iB + 1)), Q)) 58 [(0, .ref (b 0)), (1, .int y), (2, .int k), (3, .int (E 4 (ix y))), (4, .int (-1)), (5, .int (nI (iB + 1)))] [.int (bI (hiddenS (yearsS n 0 (up E 4 (ix y) (nI (iB + 1))) (ix k)) (ix y)))]
          refine v_bif_eq (tgt := 66) h pX4_weightFor_1 1 rfl rfl (fun c5 => ?_) (fun c5 => ?_)
          · skip
            refine v_iconst h pX4_weightFor_1 4 rfl ki_m1 (v_istore h pX4_weightFor_1 5 (lv' := [(4, .int (-1)), (0, .ref (b 0)), (1, .int y), (2, .int k), (3, .int (E 4 (ix y))), (5, .int (nI (iB + 1)))]) rfl hnL rfl rfl (v_iinc h pX4_weightFor_1 6 (v := nI iB) (lv' := [(5, .int (nI iB)), (4, .int (-1)), (0, .ref (b 0)), (1, .int y), (2, .int k), (3, .int (E 4 (ix y)))]) rfl 5 rfl hnL rfl rfl (nI_mi _) (v_goto (tgt := 30) h pX4_weightFor_1 7 rfl rfl (v_lv [2, 3, 4, 5, 1, 0] (lv' := [(0, .ref (b 0)), (1, .int y), (2, .int k), (3, .int (E 4 (ix y))), (4, .int (-1)), (5, .int (nI iB))]) rfl ?_))))
            exact ihA (iB) (nI (iB + 1)) (up E 4 (ix y) (nI (iB + 1))) (by omega) (hhA.trans (by simp [lstN, c5])) (by omega)
          · skip
            refine v_iload h pX4_weightFor_1 2 rfl 5 rfl (v_goto (tgt := 67) h pX4_weightFor_1 3 rfl rfl (v_istore h pX4_weightFor_1 5 (lv' := [(4, .int (nI (iB + 1))), (0, .ref (b 0)), (1, .int y), (2, .int k), (3, .int (E 4 (ix y))), (5, .int (nI (iB + 1)))]) rfl hnL rfl rfl (v_iinc h pX4_weightFor_1 6 (v := nI iB) (lv' := [(5, .int (nI iB)), (4, .int (nI (iB + 1))), (0, .ref (b 0)), (1, .int y), (2, .int k), (3, .int (E 4 (ix y)))]) rfl 5 rfl hnL rfl rfl (nI_mi _) (v_goto (tgt := 30) h pX4_weightFor_1 7 rfl rfl (v_iload h pX4_weightFor_0 18 rfl 0 rfl ?_)))))
            refine v_nif_le (a := iB) (tgt := 75) h pX4_weightFor_0 19 rfl rfl (by omega) (fun c6 => ?_) (fun c6 => ?_)
            · skip
              refine v_aload_n h pX4_weightFor_1 8 rfl 2 rfl rfl (v_get h pX4_weightFor_1 9 fX4_7 0 rfl rfl rfl (v_iload_n h pX4_weightFor_1 10 rfl 3 rfl rfl (v_top (w := .int (nI (ix y))) (congrArg Value.int e_y) (v_iconst h pX4_weightFor_1 11 rfl ki_2 ?_))))
              refine v_callS h pX4_weightFor_1 12 mX4_69 (As := [.int (nI (ix y)), .int 2]) (st := [.ref (b 1)]) (kX4_at _ _ cI cS (ix y) 2) v0B v0C (vEmb_u _) rfl rfl rfl rfl rfl (vDet_k ?_)
              show V K (mW cI b (up E 4 (ix y) (nI (iB + 1)), Kp, Bf, up E 4 (ix y) (nI (iB + 1)), Q)) 84 [(5, .int (nI iB)), (4, .int (nI (iB + 1))), (0, .ref (b 0)), (1, .int y), (2, .int k), (3, .int (E 4 (ix y)))] [.int (nI (16 + 6 * (ix y) + 2)), .ref (b 1)]
              refine v_iload_n h pX4_weightFor_1 13 rfl 5 rfl rfl (v_iast h pX4_weightFor_1 14 (16 + 6 * (ix y) + 2) 1 0 (ws' := mW cI b (up (up E 4 (ix y) (nI (iB + 1))) 4 (ix y) (E 4 (ix y)), Kp, Bf, up E 4 (ix y) (nI (iB + 1)), Q)) rfl rfl rfl rfl rfl (by omega) (mW_s (16 + 6 * (ix y) + 2) 4 (ix y) (flR_y (by omega) (by omega)) (flI_y (by omega) (by omega))) ?_)
              refine v_eqw (ws' := mW cI b (E, Kp, Bf, up E 4 (ix y) (nI (iB + 1)), Q)) (by rw [up_bk]) (v_aload_n h pX4_weightFor_1 15 rfl 2 rfl rfl (v_iload h pX4_weightFor_1 16 rfl 1 rfl ?_))
              refine v_callV h pX4_weightFor_1 17 mX4_155 (As := [.int (nI (iB + 1))]) (st := []) (kX4_orNone _ _ cI cS b E Kp Bf (up E 4 (ix y) (nI (iB + 1))) Q (iB + 1) (by omega)) v0B v0C (vEmb_rf _ _) 0 rfl rfl rfl rfl rfl rfl rfl (vDet_k ?_)
              show V K (mW cI b (E, Kp, Bf, up E 4 (ix y) (nI (iB + 1)), Q)) 92 [(5, .int (nI iB)), (4, .int (nI (iB + 1))), (0, .ref (b 0)), (1, .int y), (2, .int k), (3, .int (E 4 (ix y)))] [.int (nI (iB + 1))]
              exact v_iret h pX4_weightFor_1 18 hR hret rfl ((E, Kp, Bf, up E 4 (ix y) (nI (iB + 1)), Q)) rfl ⟨vI (by first | (simp [c1, c1a, c1b, c2, c5, (eq_true c6), True]; done) | (simp only [c1a, c1b, c1, cond_true]; rw [hhA]; simp [lstN, c1, c1a, c1b, c2, c5, (eq_true c6), True]; done) | (have e0 : iA = 0 := (by omega); subst e0; simp only [c1a, c1b, c1, cond_true]; rw [hhA]; try (simp [lstN, True]; done))), rfl, rfl, (qR_of (by first | (simp [c1, c1a, c1b, c2, c5, (eq_true c6), True]; done) | (simp only [c1a, c1b, c1, cond_true]; rw [hhA]; simp [lstN, c1, c1a, c1b, c2, c5, (eq_true c6), True]; done) | (have e0 : iA = 0 := (by omega); subst e0; simp only [c1a, c1b, c1, cond_true]; rw [hhA]; try (simp [lstN, True]; done))))⟩
            · skip
              refine v_iload h pX4_weightFor_0 20 rfl 1 rfl (v_nif_ge (a := iB + 1) (tgt := 75) h pX4_weightFor_0 21 rfl rfl (by omega) (v_aload_n h pX4_weightFor_1 8 rfl 2 rfl rfl (v_get h pX4_weightFor_1 9 fX4_7 0 rfl rfl rfl (v_iload_n h pX4_weightFor_1 10 rfl 3 rfl rfl (v_top (w := .int (nI (ix y))) (congrArg Value.int e_y) ?_)))))
              refine v_iconst h pX4_weightFor_1 11 rfl ki_2 ?_
              refine v_callS h pX4_weightFor_1 12 mX4_69 (As := [.int (nI (ix y)), .int 2]) (st := [.ref (b 1)]) (kX4_at _ _ cI cS (ix y) 2) v0B v0C (vEmb_u _) rfl rfl rfl rfl rfl (vDet_k ?_)
              show V K (mW cI b (up E 4 (ix y) (nI (iB + 1)), Kp, Bf, up E 4 (ix y) (nI (iB + 1)), Q)) 84 [(5, .int (nI iB)), (4, .int (nI (iB + 1))), (0, .ref (b 0)), (1, .int y), (2, .int k), (3, .int (E 4 (ix y)))] [.int (nI (16 + 6 * (ix y) + 2)), .ref (b 1)]
              refine v_iload_n h pX4_weightFor_1 13 rfl 5 rfl rfl (v_iast h pX4_weightFor_1 14 (16 + 6 * (ix y) + 2) 1 0 (ws' := mW cI b (up (up E 4 (ix y) (nI (iB + 1))) 4 (ix y) (E 4 (ix y)), Kp, Bf, up E 4 (ix y) (nI (iB + 1)), Q)) rfl rfl rfl rfl rfl (by omega) (mW_s (16 + 6 * (ix y) + 2) 4 (ix y) (flR_y (by omega) (by omega)) (flI_y (by omega) (by omega))) ?_)
              refine v_eqw (ws' := mW cI b (E, Kp, Bf, up E 4 (ix y) (nI (iB + 1)), Q)) (by rw [up_bk]) (v_aload_n h pX4_weightFor_1 15 rfl 2 rfl rfl (v_iload h pX4_weightFor_1 16 rfl 1 rfl ?_))
              refine v_callV h pX4_weightFor_1 17 mX4_155 (As := [.int (nI (iB + 1))]) (st := []) (kX4_orNone _ _ cI cS b E Kp Bf (up E 4 (ix y) (nI (iB + 1))) Q (iB + 1) (by omega)) v0B v0C (vEmb_rf _ _) 0 rfl rfl rfl rfl rfl rfl rfl (vDet_k ?_)
              show V K (mW cI b (E, Kp, Bf, up E 4 (ix y) (nI (iB + 1)), Q)) 92 [(5, .int (nI iB)), (4, .int (nI (iB + 1))), (0, .ref (b 0)), (1, .int y), (2, .int k), (3, .int (E 4 (ix y)))] [.int (nI (iB + 1))]
              exact v_iret h pX4_weightFor_1 18 hR hret rfl ((E, Kp, Bf, up E 4 (ix y) (nI (iB + 1)), Q)) rfl ⟨vI (by first | (simp [c1, c1a, c1b, c2, c5, c6, True]; done) | (simp only [c1a, c1b, c1, cond_true]; rw [hhA]; simp [lstN, c1, c1a, c1b, c2, c5, c6, True]; done) | (have e0 : iA = 0 := (by omega); subst e0; simp only [c1a, c1b, c1, cond_true]; rw [hhA]; try (simp [lstN, True]; done))), rfl, rfl, (qR_of (by first | (simp [c1, c1a, c1b, c2, c5, c6, True]; done) | (simp only [c1a, c1b, c1, cond_true]; rw [hhA]; simp [lstN, c1, c1a, c1b, c2, c5, c6, True]; done) | (have e0 : iA = 0 := (by omega); subst e0; simp only [c1a, c1b, c1, cond_true]; rw [hhA]; try (simp [lstN, True]; done))))⟩
    exact LA (99 + 1) 99 (E 4 (ix y)) As (by omega) rfl (by omega)
  · skip
    refine v_aload_n h pX4_weightFor_0 5 rfl 0 rfl rfl (v_ldc h pX4_weightFor_0 6 wm_104 rfl ?_)
    refine v_callV h pX4_weightFor_0 7 mX4_42 (As := [.int (-1000001)]) (st := []) (kX4_finds _ _ cI cS b E Kp Bf As Q 0 (by decide) (-1000001) (by decide)) v0B v0C (vEmb_rf _ _) 0 rfl rfl rfl rfl rfl rfl rfl (vDet_k ?_)
    show V K (mW cI b (E, Kp, Bf, As, fndS Q 0)) 15 [(0, .ref (b 0)), (1, .int y), (2, .int k)] [.int (-1000001)]
    generalize hS7 : fndS Q 0 = S7
    exact v_iret h pX4_weightFor_0 8 hR hret rfl ((E, Kp, Bf, As, S7)) rfl ⟨vI (by first | (simp [c1, hS7]; done) | (simp only [c1a, c1b, c1, cond_true]; rw [hhA]; simp [lstN, c1, hS7]; done) | (have e0 : iA = 0 := (by omega); subst e0; simp only [c1a, c1b, c1, cond_true]; rw [hhA]; try (simp [lstN, hS7]; done))), rfl, rfl, (qR_of (by first | (simp [c1, hS7]; done) | (simp only [c1a, c1b, c1, cond_true]; rw [hhA]; simp [lstN, c1, hS7]; done) | (have e0 : iA = 0 := (by omega); subst e0; simp only [c1a, c1b, c1, cond_true]; rw [hhA]; try (simp [lstN, hS7]; done))))⟩
set_option maxHeartbeats 300000 in
set_option maxRecDepth 100000 in
theorem kX4_comesFor (l : Launch) (D : va_G) (cI cS : ClassId) (b : Nat → Nat) (E Kp Bf As Q : Nat → Nat → Int32) (n : Nat) (hW : Wf E n) (yb : Nat) (hY : bd (E 9 2) yb) (hyb : yb ≤ 99000) (y k : Int32) : vMet l D (vT cI cS) yX4_comesFor cX4_comesFor 6 (some .int) 6 134 (mW cI b) v0 [.ref (b 0), .int y, .int k] (E, Kp, Bf, As, Q) (mPost (some (.int (cond (oyB y n && inB k 0 40) (if fstN (fun v => hiddenS (yearsS n 0 (up E 9 1 (nI v)) (ix k)) (ix y)) 100 < 100 then nI (fstN (fun v => hiddenS (yearsS n 0 (up E 9 1 (nI v)) (ix k)) (ix y)) 100) else (-1000004)) ((-1000001))))) (E) (Kp) (cond (oyB y n && inB k 0 40) (if fstN (fun v => hiddenS (yearsS n 0 (up E 9 1 (nI v)) (ix k)) (ix y)) 100 < 100 then Q else fndS Q 3) (fndS Q 0))) := by
  refine vMet_of (by decide) rfl ?_
  intro K hl hD hnL hret h hR hEx
  subst hl hD
  show V K (mW cI b (E, Kp, Bf, As, Q)) 0 [(0, .ref (b 0)), (1, .int y), (2, .int k)] []
  have hn8 := hW.1
  refine v_aload_n h pX4_comesFor_0 0 rfl 0 rfl rfl (v_iload_n h pX4_comesFor_0 1 rfl 1 rfl rfl (v_iload_n h pX4_comesFor_0 2 rfl 2 rfl rfl ?_))
  refine v_callV h pX4_comesFor_0 3 mX4_144 (As := [.int y, .int k]) (st := []) (kX4_isAsked _ _ cI cS b E Kp Bf As Q n hW y k) v0B v0C (vEmb_rf _ _) 0 rfl rfl rfl rfl rfl rfl rfl (vDet_k ?_)
  show V K (mW cI b (E, Kp, Bf, As, Q)) 6 [(0, .ref (b 0)), (1, .int y), (2, .int k)] [.int (bI (oyB y n && inB k 0 40))]
  refine v_bif_ne (tgt := 16) h pX4_comesFor_0 4 rfl rfl (fun c1 => ?_) (fun c1 => ?_)
  · skip
    obtain ⟨c1a, c1b⟩ := Bool.and_eq_true_iff.mp c1
    obtain ⟨e_y, l_y⟩ := oyB_t hn8 c1a
    obtain ⟨e_k, l_k⟩ := inB_t 40 rfl (by decide) c1b
    refine v_aload_n h pX4_comesFor_0 9 rfl 0 rfl rfl (v_get h pX4_comesFor_0 10 fX4_7 0 rfl rfl rfl (v_iconst h pX4_comesFor_0 11 rfl ki_3 (v_iald h pX4_comesFor_0 12 3 1 0 rfl rfl rfl rfl rfl (by omega) (v_top (w := .int (E 9 1)) (congrArg Value.int rfl) (v_istore_n h pX4_comesFor_0 13 (lv' := [(3, .int (E 9 1)), (0, .ref (b 0)), (1, .int y), (2, .int k)]) rfl rfl hnL rfl rfl ?_)))))
    refine v_eqw (ws' := mW cI b (up E 9 1 (E 9 1), Kp, Bf, As, Q)) (by rw [up_id]) ?_
    refine v_iconst h pX4_comesFor_0 14 rfl ki_m1 (v_istore h pX4_comesFor_0 15 (lv' := [(4, .int (-1)), (3, .int (E 9 1)), (0, .ref (b 0)), (1, .int y), (2, .int k)]) rfl hnL rfl rfl (v_iconst h pX4_comesFor_0 16 rfl ki_0 (v_istore h pX4_comesFor_0 17 (lv' := [(5, .int 0), (4, .int (-1)), (3, .int (E 9 1)), (0, .ref (b 0)), (1, .int y), (2, .int k)]) rfl hnL rfl rfl ?_)))
    refine v_lv [3, 4, 5, 2, 1, 0] (lv' := [(0, .ref (b 0)), (1, .int y), (2, .int k), (3, .int (E 9 1)), (4, .int (-1)), (5, .int 0)]) rfl ?_
    have LA : ∀ (m iA : Nat) (xA : Int32) (AsA : Nat → Nat → Int32), iA ≤ 100 → (∀ j, j < iA → (fun v => hiddenS (yearsS n 0 (up E 9 1 (nI v)) (ix k)) (ix y)) j = false) → 100 + 1 ≤ iA + m → V K (mW cI b (up E 9 1 xA, Kp, Bf, AsA, Q)) 29 [(0, .ref (b 0)), (1, .int y), (2, .int k), (3, .int (E 9 1)), (4, .int (-1)), (5, .int (nI iA))] [] := by
      intro m
      induction m with
      | zero => exact fun iA xA AsA h1 hh h2 => absurd h2 (by omega)
      | succ m ihA =>
        intro iA xA AsA hleA hhA hltA
        refine v_iload h pX4_comesFor_0 18 rfl 5 rfl (v_bipush h pX4_comesFor_0 19 rfl kb_99 ?_)
        refine v_ncmp_gt (a := iA) (b := 99) (tgt := 72) h pX4_comesFor_0 20 rfl rfl (by omega) (by omega) (fun c3 => ?_) (fun c3 => ?_)
        · skip
          refine v_aload_n h pX4_comesFor_1 7 rfl 0 rfl rfl (v_get h pX4_comesFor_1 8 fX4_7 0 rfl rfl rfl (v_iconst h pX4_comesFor_1 9 rfl ki_3 (v_iload_n h pX4_comesFor_1 10 rfl 3 rfl rfl (v_iast h pX4_comesFor_1 11 3 1 0 (ws' := mW cI b (up (up E 9 1 xA) 9 1 (E 9 1), Kp, Bf, AsA, Q)) rfl rfl rfl rfl rfl (by omega) (mW_s 3 9 1 rfl rfl) ?_))))
          refine v_eqw (ws' := mW cI b (E, Kp, Bf, AsA, Q)) (by rw [up_bk]) (v_aload_n h pX4_comesFor_1 12 rfl 0 rfl rfl (v_iload h pX4_comesFor_1 13 rfl 4 rfl ?_))
          refine v_callV h pX4_comesFor_1 14 mX4_155 (As := [.int (-1)]) (st := []) (kX4_orNone_n _ _ cI cS b E Kp Bf AsA Q) v0B v0C (vEmb_rf _ _) 0 rfl rfl rfl rfl rfl rfl rfl (vDet_k ?_)
          show V K (mW cI b (E, Kp, Bf, AsA, fndS Q 3)) 85 [(0, .ref (b 0)), (1, .int y), (2, .int k), (3, .int (E 9 1)), (4, .int (-1)), (5, .int (nI iA))] [.int (-1000004)]
          generalize hS4 : fndS Q 3 = S4
          exact v_iret h pX4_comesFor_1 15 hR hret rfl ((E, Kp, Bf, AsA, S4)) rfl ⟨vI (by first | (simp [c1, c1a, c1b, c3, hS4]; done) | (have e1 : fstN (fun v => hiddenS (yearsS n 0 (up E 9 1 (nI v)) (ix k)) (ix y)) 100 = iA := fstN_eq hhA (by first | assumption | (simp [c1, c1a, c1b, c3]; done)) (by omega); simp only [c1, cond_true]; rw [e1]; try (rw [if_pos (by omega)]); done) | (have e1 : fstN (fun v => hiddenS (yearsS n 0 (up E 9 1 (nI v)) (ix k)) (ix y)) 100 = 100 := fstN_no (fun j hj => hhA j (by omega)); simp only [c1, cond_true]; rw [e1]; simp [hS4]; done)), rfl, rfl, (qR_of (by first | (simp [c1, c1a, c1b, c3, hS4]; done) | (have e1 : fstN (fun v => hiddenS (yearsS n 0 (up E 9 1 (nI v)) (ix k)) (ix y)) 100 = iA := fstN_eq hhA (by first | assumption | (simp [c1, c1a, c1b, c3]; done)) (by omega); simp only [c1, cond_true]; rw [e1]; try (rw [if_pos (by omega)]); done) | (have e1 : fstN (fun v => hiddenS (yearsS n 0 (up E 9 1 (nI v)) (ix k)) (ix y)) 100 = 100 := fstN_no (fun j hj => hhA j (by omega)); simp only [c1, cond_true]; rw [e1]; simp [hS4]; done)))⟩
        · skip
          refine v_iload h pX4_comesFor_0 21 rfl 4 rfl ?_
          refine v_if_ge2 (tgt := 72) h pX4_comesFor_0 22 rfl rfl (fun c5 => absurd c5 (by decide)) (fun c5 => ?_)
          refine v_aload_n h pX4_comesFor_0 23 rfl 0 rfl rfl (v_get h pX4_comesFor_0 24 fX4_7 0 rfl rfl rfl (v_iconst h pX4_comesFor_0 25 rfl ki_3 (v_iload h pX4_comesFor_0 26 rfl 5 rfl (v_iast h pX4_comesFor_0 27 3 1 0 (ws' := mW cI b (up (up E 9 1 xA) 9 1 (nI iA), Kp, Bf, AsA, Q)) rfl rfl rfl rfl rfl (by omega) (mW_s 3 9 1 rfl rfl) ?_))))
          refine v_eqw (ws' := mW cI b (up E 9 1 (nI iA), Kp, Bf, AsA, Q)) (by rw [up_up]) (v_aload_n h pX4_comesFor_0 28 rfl 0 rfl rfl (v_iload_n h pX4_comesFor_0 29 rfl 1 rfl rfl (v_top (w := .int (nI (ix y))) (congrArg Value.int e_y) (v_iload_n h pX4_comesFor_0 30 rfl 2 rfl rfl (v_top (w := .int (nI (ix k))) (congrArg Value.int e_k) ?_)))))
          refine v_callV h pX4_comesFor_0 31 mX4_152 (As := [.int (nI (ix y)), .int (nI (ix k))]) (st := []) (kX4_isHiddenThen _ _ cI cS b (up E 9 1 (nI iA)) Kp Bf AsA Q n (Wf_up91 hW ⟨iA, by omega, rfl⟩) yb hY (ix y) (ix k) (by omega) (by omega)) v0B v0C (vEmb_rf _ _) 0 rfl rfl rfl rfl rfl rfl rfl (vDet_k ?_)
          show V K (mW cI b (up E 9 1 (nI iA), Kp, Bf, up E 9 1 (nI iA), Q)) 55 [(0, .ref (b 0)), (1, .int y), (2, .int k), (3, .int (E 9 1)), (4, .int (-1)), (5, .int (nI iA))] [.int (bI (hiddenS (yearsS n 0 (up E 9 1 (nI iA)) (ix k)) (ix y)))]
          refine v_bif_eq (tgt := 63) h pX4_comesFor_1 0 rfl rfl (fun c6 => ?_) (fun c6 => ?_)
          · skip
            refine v_iconst h pX4_comesFor_1 3 rfl ki_m1 (v_istore h pX4_comesFor_1 4 (lv' := [(4, .int (-1)), (0, .ref (b 0)), (1, .int y), (2, .int k), (3, .int (E 9 1)), (5, .int (nI iA))]) rfl hnL rfl rfl (v_iinc h pX4_comesFor_1 5 (v := nI (iA + 1)) (lv' := [(5, .int (nI (iA + 1))), (4, .int (-1)), (0, .ref (b 0)), (1, .int y), (2, .int k), (3, .int (E 9 1))]) rfl 5 rfl hnL rfl rfl (nI_1 iA) (v_goto (tgt := 29) h pX4_comesFor_1 6 rfl rfl (v_lv [2, 3, 4, 5, 1, 0] (lv' := [(0, .ref (b 0)), (1, .int y), (2, .int k), (3, .int (E 9 1)), (4, .int (-1)), (5, .int (nI (iA + 1)))]) rfl ?_))))
            exact ihA (iA + 1) (nI iA) (up E 9 1 (nI iA)) (by omega) (fun j hj => (Nat.lt_succ_iff_lt_or_eq.mp hj).elim (hhA j) (fun e => by rw [e]; exact c6)) (by omega)
          · skip
            refine v_iload h pX4_comesFor_1 1 rfl 5 rfl (v_goto (tgt := 64) h pX4_comesFor_1 2 rfl rfl (v_istore h pX4_comesFor_1 4 (lv' := [(4, .int (nI iA)), (0, .ref (b 0)), (1, .int y), (2, .int k), (3, .int (E 9 1)), (5, .int (nI iA))]) rfl hnL rfl rfl (v_iinc h pX4_comesFor_1 5 (v := nI (iA + 1)) (lv' := [(5, .int (nI (iA + 1))), (4, .int (nI iA)), (0, .ref (b 0)), (1, .int y), (2, .int k), (3, .int (E 9 1))]) rfl 5 rfl hnL rfl rfl (nI_1 iA) (v_goto (tgt := 29) h pX4_comesFor_1 6 rfl rfl (v_iload h pX4_comesFor_0 18 rfl 0 rfl ?_)))))
            refine v_bipush h pX4_comesFor_0 19 rfl kb_99 ?_
            refine v_ncmp_gt (a := iA + 1) (b := 99) (tgt := 72) h pX4_comesFor_0 20 rfl rfl (by omega) (by omega) (fun c7 => ?_) (fun c7 => ?_)
            · skip
              refine v_aload_n h pX4_comesFor_1 7 rfl 2 rfl rfl (v_get h pX4_comesFor_1 8 fX4_7 0 rfl rfl rfl (v_iconst h pX4_comesFor_1 9 rfl ki_3 (v_iload_n h pX4_comesFor_1 10 rfl 5 rfl rfl (v_iast h pX4_comesFor_1 11 3 1 0 (ws' := mW cI b (up (up E 9 1 (nI iA)) 9 1 (E 9 1), Kp, Bf, up E 9 1 (nI iA), Q)) rfl rfl rfl rfl rfl (by omega) (mW_s 3 9 1 rfl rfl) ?_))))
              refine v_eqw (ws' := mW cI b (E, Kp, Bf, up E 9 1 (nI iA), Q)) (by rw [up_bk]) (v_aload_n h pX4_comesFor_1 12 rfl 2 rfl rfl (v_iload h pX4_comesFor_1 13 rfl 1 rfl ?_))
              refine v_callV h pX4_comesFor_1 14 mX4_155 (As := [.int (nI iA)]) (st := []) (kX4_orNone _ _ cI cS b E Kp Bf (up E 9 1 (nI iA)) Q iA (by omega)) v0B v0C (vEmb_rf _ _) 0 rfl rfl rfl rfl rfl rfl rfl (vDet_k ?_)
              show V K (mW cI b (E, Kp, Bf, up E 9 1 (nI iA), Q)) 85 [(5, .int (nI (iA + 1))), (4, .int (nI iA)), (0, .ref (b 0)), (1, .int y), (2, .int k), (3, .int (E 9 1))] [.int (nI iA)]
              exact v_iret h pX4_comesFor_1 15 hR hret rfl ((E, Kp, Bf, up E 9 1 (nI iA), Q)) rfl ⟨vI (by first | (simp [c1, c1a, c1b, c3, c6, c7, True]; done) | (have e1 : fstN (fun v => hiddenS (yearsS n 0 (up E 9 1 (nI v)) (ix k)) (ix y)) 100 = iA := fstN_eq hhA (by first | assumption | (simp [c1, c1a, c1b, c3, c6, c7]; done)) (by omega); simp only [c1, cond_true]; rw [e1]; try (rw [if_pos (by omega)]); done) | (have e1 : fstN (fun v => hiddenS (yearsS n 0 (up E 9 1 (nI v)) (ix k)) (ix y)) 100 = 100 := fstN_no (fun j hj => hhA j (by omega)); simp only [c1, cond_true]; rw [e1]; simp [True]; done)), rfl, rfl, (qR_of (by first | (simp [c1, c1a, c1b, c3, c6, c7, True]; done) | (have e1 : fstN (fun v => hiddenS (yearsS n 0 (up E 9 1 (nI v)) (ix k)) (ix y)) 100 = iA := fstN_eq hhA (by first | assumption | (simp [c1, c1a, c1b, c3, c6, c7]; done)) (by omega); simp only [c1, cond_true]; rw [e1]; try (rw [if_pos (by omega)]); done) | (have e1 : fstN (fun v => hiddenS (yearsS n 0 (up E 9 1 (nI v)) (ix k)) (ix y)) 100 = 100 := fstN_no (fun j hj => hhA j (by omega)); simp only [c1, cond_true]; rw [e1]; simp [True]; done)))⟩
            · skip
              refine v_iload h pX4_comesFor_0 21 rfl 1 rfl (v_nif_ge (a := iA) (tgt := 72) h pX4_comesFor_0 22 rfl rfl (by omega) (v_aload_n h pX4_comesFor_1 7 rfl 2 rfl rfl (v_get h pX4_comesFor_1 8 fX4_7 0 rfl rfl rfl (v_iconst h pX4_comesFor_1 9 rfl ki_3 (v_iload_n h pX4_comesFor_1 10 rfl 5 rfl rfl ?_)))))
              refine v_iast h pX4_comesFor_1 11 3 1 0 (ws' := mW cI b (up (up E 9 1 (nI iA)) 9 1 (E 9 1), Kp, Bf, up E 9 1 (nI iA), Q)) rfl rfl rfl rfl rfl (by omega) (mW_s 3 9 1 rfl rfl) ?_
              refine v_eqw (ws' := mW cI b (E, Kp, Bf, up E 9 1 (nI iA), Q)) (by rw [up_bk]) (v_aload_n h pX4_comesFor_1 12 rfl 2 rfl rfl (v_iload h pX4_comesFor_1 13 rfl 1 rfl ?_))
              refine v_callV h pX4_comesFor_1 14 mX4_155 (As := [.int (nI iA)]) (st := []) (kX4_orNone _ _ cI cS b E Kp Bf (up E 9 1 (nI iA)) Q iA (by omega)) v0B v0C (vEmb_rf _ _) 0 rfl rfl rfl rfl rfl rfl rfl (vDet_k ?_)
              show V K (mW cI b (E, Kp, Bf, up E 9 1 (nI iA), Q)) 85 [(5, .int (nI (iA + 1))), (4, .int (nI iA)), (0, .ref (b 0)), (1, .int y), (2, .int k), (3, .int (E 9 1))] [.int (nI iA)]
              exact v_iret h pX4_comesFor_1 15 hR hret rfl ((E, Kp, Bf, up E 9 1 (nI iA), Q)) rfl ⟨vI (by first | (simp [c1, c1a, c1b, c3, c6, c7, True]; done) | (have e1 : fstN (fun v => hiddenS (yearsS n 0 (up E 9 1 (nI v)) (ix k)) (ix y)) 100 = iA := fstN_eq hhA (by first | assumption | (simp [c1, c1a, c1b, c3, c6, c7]; done)) (by omega); simp only [c1, cond_true]; rw [e1]; try (rw [if_pos (by omega)]); done) | (have e1 : fstN (fun v => hiddenS (yearsS n 0 (up E 9 1 (nI v)) (ix k)) (ix y)) 100 = 100 := fstN_no (fun j hj => hhA j (by omega)); simp only [c1, cond_true]; rw [e1]; simp [True]; done)), rfl, rfl, (qR_of (by first | (simp [c1, c1a, c1b, c3, c6, c7, True]; done) | (have e1 : fstN (fun v => hiddenS (yearsS n 0 (up E 9 1 (nI v)) (ix k)) (ix y)) 100 = iA := fstN_eq hhA (by first | assumption | (simp [c1, c1a, c1b, c3, c6, c7]; done)) (by omega); simp only [c1, cond_true]; rw [e1]; try (rw [if_pos (by omega)]); done) | (have e1 : fstN (fun v => hiddenS (yearsS n 0 (up E 9 1 (nI v)) (ix k)) (ix y)) 100 = 100 := fstN_no (fun j hj => hhA j (by omega)); simp only [c1, cond_true]; rw [e1]; simp [True]; done)))⟩
    exact LA (100 + 1) 0 (E 9 1) As (by omega) (fun j hj => absurd hj (by omega)) (by omega)
  · skip
    refine v_aload_n h pX4_comesFor_0 5 rfl 0 rfl rfl (v_ldc h pX4_comesFor_0 6 wm_104 rfl ?_)
    refine v_callV h pX4_comesFor_0 7 mX4_42 (As := [.int (-1000001)]) (st := []) (kX4_finds _ _ cI cS b E Kp Bf As Q 0 (by decide) (-1000001) (by decide)) v0B v0C (vEmb_rf _ _) 0 rfl rfl rfl rfl rfl rfl rfl (vDet_k ?_)
    show V K (mW cI b (E, Kp, Bf, As, fndS Q 0)) 15 [(0, .ref (b 0)), (1, .int y), (2, .int k)] [.int (-1000001)]
    generalize hS8 : fndS Q 0 = S8
    exact v_iret h pX4_comesFor_0 8 hR hret rfl ((E, Kp, Bf, As, S8)) rfl ⟨vI (by first | (simp [c1, hS8]; done) | (have e1 : fstN (fun v => hiddenS (yearsS n 0 (up E 9 1 (nI v)) (ix k)) (ix y)) 100 = iA := fstN_eq hhA (by first | assumption | (simp [c1]; done)) (by omega); simp only [c1, cond_true]; rw [e1]; try (rw [if_pos (by omega)]); done) | (have e1 : fstN (fun v => hiddenS (yearsS n 0 (up E 9 1 (nI v)) (ix k)) (ix y)) 100 = 100 := fstN_no (fun j hj => hhA j (by omega)); simp only [c1, cond_true]; rw [e1]; simp [hS8]; done)), rfl, rfl, (qR_of (by first | (simp [c1, hS8]; done) | (have e1 : fstN (fun v => hiddenS (yearsS n 0 (up E 9 1 (nI v)) (ix k)) (ix y)) 100 = iA := fstN_eq hhA (by first | assumption | (simp [c1]; done)) (by omega); simp only [c1, cond_true]; rw [e1]; try (rw [if_pos (by omega)]); done) | (have e1 : fstN (fun v => hiddenS (yearsS n 0 (up E 9 1 (nI v)) (ix k)) (ix y)) 100 = 100 := fstN_no (fun j hj => hhA j (by omega)); simp only [c1, cond_true]; rw [e1]; simp [hS8]; done)))⟩
set_option maxHeartbeats 300000 in
set_option maxRecDepth 100000 in
theorem kX4_coldFor (l : Launch) (D : va_G) (cI cS : ClassId) (b : Nat → Nat) (E Kp Bf As Q : Nat → Nat → Int32) (n : Nat) (hW : Wf E n) (yb : Nat) (hY : bd (E 9 2) yb) (hyb : yb ≤ 99000) (y k : Int32) : vMet l D (vT cI cS) yX4_coldFor cX4_coldFor 7 (some .int) 6 135 (mW cI b) v0 [.ref (b 0), .int y, .int k] (E, Kp, Bf, As, Q) (mPost (some (.int (cond (oyB y n && inB k 0 40) (if fstN (fun v => decide (yearsS n 0 (up E 1 (ix (E 3 (ix y))) (nI v)) (ix k) 7 (ix y) = E 7 (ix y))) 10 < 10 then nI (fstN (fun v => decide (yearsS n 0 (up E 1 (ix (E 3 (ix y))) (nI v)) (ix k) 7 (ix y) = E 7 (ix y))) 10) else (-1000004)) ((-1000001))))) (E) (Kp) (cond (oyB y n && inB k 0 40) (if fstN (fun v => decide (yearsS n 0 (up E 1 (ix (E 3 (ix y))) (nI v)) (ix k) 7 (ix y) = E 7 (ix y))) 10 < 10 then Q else fndS Q 3) (fndS Q 0))) := by
  refine vMet_of (by decide) rfl ?_
  intro K hl hD hnL hret h hR hEx
  subst hl hD
  show V K (mW cI b (E, Kp, Bf, As, Q)) 0 [(0, .ref (b 0)), (1, .int y), (2, .int k)] []
  have hn8 := hW.1
  refine v_aload_n h pX4_coldFor_0 0 rfl 0 rfl rfl (v_iload_n h pX4_coldFor_0 1 rfl 1 rfl rfl (v_iload_n h pX4_coldFor_0 2 rfl 2 rfl rfl ?_))
  refine v_callV h pX4_coldFor_0 3 mX4_144 (As := [.int y, .int k]) (st := []) (kX4_isAsked _ _ cI cS b E Kp Bf As Q n hW y k) v0B v0C (vEmb_rf _ _) 0 rfl rfl rfl rfl rfl rfl rfl (vDet_k ?_)
  show V K (mW cI b (E, Kp, Bf, As, Q)) 6 [(0, .ref (b 0)), (1, .int y), (2, .int k)] [.int (bI (oyB y n && inB k 0 40))]
  refine v_bif_ne (tgt := 16) h pX4_coldFor_0 4 rfl rfl (fun c1 => ?_) (fun c1 => ?_)
  · skip
    obtain ⟨c1a, c1b⟩ := Bool.and_eq_true_iff.mp c1
    obtain ⟨e_y, l_y⟩ := oyB_t hn8 c1a
    obtain ⟨e_k, l_k⟩ := inB_t 40 rfl (by decide) c1b
    have hb := hW.homeL (i := ix y) (by omega)
    refine v_bipush h pX4_coldFor_0 9 rfl kb_10 (v_aload_n h pX4_coldFor_0 10 rfl 0 rfl rfl (v_iload_n h pX4_coldFor_0 11 rfl 1 rfl rfl (v_top (w := .int (nI (ix y))) (congrArg Value.int e_y) (v_iconst h pX4_coldFor_0 12 rfl ki_1 ?_))))
    refine v_callV h pX4_coldFor_0 13 mX4_64 (As := [.int (nI (ix y)), .int 1]) (st := [.int 10]) (kX4_its _ _ cI cS b E Kp Bf As Q (ix y) 1 (by omega) (by omega)) v0B v0C (vEmb_rf _ _) 0 rfl rfl rfl rfl rfl rfl rfl (vDet_k ?_)
    show V K (mW cI b (E, Kp, Bf, As, Q)) 24 [(0, .ref (b 0)), (1, .int y), (2, .int k)] [.int (E 3 (ix y)), .int 10]
    refine v_top (w := .int (nI (ix (E 3 (ix y))))) (congrArg Value.int (hW.home (by omega))) (v_iaddn h pX4_coldFor_0 14 10 (ix (E 3 (ix y))) rfl (v_istore_n h pX4_coldFor_0 15 (lv' := [(3, .int (nI (10 + ix (E 3 (ix y))))), (0, .ref (b 0)), (1, .int y), (2, .int k)]) rfl rfl hnL rfl rfl (v_aload_n h pX4_coldFor_0 16 rfl 1 rfl rfl (v_get h pX4_coldFor_0 17 fX4_7 0 rfl rfl rfl (v_iload_n h pX4_coldFor_0 18 rfl 0 rfl rfl ?_)))))
    refine v_iald h pX4_coldFor_0 19 (10 + ix (E 3 (ix y))) 1 0 rfl rfl rfl rfl rfl (by omega) (v_top (w := .int (E 1 (ix (E 3 (ix y))))) (congrArg Value.int (fl_c _ (by omega))) (v_istore h pX4_coldFor_0 20 (lv' := [(4, .int (E 1 (ix (E 3 (ix y))))), (3, .int (nI (10 + ix (E 3 (ix y))))), (0, .ref (b 0)), (1, .int y), (2, .int k)]) rfl hnL rfl rfl ?_))
    refine v_eqw (ws' := mW cI b (up E 1 (ix (E 3 (ix y))) (E 1 (ix (E 3 (ix y)))), Kp, Bf, As, Q)) (by rw [up_id]) ?_
    refine v_iconst h pX4_coldFor_0 21 rfl ki_m1 (v_istore h pX4_coldFor_0 22 (lv' := [(5, .int (-1)), (4, .int (E 1 (ix (E 3 (ix y))))), (3, .int (nI (10 + ix (E 3 (ix y))))), (0, .ref (b 0)), (1, .int y), (2, .int k)]) rfl hnL rfl rfl (v_iconst h pX4_coldFor_0 23 rfl ki_0 (v_istore h pX4_coldFor_0 24 (lv' := [(6, .int 0), (5, .int (-1)), (4, .int (E 1 (ix (E 3 (ix y))))), (3, .int (nI (10 + ix (E 3 (ix y))))), (0, .ref (b 0)), (1, .int y), (2, .int k)]) rfl hnL rfl rfl ?_)))
    refine v_lv [4, 5, 6, 3, 2, 1, 0] (lv' := [(0, .ref (b 0)), (1, .int y), (2, .int k), (3, .int (nI (10 + ix (E 3 (ix y))))), (4, .int (E 1 (ix (E 3 (ix y))))), (5, .int (-1)), (6, .int 0)]) rfl ?_
    have LA : ∀ (m iA : Nat) (xA : Int32) (AsA : Nat → Nat → Int32), iA ≤ 10 → (∀ j, j < iA → (fun v => decide (yearsS n 0 (up E 1 (ix (E 3 (ix y))) (nI v)) (ix k) 7 (ix y) = E 7 (ix y))) j = false) → 10 + 1 ≤ iA + m → V K (mW cI b (up E 1 (ix (E 3 (ix y))) xA, Kp, Bf, AsA, Q)) 40 [(0, .ref (b 0)), (1, .int y), (2, .int k), (3, .int (nI (10 + ix (E 3 (ix y))))), (4, .int (E 1 (ix (E 3 (ix y))))), (5, .int (-1)), (6, .int (nI iA))] [] := by
      intro m
      induction m with
      | zero => exact fun iA xA AsA h1 hh h2 => absurd h2 (by omega)
      | succ m ihA =>
        intro iA xA AsA hleA hhA hltA
        refine v_iload h pX4_coldFor_0 25 rfl 6 rfl (v_bipush h pX4_coldFor_0 26 rfl kb_9 ?_)
        refine v_ncmp_gt (a := iA) (b := 9) (tgt := 90) h pX4_coldFor_0 27 rfl rfl (by omega) (by omega) (fun c3 => ?_) (fun c3 => ?_)
        · skip
          refine v_aload_n h pX4_coldFor_1 19 rfl 0 rfl rfl (v_get h pX4_coldFor_1 20 fX4_7 0 rfl rfl rfl (v_iload_n h pX4_coldFor_1 21 rfl 3 rfl rfl (v_iload h pX4_coldFor_1 22 rfl 4 rfl (v_iast h pX4_coldFor_1 23 (10 + ix (E 3 (ix y))) 1 0 (ws' := mW cI b (up (up E 1 (ix (E 3 (ix y))) xA) 1 (ix (E 3 (ix y))) (E 1 (ix (E 3 (ix y)))), Kp, Bf, AsA, Q)) rfl rfl rfl rfl rfl (by omega) (mW_s (10 + ix (E 3 (ix y))) 1 (ix (E 3 (ix y))) (flR_c (by omega)) (flI_c (by omega))) ?_))))
          refine v_eqw (ws' := mW cI b (E, Kp, Bf, AsA, Q)) (by rw [up_bk]) (v_aload_n h pX4_coldFor_1 24 rfl 0 rfl rfl (v_iload h pX4_coldFor_1 25 rfl 5 rfl ?_))
          refine v_callV h pX4_coldFor_1 26 mX4_155 (As := [.int (-1)]) (st := []) (kX4_orNone_n _ _ cI cS b E Kp Bf AsA Q) v0B v0C (vEmb_rf _ _) 0 rfl rfl rfl rfl rfl rfl rfl (vDet_k ?_)
          show V K (mW cI b (E, Kp, Bf, AsA, fndS Q 3)) 104 [(0, .ref (b 0)), (1, .int y), (2, .int k), (3, .int (nI (10 + ix (E 3 (ix y))))), (4, .int (E 1 (ix (E 3 (ix y))))), (5, .int (-1)), (6, .int (nI iA))] [.int (-1000004)]
          generalize hS4 : fndS Q 3 = S4
          exact v_iret h pX4_coldFor_1 27 hR hret rfl ((E, Kp, Bf, AsA, S4)) rfl ⟨vI (by first | (simp [c1, c1a, c1b, c3, hS4]; done) | (have e1 : fstN (fun v => decide (yearsS n 0 (up E 1 (ix (E 3 (ix y))) (nI v)) (ix k) 7 (ix y) = E 7 (ix y))) 10 = iA := fstN_eq hhA (by first | assumption | (simp [c1, c1a, c1b, c3]; done)) (by omega); simp only [c1, cond_true]; rw [e1]; try (rw [if_pos (by omega)]); done) | (have e1 : fstN (fun v => decide (yearsS n 0 (up E 1 (ix (E 3 (ix y))) (nI v)) (ix k) 7 (ix y) = E 7 (ix y))) 10 = 10 := fstN_no (fun j hj => hhA j (by omega)); simp only [c1, cond_true]; rw [e1]; simp [hS4]; done)), rfl, rfl, (qR_of (by first | (simp [c1, c1a, c1b, c3, hS4]; done) | (have e1 : fstN (fun v => decide (yearsS n 0 (up E 1 (ix (E 3 (ix y))) (nI v)) (ix k) 7 (ix y) = E 7 (ix y))) 10 = iA := fstN_eq hhA (by first | assumption | (simp [c1, c1a, c1b, c3]; done)) (by omega); simp only [c1, cond_true]; rw [e1]; try (rw [if_pos (by omega)]); done) | (have e1 : fstN (fun v => decide (yearsS n 0 (up E 1 (ix (E 3 (ix y))) (nI v)) (ix k) 7 (ix y) = E 7 (ix y))) 10 = 10 := fstN_no (fun j hj => hhA j (by omega)); simp only [c1, cond_true]; rw [e1]; simp [hS4]; done)))⟩
        · skip
          refine v_iload h pX4_coldFor_0 28 rfl 5 rfl ?_
          refine v_if_ge2 (tgt := 90) h pX4_coldFor_0 29 rfl rfl (fun c5 => absurd c5 (by decide)) (fun c5 => ?_)
          refine v_aload_n h pX4_coldFor_0 30 rfl 0 rfl rfl (v_get h pX4_coldFor_0 31 fX4_7 0 rfl rfl rfl (v_iload_n h pX4_coldFor_1 0 rfl 3 rfl rfl (v_iload h pX4_coldFor_1 1 rfl 6 rfl (v_iast h pX4_coldFor_1 2 (10 + ix (E 3 (ix y))) 1 0 (ws' := mW cI b (up (up E 1 (ix (E 3 (ix y))) xA) 1 (ix (E 3 (ix y))) (nI iA), Kp, Bf, AsA, Q)) rfl rfl rfl rfl rfl (by omega) (mW_s (10 + ix (E 3 (ix y))) 1 (ix (E 3 (ix y))) (flR_c (by omega)) (flI_c (by omega))) ?_))))
          refine v_eqw (ws' := mW cI b (up E 1 (ix (E 3 (ix y))) (nI iA), Kp, Bf, AsA, Q)) (by rw [up_up]) (v_aload_n h pX4_coldFor_1 3 rfl 0 rfl rfl (v_iload_n h pX4_coldFor_1 4 rfl 1 rfl rfl (v_top (w := .int (nI (ix y))) (congrArg Value.int e_y) (v_iconst h pX4_coldFor_1 5 rfl ki_5 (v_iload_n h pX4_coldFor_1 6 rfl 2 rfl rfl ?_)))))
          refine v_top (w := .int (nI (ix k))) (congrArg Value.int e_k) ?_
          refine v_callV h pX4_coldFor_1 7 mX4_138 (As := [.int (nI (ix y)), .int 5, .int (nI (ix k))]) (st := []) (kX4_then _ _ cI cS b (up E 1 (ix (E 3 (ix y))) (nI iA)) Kp Bf AsA Q n (Wf_up1 hW ⟨iA, by omega, rfl⟩) yb hY (ix y) 5 (ix k) (by omega) (by omega) (by omega)) v0B v0C (vEmb_rf _ _) 0 rfl rfl rfl rfl rfl rfl rfl (vDet_k ?_)
          show V K (mW cI b (up E 1 (ix (E 3 (ix y))) (nI iA), Kp, Bf, up E 1 (ix (E 3 (ix y))) (nI iA), Q)) 67 [(0, .ref (b 0)), (1, .int y), (2, .int k), (3, .int (nI (10 + ix (E 3 (ix y))))), (4, .int (E 1 (ix (E 3 (ix y))))), (5, .int (-1)), (6, .int (nI iA))] [.int (thenS (yearsS n 0 (up E 1 (ix (E 3 (ix y))) (nI iA)) (ix k)) (ix y) 5)]
          refine v_aload_n h pX4_coldFor_1 8 rfl 0 rfl rfl (v_iload_n h pX4_coldFor_1 9 rfl 1 rfl rfl (v_top (w := .int (nI (ix y))) (congrArg Value.int e_y) (v_iconst h pX4_coldFor_1 10 rfl ki_5 ?_)))
          refine v_callV h pX4_coldFor_1 11 mX4_64 (As := [.int (nI (ix y)), .int 5]) (st := [.int (thenS (yearsS n 0 (up E 1 (ix (E 3 (ix y))) (nI iA)) (ix k)) (ix y) 5)]) (kX4_its _ _ cI cS b (up E 1 (ix (E 3 (ix y))) (nI iA)) Kp Bf (up E 1 (ix (E 3 (ix y))) (nI iA)) Q (ix y) 5 (by omega) (by omega)) v0B v0C (vEmb_rf _ _) 0 rfl rfl rfl rfl rfl rfl rfl (vDet_k ?_)
          show V K (mW cI b (up E 1 (ix (E 3 (ix y))) (nI iA), Kp, Bf, up E 1 (ix (E 3 (ix y))) (nI iA), Q)) 73 [(0, .ref (b 0)), (1, .int y), (2, .int k), (3, .int (nI (10 + ix (E 3 (ix y))))), (4, .int (E 1 (ix (E 3 (ix y))))), (5, .int (-1)), (6, .int (nI iA))] [.int ((up E 1 (ix (E 3 (ix y))) (nI iA)) 7 (ix y)), .int (thenS (yearsS n 0 (up E 1 (ix (E 3 (ix y))) (nI iA)) (ix k)) (ix y) 5)]
          refine v_icmp_ne (tgt := 81) h pX4_coldFor_1 12 rfl rfl (fun c6 => ?_) (fun c6 => ?_)
          · skip
            replace c6 : decide (yearsS n 0 (up E 1 (ix (E 3 (ix y))) (nI iA)) (ix k) 7 (ix y) = E 7 (ix y)) = false := decide_eq_false c6
            refine v_iconst h pX4_coldFor_1 15 rfl ki_m1 (v_istore h pX4_coldFor_1 16 (lv' := [(5, .int (-1)), (0, .ref (b 0)), (1, .int y), (2, .int k), (3, .int (nI (10 + ix (E 3 (ix y))))), (4, .int (E 1 (ix (E 3 (ix y))))), (6, .int (nI iA))]) rfl hnL rfl rfl (v_iinc h pX4_coldFor_1 17 (v := nI (iA + 1)) (lv' := [(6, .int (nI (iA + 1))), (5, .int (-1)), (0, .ref (b 0)), (1, .int y), (2, .int k), (3, .int (nI (10 + ix (E 3 (ix y))))), (4, .int (E 1 (ix (E 3 (ix y)))))]) rfl 6 rfl hnL rfl rfl (nI_1 iA) (v_goto (tgt := 40) h pX4_coldFor_1 18 rfl rfl (v_lv [2, 3, 4, 5, 6, 1, 0] (lv' := [(0, .ref (b 0)), (1, .int y), (2, .int k), (3, .int (nI (10 + ix (E 3 (ix y))))), (4, .int (E 1 (ix (E 3 (ix y))))), (5, .int (-1)), (6, .int (nI (iA + 1)))]) rfl ?_))))
            exact ihA (iA + 1) (nI iA) (up E 1 (ix (E 3 (ix y))) (nI iA)) (by omega) (fun j hj => (Nat.lt_succ_iff_lt_or_eq.mp hj).elim (hhA j) (fun e => by rw [e]; exact c6)) (by omega)
          · skip
            replace c6 : decide (yearsS n 0 (up E 1 (ix (E 3 (ix y))) (nI iA)) (ix k) 7 (ix y) = E 7 (ix y)) = true := decide_eq_true c6
            refine v_iload h pX4_coldFor_1 13 rfl 6 rfl (v_goto (tgt := 82) h pX4_coldFor_1 14 rfl rfl (v_istore h pX4_coldFor_1 16 (lv' := [(5, .int (nI iA)), (0, .ref (b 0)), (1, .int y), (2, .int k), (3, .int (nI (10 + ix (E 3 (ix y))))), (4, .int (E 1 (ix (E 3 (ix y))))), (6, .int (nI iA))]) rfl hnL rfl rfl (v_iinc h pX4_coldFor_1 17 (v := nI (iA + 1)) (lv' := [(6, .int (nI (iA + 1))), (5, .int (nI iA)), (0, .ref (b 0)), (1, .int y), (2, .int k), (3, .int (nI (10 + ix (E 3 (ix y))))), (4, .int (E 1 (ix (E 3 (ix y)))))]) rfl 6 rfl hnL rfl rfl (nI_1 iA) (v_goto (tgt := 40) h pX4_coldFor_1 18 rfl rfl (v_iload h pX4_coldFor_0 25 rfl 0 rfl ?_)))))
            refine v_bipush h pX4_coldFor_0 26 rfl kb_9 ?_
            refine v_ncmp_gt (a := iA + 1) (b := 9) (tgt := 90) h pX4_coldFor_0 27 rfl rfl (by omega) (by omega) (fun c7 => ?_) (fun c7 => ?_)
            · skip
              refine v_aload_n h pX4_coldFor_1 19 rfl 2 rfl rfl (v_get h pX4_coldFor_1 20 fX4_7 0 rfl rfl rfl (v_iload_n h pX4_coldFor_1 21 rfl 5 rfl rfl (v_iload h pX4_coldFor_1 22 rfl 6 rfl (v_iast h pX4_coldFor_1 23 (10 + ix (E 3 (ix y))) 1 0 (ws' := mW cI b (up (up E 1 (ix (E 3 (ix y))) (nI iA)) 1 (ix (E 3 (ix y))) (E 1 (ix (E 3 (ix y)))), Kp, Bf, up E 1 (ix (E 3 (ix y))) (nI iA), Q)) rfl rfl rfl rfl rfl (by omega) (mW_s (10 + ix (E 3 (ix y))) 1 (ix (E 3 (ix y))) (flR_c (by omega)) (flI_c (by omega))) ?_))))
              refine v_eqw (ws' := mW cI b (E, Kp, Bf, up E 1 (ix (E 3 (ix y))) (nI iA), Q)) (by rw [up_bk]) (v_aload_n h pX4_coldFor_1 24 rfl 2 rfl rfl (v_iload h pX4_coldFor_1 25 rfl 1 rfl ?_))
              refine v_callV h pX4_coldFor_1 26 mX4_155 (As := [.int (nI iA)]) (st := []) (kX4_orNone _ _ cI cS b E Kp Bf (up E 1 (ix (E 3 (ix y))) (nI iA)) Q iA (by omega)) v0B v0C (vEmb_rf _ _) 0 rfl rfl rfl rfl rfl rfl rfl (vDet_k ?_)
              show V K (mW cI b (E, Kp, Bf, up E 1 (ix (E 3 (ix y))) (nI iA), Q)) 104 [(6, .int (nI (iA + 1))), (5, .int (nI iA)), (0, .ref (b 0)), (1, .int y), (2, .int k), (3, .int (nI (10 + ix (E 3 (ix y))))), (4, .int (E 1 (ix (E 3 (ix y)))))] [.int (nI iA)]
              exact v_iret h pX4_coldFor_1 27 hR hret rfl ((E, Kp, Bf, up E 1 (ix (E 3 (ix y))) (nI iA), Q)) rfl ⟨vI (by first | (simp [c1, c1a, c1b, c3, c6, c7, True]; done) | (have e1 : fstN (fun v => decide (yearsS n 0 (up E 1 (ix (E 3 (ix y))) (nI v)) (ix k) 7 (ix y) = E 7 (ix y))) 10 = iA := fstN_eq hhA (by first | assumption | (simp [c1, c1a, c1b, c3, c6, c7]; done)) (by omega); simp only [c1, cond_true]; rw [e1]; try (rw [if_pos (by omega)]); done) | (have e1 : fstN (fun v => decide (yearsS n 0 (up E 1 (ix (E 3 (ix y))) (nI v)) (ix k) 7 (ix y) = E 7 (ix y))) 10 = 10 := fstN_no (fun j hj => hhA j (by omega)); simp only [c1, cond_true]; rw [e1]; simp [True]; done)), rfl, rfl, (qR_of (by first | (simp [c1, c1a, c1b, c3, c6, c7, True]; done) | (have e1 : fstN (fun v => decide (yearsS n 0 (up E 1 (ix (E 3 (ix y))) (nI v)) (ix k) 7 (ix y) = E 7 (ix y))) 10 = iA := fstN_eq hhA (by first | assumption | (simp [c1, c1a, c1b, c3, c6, c7]; done)) (by omega); simp only [c1, cond_true]; rw [e1]; try (rw [if_pos (by omega)]); done) | (have e1 : fstN (fun v => decide (yearsS n 0 (up E 1 (ix (E 3 (ix y))) (nI v)) (ix k) 7 (ix y) = E 7 (ix y))) 10 = 10 := fstN_no (fun j hj => hhA j (by omega)); simp only [c1, cond_true]; rw [e1]; simp [True]; done)))⟩
            · skip
              refine v_iload h pX4_coldFor_0 28 rfl 1 rfl (v_nif_ge (a := iA) (tgt := 90) h pX4_coldFor_0 29 rfl rfl (by omega) (v_aload_n h pX4_coldFor_1 19 rfl 2 rfl rfl (v_get h pX4_coldFor_1 20 fX4_7 0 rfl rfl rfl (v_iload_n h pX4_coldFor_1 21 rfl 5 rfl rfl (v_iload h pX4_coldFor_1 22 rfl 6 rfl ?_)))))
              refine v_iast h pX4_coldFor_1 23 (10 + ix (E 3 (ix y))) 1 0 (ws' := mW cI b (up (up E 1 (ix (E 3 (ix y))) (nI iA)) 1 (ix (E 3 (ix y))) (E 1 (ix (E 3 (ix y)))), Kp, Bf, up E 1 (ix (E 3 (ix y))) (nI iA), Q)) rfl rfl rfl rfl rfl (by omega) (mW_s (10 + ix (E 3 (ix y))) 1 (ix (E 3 (ix y))) (flR_c (by omega)) (flI_c (by omega))) ?_
              refine v_eqw (ws' := mW cI b (E, Kp, Bf, up E 1 (ix (E 3 (ix y))) (nI iA), Q)) (by rw [up_bk]) (v_aload_n h pX4_coldFor_1 24 rfl 2 rfl rfl (v_iload h pX4_coldFor_1 25 rfl 1 rfl ?_))
              refine v_callV h pX4_coldFor_1 26 mX4_155 (As := [.int (nI iA)]) (st := []) (kX4_orNone _ _ cI cS b E Kp Bf (up E 1 (ix (E 3 (ix y))) (nI iA)) Q iA (by omega)) v0B v0C (vEmb_rf _ _) 0 rfl rfl rfl rfl rfl rfl rfl (vDet_k ?_)
              show V K (mW cI b (E, Kp, Bf, up E 1 (ix (E 3 (ix y))) (nI iA), Q)) 104 [(6, .int (nI (iA + 1))), (5, .int (nI iA)), (0, .ref (b 0)), (1, .int y), (2, .int k), (3, .int (nI (10 + ix (E 3 (ix y))))), (4, .int (E 1 (ix (E 3 (ix y)))))] [.int (nI iA)]
              exact v_iret h pX4_coldFor_1 27 hR hret rfl ((E, Kp, Bf, up E 1 (ix (E 3 (ix y))) (nI iA), Q)) rfl ⟨vI (by first | (simp [c1, c1a, c1b, c3, c6, c7, True]; done) | (have e1 : fstN (fun v => decide (yearsS n 0 (up E 1 (ix (E 3 (ix y))) (nI v)) (ix k) 7 (ix y) = E 7 (ix y))) 10 = iA := fstN_eq hhA (by first | assumption | (simp [c1, c1a, c1b, c3, c6, c7]; done)) (by omega); simp only [c1, cond_true]; rw [e1]; try (rw [if_pos (by omega)]); done) | (have e1 : fstN (fun v => decide (yearsS n 0 (up E 1 (ix (E 3 (ix y))) (nI v)) (ix k) 7 (ix y) = E 7 (ix y))) 10 = 10 := fstN_no (fun j hj => hhA j (by omega)); simp only [c1, cond_true]; rw [e1]; simp [True]; done)), rfl, rfl, (qR_of (by first | (simp [c1, c1a, c1b, c3, c6, c7, True]; done) | (have e1 : fstN (fun v => decide (yearsS n 0 (up E 1 (ix (E 3 (ix y))) (nI v)) (ix k) 7 (ix y) = E 7 (ix y))) 10 = iA := fstN_eq hhA (by first | assumption | (simp [c1, c1a, c1b, c3, c6, c7]; done)) (by omega); simp only [c1, cond_true]; rw [e1]; try (rw [if_pos (by omega)]); done) | (have e1 : fstN (fun v => decide (yearsS n 0 (up E 1 (ix (E 3 (ix y))) (nI v)) (ix k) 7 (ix y) = E 7 (ix y))) 10 = 10 := fstN_no (fun j hj => hhA j (by omega)); simp only [c1, cond_true]; rw [e1]; simp [True]; done)))⟩
    exact LA (10 + 1) 0 (E 1 (ix (E 3 (ix y)))) As (by omega) (fun j hj => absurd hj (by omega)) (by omega)
  · skip
    refine v_aload_n h pX4_coldFor_0 5 rfl 0 rfl rfl (v_ldc h pX4_coldFor_0 6 wm_104 rfl ?_)
    refine v_callV h pX4_coldFor_0 7 mX4_42 (As := [.int (-1000001)]) (st := []) (kX4_finds _ _ cI cS b E Kp Bf As Q 0 (by decide) (-1000001) (by decide)) v0B v0C (vEmb_rf _ _) 0 rfl rfl rfl rfl rfl rfl rfl (vDet_k ?_)
    show V K (mW cI b (E, Kp, Bf, As, fndS Q 0)) 15 [(0, .ref (b 0)), (1, .int y), (2, .int k)] [.int (-1000001)]
    generalize hS8 : fndS Q 0 = S8
    exact v_iret h pX4_coldFor_0 8 hR hret rfl ((E, Kp, Bf, As, S8)) rfl ⟨vI (by first | (simp [c1, hS8]; done) | (have e1 : fstN (fun v => decide (yearsS n 0 (up E 1 (ix (E 3 (ix y))) (nI v)) (ix k) 7 (ix y) = E 7 (ix y))) 10 = iA := fstN_eq hhA (by first | assumption | (simp [c1]; done)) (by omega); simp only [c1, cond_true]; rw [e1]; try (rw [if_pos (by omega)]); done) | (have e1 : fstN (fun v => decide (yearsS n 0 (up E 1 (ix (E 3 (ix y))) (nI v)) (ix k) 7 (ix y) = E 7 (ix y))) 10 = 10 := fstN_no (fun j hj => hhA j (by omega)); simp only [c1, cond_true]; rw [e1]; simp [hS8]; done)), rfl, rfl, (qR_of (by first | (simp [c1, hS8]; done) | (have e1 : fstN (fun v => decide (yearsS n 0 (up E 1 (ix (E 3 (ix y))) (nI v)) (ix k) 7 (ix y) = E 7 (ix y))) 10 = iA := fstN_eq hhA (by first | assumption | (simp [c1]; done)) (by omega); simp only [c1, cond_true]; rw [e1]; try (rw [if_pos (by omega)]); done) | (have e1 : fstN (fun v => decide (yearsS n 0 (up E 1 (ix (E 3 (ix y))) (nI v)) (ix k) 7 (ix y) = E 7 (ix y))) 10 = 10 := fstN_no (fun j hj => hhA j (by omega)); simp only [c1, cond_true]; rw [e1]; simp [hS8]; done)))⟩
