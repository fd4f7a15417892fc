set_option maxHeartbeats 300000 in
set_option maxRecDepth 100000 in
theorem kX4_lines (l : Launch) (D : va_G) (cI cS : ClassId) (b : Nat → Nat) (E Kp Bf As Q : Nat → Nat → Int32) (n : Nat) (hW : Wf E n) : vDet l D (vT cI cS) yX4_lines cX4_lines 4 none 1 22 (mW cI b) [.ref (b 0)] (E, Kp, Bf, As, Q) (none) ((E, Kp, Bf, As, rowQ Q (lineS (E 5) (Q 5) n))) := by
  refine vMet_of (by decide) rfl ?_
  intro K hl hD hnL hret h hR hEx
  subst hl hD
  show V K (mW cI b (E, Kp, Bf, As, Q)) 0 [(0, .ref (b 0))] []
  have hn8 := hW.1
  refine v_eqw (ws' := mW cI b (E, Kp, Bf, As, rowQ Q (Q 5))) (by rw [rowQ_0]) ?_
  refine v_iconst h pX4_lines_0 0 rfl ki_0 (v_istore_n h pX4_lines_0 1 (lv' := [(1, .int 0), (0, .ref (b 0))]) rfl rfl hnL rfl rfl ?_)
  refine v_lv [1, 0] (lv' := [(0, .ref (b 0)), (1, .int 0)]) rfl ?_
  have LA : ∀ (m iA : Nat), iA ≤ n → (True) → n + 1 ≤ iA + m → V K (mW cI b (E, Kp, Bf, As, rowQ Q (lineS (E 5) (Q 5) iA))) 2 [(0, .ref (b 0)), (1, .int (nI iA))] [] := by
    intro m
    induction m with
    | zero => exact fun iA h1 hh h2 => absurd h2 (by omega)
    | succ m ihA =>
      intro iA hleA hhA hltA
      refine v_iload_n h pX4_lines_0 2 rfl 1 rfl rfl (v_aload_n h pX4_lines_0 3 rfl 0 rfl rfl (v_get h pX4_lines_0 4 fX4_7 0 rfl rfl rfl (v_iconst h pX4_lines_0 5 rfl ki_0 (v_iald h pX4_lines_0 6 0 1 0 rfl rfl rfl rfl rfl (by omega) (v_top (w := .int (E 9 0)) (congrArg Value.int rfl) ?_)))))
      refine v_top (w := .int (nI n)) (congrArg Value.int hW.2.1) ?_
      refine v_ncmp_ge (a := iA) (b := n) (tgt := 70) h pX4_lines_0 7 rfl rfl (by omega) (by omega) (fun c2 => ?_) (fun c2 => ?_)
      · skip
        obtain rfl : n = iA := by omega
        exact v_vret h pX4_lines_1 12 hR hret rfl ((E, Kp, Bf, As, rowQ Q (lineS (E 5) (Q 5) n))) rfl ⟨rfl, rfl⟩
      · skip
        refine v_aload_n h pX4_lines_0 8 rfl 0 rfl rfl (v_iload_n h pX4_lines_0 9 rfl 1 rfl rfl (v_iconst h pX4_lines_0 10 rfl ki_3 ?_))
        refine v_callV h pX4_lines_0 11 mX4_64 (As := [.int (nI iA), .int 3]) (st := []) (kX4_its _ _ cI cS b E Kp Bf As (rowQ Q (lineS (E 5) (Q 5) iA)) iA 3 (by omega) (by omega)) v0B v0C (vEmb_rf _ _) 0 rfl rfl rfl rfl rfl rfl rfl (vDet_k ?_)
        show V K (mW cI b (E, Kp, Bf, As, rowQ Q (lineS (E 5) (Q 5) iA))) 18 [(0, .ref (b 0)), (1, .int (nI iA))] [.int (E 5 iA)]
        refine v_istore_n h pX4_lines_0 12 (lv' := [(2, .int (E 5 iA)), (0, .ref (b 0)), (1, .int (nI iA))]) rfl rfl hnL rfl rfl (v_iload_n h pX4_lines_0 13 rfl 2 rfl rfl (v_istore_n h pX4_lines_0 14 (lv' := [(3, .int (nI iA)), (2, .int (E 5 iA)), (0, .ref (b 0)), (1, .int (nI iA))]) rfl rfl hnL rfl rfl ?_))
        refine v_lv [2, 3, 1, 0] (lv' := [(0, .ref (b 0)), (1, .int (nI iA)), (2, .int (E 5 iA)), (3, .int (nI iA))]) rfl ?_
        have LB : ∀ (k : Nat) (g : Nat → Int32), k ≤ iA → insL g (E 5 iA) k = lineS (E 5) (Q 5) (iA + 1) → V K (mW cI b (E, Kp, Bf, As, rowQ Q g)) 21 [(0, .ref (b 0)), (1, .int (nI iA)), (2, .int (E 5 iA)), (3, .int (nI k))] [] := by
          intro k
          induction k with
          | zero =>
            intro g hk hg
            show V K (mW cI b (E, Kp, Bf, As, rowQ Q g)) 21 [(0, .ref (b 0)), (1, .int (nI iA)), (2, .int (E 5 iA)), (3, .int 0)] []
            refine v_iload_n h pX4_lines_0 15 rfl 3 rfl rfl ?_
            refine v_if_le2 (tgt := 57) h pX4_lines_0 16 rfl rfl (fun c0 => ?_) (fun c0 => absurd c0 (by decide))
            refine v_aload_n h pX4_lines_1 5 rfl 0 rfl rfl (v_get h pX4_lines_1 6 fX4_37 0 rfl rfl rfl (v_iload_n h pX4_lines_1 7 rfl 3 rfl rfl (v_iload_n h pX4_lines_1 8 rfl 2 rfl rfl (v_iast h pX4_lines_1 9 0 10 0 (ws' := mW cI b (E, Kp, Bf, As, up (rowQ Q g) 5 0 (E 5 iA))) rfl rfl rfl rfl rfl (by omega) mW_q5 ?_))))
            refine v_eqw (ws' := mW cI b (E, Kp, Bf, As, rowQ Q (lineS (E 5) (Q 5) (iA + 1)))) (by rw [rowQ_up, show upd g 0 (E 5 iA) = lineS (E 5) (Q 5) (iA + 1) from hg]) ?_
            refine v_iinc h pX4_lines_1 10 (v := nI (iA + 1)) (lv' := [(1, .int (nI (iA + 1))), (0, .ref (b 0)), (2, .int (E 5 iA)), (3, .int 0)]) rfl 1 rfl hnL rfl rfl (nI_1 iA) (v_goto (tgt := 2) h pX4_lines_1 11 rfl rfl (v_lv [1, 0] (lv' := [(0, .ref (b 0)), (1, .int (nI (iA + 1)))]) rfl ?_))
            exact ihA (iA + 1) (by omega) (trivial) (by omega)
          | succ k ihB =>
            intro g hk hg
            refine v_iload_n h pX4_lines_0 15 rfl 3 rfl rfl ?_
            refine v_nif_le (a := k + 1) (tgt := 57) h pX4_lines_0 16 rfl rfl (by omega) (fun c0 => absurd c0 (by omega)) (fun c0 => ?_)
            refine v_aload_n h pX4_lines_0 17 rfl 0 rfl rfl (v_get h pX4_lines_0 18 fX4_37 0 rfl rfl rfl (v_iload_n h pX4_lines_0 19 rfl 3 rfl rfl (v_iconst h pX4_lines_0 20 rfl ki_1 (v_isub h pX4_lines_0 21 rfl (v_iald h pX4_lines_0 22 k 10 0 rfl rfl rfl rfl (nI_pred _) (by omega) ?_)))))
            refine v_top (w := .int (g k)) rfl (v_iload_n h pX4_lines_0 23 rfl 2 rfl rfl ?_)
            refine v_icmp_le2 (tgt := 57) h pX4_lines_0 24 rfl rfl (fun c3 => ?_) (fun c3 => ?_)
            · skip
              refine v_aload_n h pX4_lines_1 5 rfl 0 rfl rfl (v_get h pX4_lines_1 6 fX4_37 0 rfl rfl rfl (v_iload_n h pX4_lines_1 7 rfl 3 rfl rfl (v_iload_n h pX4_lines_1 8 rfl 2 rfl rfl (v_iast h pX4_lines_1 9 (k + 1) 10 0 (ws' := mW cI b (E, Kp, Bf, As, up (rowQ Q g) 5 (k + 1) (E 5 iA))) rfl rfl rfl rfl rfl (by omega) mW_q5 ?_))))
              refine v_eqw (ws' := mW cI b (E, Kp, Bf, As, rowQ Q (lineS (E 5) (Q 5) (iA + 1)))) (by rw [rowQ_up, show upd g (k + 1) (E 5 iA) = lineS (E 5) (Q 5) (iA + 1) from by rw [← hg, insL, if_neg c3]]) ?_
              refine v_iinc h pX4_lines_1 10 (v := nI (iA + 1)) (lv' := [(1, .int (nI (iA + 1))), (0, .ref (b 0)), (2, .int (E 5 iA)), (3, .int (nI (k + 1)))]) rfl 1 rfl hnL rfl rfl (nI_1 iA) (v_goto (tgt := 2) h pX4_lines_1 11 rfl rfl (v_lv [1, 0] (lv' := [(0, .ref (b 0)), (1, .int (nI (iA + 1)))]) rfl ?_))
              exact ihA (iA + 1) (by omega) (trivial) (by omega)
            · skip
              refine v_aload_n h pX4_lines_0 25 rfl 0 rfl rfl (v_get h pX4_lines_0 26 fX4_37 0 rfl rfl rfl (v_iload_n h pX4_lines_0 27 rfl 3 rfl rfl (v_aload_n h pX4_lines_0 28 rfl 0 rfl rfl (v_get h pX4_lines_0 29 fX4_37 0 rfl rfl rfl (v_iload_n h pX4_lines_0 30 rfl 3 rfl rfl ?_)))))
              refine v_iconst h pX4_lines_0 31 rfl ki_1 (v_isub h pX4_lines_1 0 rfl (v_iald h pX4_lines_1 1 k 10 0 rfl rfl rfl rfl (nI_pred _) (by omega) (v_top (w := .int (g k)) rfl (v_iast h pX4_lines_1 2 (k + 1) 10 0 (ws' := mW cI b (E, Kp, Bf, As, up (rowQ Q g) 5 (k + 1) (g k))) rfl rfl rfl rfl rfl (by omega) mW_q5 (v_iinc h pX4_lines_1 3 (v := nI k) (lv' := [(3, .int (nI k)), (0, .ref (b 0)), (1, .int (nI iA)), (2, .int (E 5 iA))]) rfl 3 rfl hnL rfl rfl (nI_mi _) ?_)))))
              refine v_goto (tgt := 21) h pX4_lines_1 4 rfl rfl (v_lv [1, 2, 3, 0] (lv' := [(0, .ref (b 0)), (1, .int (nI iA)), (2, .int (E 5 iA)), (3, .int (nI k))]) rfl (v_eqw (ws' := mW cI b (E, Kp, Bf, As, rowQ Q (upd g (k + 1) (g k)))) (by rw [rowQ_up]) ?_))
              exact ihB (upd g (k + 1) (g k)) (by omega) (by rw [← hg, insL, if_pos c3])
        exact LB iA _ (Nat.le_refl _) rfl
  exact LA (n + 1) 0 (by omega) trivial (by omega)
set_option maxHeartbeats 300000 in
set_option maxRecDepth 100000 in
theorem kX4_string (l : Launch) (D : va_G) (cI cS : ClassId) (b : Nat → Nat) (E Kp Bf As Q : Nat → Nat → Int32) (n : Nat) (hW : Wf E n) (yb : Nat) (hY : bd (E 9 2) yb) (hyb : yb ≤ 99000) (hQ : WfQ Q) (v : Int32) : vMet l D (vT cI cS) yX4_string cX4_string 5 (some .int) 2 45 (mW cI b) v0 [.ref (b 0), .int v] (E, Kp, Bf, As, Q) (mPost (some (.int (cond (inB v 0 999) (strM (srt E n) v n) ((-1000001))))) (E) (Kp) (cond (inB v 0 999) (Q) (fndS Q 0))) := by
  refine vMet_of (by decide) rfl ?_
  intro K hl hD hnL hret h hR hEx
  subst hl hD
  show V K (mW cI b (E, Kp, Bf, As, Q)) 0 [(0, .ref (b 0)), (1, .int v)] []
  have hn8 := hW.1
  refine v_iload_n h pX4_string_0 0 rfl 1 rfl rfl (v_i2l h pX4_string_0 1 rfl (v_lconst (v := (nI 0).toInt64) h pX4_string_0 2 rfl kl_0 (v_ldc2 h pX4_string_0 3 wm_102 rfl (v_top (w := .long (nI 999).toInt64) (kL 999 _ (by decide)) ?_))))
  refine v_callS h pX4_string_0 4 mX4_50 (As := [.long v.toInt64, .long ((nI 0).toInt64), .long ((nI 999).toInt64)]) (st := []) (kX4_isIn _ _ cI cS v 0 999) v0B v0C (vEmb_u _) rfl rfl rfl rfl rfl (vDet_k ?_)
  show V K (mW cI b (E, Kp, Bf, As, Q)) 9 [(0, .ref (b 0)), (1, .int v)] [.int (bI (inB v 0 999))]
  refine v_bif_ne (tgt := 19) h pX4_string_0 5 rfl rfl (fun c1 => ?_) (fun c1 => ?_)
  · skip
    refine v_aload_n h pX4_string_0 10 rfl 0 rfl rfl ?_
    refine v_callV h pX4_string_0 11 mX4_163 (As := []) (st := []) (kX4_lines _ _ cI cS b E Kp Bf As Q n hW) v0B v0C (vEmb_rf _ _) 0 rfl rfl rfl rfl rfl rfl rfl (vDet_k ?_)
    show V K (mW cI b (E, Kp, Bf, As, rowQ Q (lineS (E 5) (Q 5) n))) 23 [(0, .ref (b 0)), (1, .int v)] []
    generalize hS2 : rowQ Q (lineS (E 5) (Q 5) n) = S2
    refine v_iconst h pX4_string_0 12 rfl ki_0 (v_istore_n h pX4_string_0 13 (lv' := [(2, .int 0), (0, .ref (b 0)), (1, .int v)]) rfl rfl hnL rfl rfl (v_iconst h pX4_string_0 14 rfl ki_0 (v_istore_n h pX4_string_0 15 (lv' := [(3, .int 0), (2, .int 0), (0, .ref (b 0)), (1, .int v)]) rfl rfl hnL rfl rfl (v_iconst h pX4_string_0 16 rfl ki_0 (v_istore h pX4_string_0 17 (lv' := [(4, .int 0), (3, .int 0), (2, .int 0), (0, .ref (b 0)), (1, .int v)]) rfl hnL rfl rfl ?_)))))
    refine v_lv [3, 4, 2, 1, 0] (lv' := [(0, .ref (b 0)), (1, .int v), (2, .int 0), (3, .int 0), (4, .int 0)]) rfl ?_
    have LA : ∀ (m iA : Nat), iA ≤ n → (True) → n + 1 ≤ iA + m → V K (mW cI b (E, Kp, Bf, As, S2)) 30 [(0, .ref (b 0)), (1, .int v), (2, .int (strM (srt E n) v iA)), (3, .int (strN (srt E n) v iA)), (4, .int (nI iA))] [] := by
      intro m
      induction m with
      | zero => exact fun iA h1 hh h2 => absurd h2 (by omega)
      | succ m ihA =>
        intro iA hleA hhA hltA
        refine v_iload h pX4_string_0 18 rfl 4 rfl (v_aload_n h pX4_string_0 19 rfl 0 rfl rfl (v_get h pX4_string_0 20 fX4_7 0 rfl rfl rfl (v_iconst h pX4_string_0 21 rfl ki_0 (v_iald h pX4_string_0 22 0 1 0 rfl rfl rfl rfl rfl (by omega) (v_top (w := .int (E 9 0)) (congrArg Value.int rfl) ?_)))))
        refine v_top (w := .int (nI n)) (congrArg Value.int hW.2.1) ?_
        refine v_ncmp_ge (a := iA) (b := n) (tgt := 87) h pX4_string_0 23 rfl rfl (by omega) (by omega) (fun c4 => ?_) (fun c4 => ?_)
        · skip
          obtain rfl : n = iA := by omega
          refine v_iload_n h pX4_string_1 19 rfl 2 rfl rfl ?_
          exact v_iret h pX4_string_1 20 hR hret rfl ((E, Kp, Bf, As, S2)) rfl ⟨vI (by simp [c1, c4]), rfl, rfl, (by first | (refine qR_of ?_; simp [c1, c4, hS2]; done) | (simp only [c1, c4, cond_true]; apply qR_row; assumption) | apply qR_row; assumption)⟩
        · skip
          refine v_iload h pX4_string_0 24 rfl 4 rfl ?_
          refine v_nif_le (a := iA) (tgt := 73) h pX4_string_0 25 rfl rfl (by omega) (fun c5 => ?_) (fun c5 => ?_)
          · skip
            refine v_iconst h pX4_string_1 11 rfl ki_1 (v_istore_n h pX4_string_1 12 (lv' := [(3, .int 1), (0, .ref (b 0)), (1, .int v), (2, .int (strM (srt E n) v iA)), (4, .int (nI iA))]) rfl rfl hnL rfl rfl (v_iload_n h pX4_string_1 13 rfl 3 rfl rfl (v_iload_n h pX4_string_1 14 rfl 0 rfl rfl ?_)))
            refine v_callS h pX4_string_1 15 mX4_82 (As := [.int (strM (srt E n) v iA), .int 1]) (st := []) (kX4_greatest _ _ cI cS (strM (srt E n) v iA) 1) v0B v0C (vEmb_u _) rfl rfl rfl rfl rfl (vDet_k ?_)
            show V K (mW cI b (E, Kp, Bf, As, S2)) 80 [(3, .int 1), (0, .ref (b 0)), (1, .int v), (2, .int (strM (srt E n) v iA)), (4, .int (nI iA))] [.int (mx (strM (srt E n) v iA) 1)]
            refine v_istore_n h pX4_string_1 16 (lv' := [(2, .int (mx (strM (srt E n) v iA) 1)), (3, .int 1), (0, .ref (b 0)), (1, .int v), (4, .int (nI iA))]) rfl rfl hnL rfl rfl (v_iinc h pX4_string_1 17 (v := nI (iA + 1)) (lv' := [(4, .int (nI (iA + 1))), (2, .int (mx (strM (srt E n) v iA) 1)), (3, .int 1), (0, .ref (b 0)), (1, .int v)]) rfl 4 rfl hnL rfl rfl (nI_1 iA) (v_goto (tgt := 30) h pX4_string_1 18 rfl rfl (v_lv [3, 4, 1, 2, 0] (lv' := [(0, .ref (b 0)), (1, .int v), (2, .int (mx (strM (srt E n) v iA) 1)), (3, .int 1), (4, .int (nI (iA + 1)))]) rfl (v_eql (congrArg (fun z : Int32 => ([(0, .ref (b 0)), (1, .int v), (2, .int z), (3, .int 1), (4, .int (nI (iA + 1)))] : List (Nat × Value))) (by first | rfl | (simp [strN, c1, c4, c5, -Int32.not_lt]; done) | (rw [strM]; simp [strN, c1, c4, c5, -Int32.not_lt]; done) : mx (strM (srt E n) v iA) 1 = strM (srt E n) v (iA + 1))) (v_eql (congrArg (fun z : Int32 => ([(0, .ref (b 0)), (1, .int v), (2, .int (strM (srt E n) v (iA + 1))), (3, .int z), (4, .int (nI (iA + 1)))] : List (Nat × Value))) (by first | rfl | (simp [strN, c1, c4, c5, -Int32.not_lt]; done) | (rw [strM]; simp [strN, c1, c4, c5, -Int32.not_lt]; done) : (1 : Int32) = strN (srt E n) v (iA + 1))) ?_)))))
            exact ihA (iA + 1) (by omega) (trivial) (by omega)
          · skip
            refine v_aload_n h pX4_string_0 26 rfl 0 rfl rfl (v_get h pX4_string_0 27 fX4_37 0 rfl rfl rfl (v_iload h pX4_string_0 28 rfl 4 rfl (v_iald h pX4_string_0 29 iA 10 0 rfl rfl rfl rfl rfl (by omega) (v_top (w := .int (srt E n iA)) (congrArg Value.int (show S2 5 iA = _ from by rw [← hS2]; exact lineS_c _ (by omega))) (v_aload_n h pX4_string_0 30 rfl 0 rfl rfl ?_)))))
            refine v_get h pX4_string_0 31 fX4_37 0 rfl rfl rfl (v_iload h pX4_string_1 0 rfl 4 rfl (v_iconst h pX4_string_1 1 rfl ki_1 (v_isub h pX4_string_1 2 rfl (v_iald h pX4_string_1 3 (iA - 1) 10 0 rfl rfl rfl rfl (nI_p1 (by omega)) (by omega) (v_top (w := .int (srt E n (iA - 1))) (congrArg Value.int (show S2 5 (iA - 1) = _ from by rw [← hS2]; exact lineS_c _ (by omega))) ?_)))))
            refine v_isub h pX4_string_1 4 rfl (v_iload_n h pX4_string_1 5 rfl 1 rfl rfl ?_)
            refine v_icmp_gt (tgt := 73) h pX4_string_1 6 rfl rfl (fun c6 => ?_) (fun c6 => ?_)
            · skip
              refine v_iconst h pX4_string_1 11 rfl ki_1 (v_istore_n h pX4_string_1 12 (lv' := [(3, .int 1), (0, .ref (b 0)), (1, .int v), (2, .int (strM (srt E n) v iA)), (4, .int (nI iA))]) rfl rfl hnL rfl rfl (v_iload_n h pX4_string_1 13 rfl 3 rfl rfl (v_iload_n h pX4_string_1 14 rfl 0 rfl rfl ?_)))
              refine v_callS h pX4_string_1 15 mX4_82 (As := [.int (strM (srt E n) v iA), .int 1]) (st := []) (kX4_greatest _ _ cI cS (strM (srt E n) v iA) 1) v0B v0C (vEmb_u _) rfl rfl rfl rfl rfl (vDet_k ?_)
              show V K (mW cI b (E, Kp, Bf, As, S2)) 80 [(3, .int 1), (0, .ref (b 0)), (1, .int v), (2, .int (strM (srt E n) v iA)), (4, .int (nI iA))] [.int (mx (strM (srt E n) v iA) 1)]
              refine v_istore_n h pX4_string_1 16 (lv' := [(2, .int (mx (strM (srt E n) v iA) 1)), (3, .int 1), (0, .ref (b 0)), (1, .int v), (4, .int (nI iA))]) rfl rfl hnL rfl rfl (v_iinc h pX4_string_1 17 (v := nI (iA + 1)) (lv' := [(4, .int (nI (iA + 1))), (2, .int (mx (strM (srt E n) v iA) 1)), (3, .int 1), (0, .ref (b 0)), (1, .int v)]) rfl 4 rfl hnL rfl rfl (nI_1 iA) (v_goto (tgt := 30) h pX4_string_1 18 rfl rfl (v_lv [3, 4, 1, 2, 0] (lv' := [(0, .ref (b 0)), (1, .int v), (2, .int (mx (strM (srt E n) v iA) 1)), (3, .int 1), (4, .int (nI (iA + 1)))]) rfl (v_eql (congrArg (fun z : Int32 => ([(0, .ref (b 0)), (1, .int v), (2, .int z), (3, .int 1), (4, .int (nI (iA + 1)))] : List (Nat × Value))) (by first | rfl | (simp [strN, c1, c4, c5, c6, -Int32.not_lt]; done) | (rw [strM]; simp [strN, c1, c4, c5, c6, -Int32.not_lt]; done) : mx (strM (srt E n) v iA) 1 = strM (srt E n) v (iA + 1))) (v_eql (congrArg (fun z : Int32 => ([(0, .ref (b 0)), (1, .int v), (2, .int (strM (srt E n) v (iA + 1))), (3, .int z), (4, .int (nI (iA + 1)))] : List (Nat × Value))) (by first | rfl | (simp [strN, c1, c4, c5, c6, -Int32.not_lt]; done) | (rw [strM]; simp [strN, c1, c4, c5, c6, -Int32.not_lt]; done) : (1 : Int32) = strN (srt E n) v (iA + 1))) ?_)))))
              exact ihA (iA + 1) (by omega) (trivial) (by omega)
            · skip
              refine v_iload_n h pX4_string_1 7 rfl 3 rfl rfl (v_iconst h pX4_string_1 8 rfl ki_1 (v_iadd h pX4_string_1 9 rfl (v_goto (tgt := 74) h pX4_string_1 10 rfl rfl (v_istore_n h pX4_string_1 12 (lv' := [(3, .int ((strN (srt E n) v iA) + 1)), (0, .ref (b 0)), (1, .int v), (2, .int (strM (srt E n) v iA)), (4, .int (nI iA))]) rfl rfl hnL rfl rfl (v_iload_n h pX4_string_1 13 rfl 3 rfl rfl ?_)))))
              refine v_iload_n h pX4_string_1 14 rfl 0 rfl rfl ?_
              refine v_callS h pX4_string_1 15 mX4_82 (As := [.int (strM (srt E n) v iA), .int ((strN (srt E n) v iA) + 1)]) (st := []) (kX4_greatest _ _ cI cS (strM (srt E n) v iA) ((strN (srt E n) v iA) + 1)) v0B v0C (vEmb_u _) rfl rfl rfl rfl rfl (vDet_k ?_)
              show V K (mW cI b (E, Kp, Bf, As, S2)) 80 [(3, .int ((strN (srt E n) v iA) + 1)), (0, .ref (b 0)), (1, .int v), (2, .int (strM (srt E n) v iA)), (4, .int (nI iA))] [.int (mx (strM (srt E n) v iA) ((strN (srt E n) v iA) + 1))]
              refine v_istore_n h pX4_string_1 16 (lv' := [(2, .int (mx (strM (srt E n) v iA) ((strN (srt E n) v iA) + 1))), (3, .int ((strN (srt E n) v iA) + 1)), (0, .ref (b 0)), (1, .int v), (4, .int (nI iA))]) rfl rfl hnL rfl rfl (v_iinc h pX4_string_1 17 (v := nI (iA + 1)) (lv' := [(4, .int (nI (iA + 1))), (2, .int (mx (strM (srt E n) v iA) ((strN (srt E n) v iA) + 1))), (3, .int ((strN (srt E n) v iA) + 1)), (0, .ref (b 0)), (1, .int v)]) rfl 4 rfl hnL rfl rfl (nI_1 iA) (v_goto (tgt := 30) h pX4_string_1 18 rfl rfl (v_lv [3, 4, 1, 2, 0] (lv' := [(0, .ref (b 0)), (1, .int v), (2, .int (mx (strM (srt E n) v iA) ((strN (srt E n) v iA) + 1))), (3, .int ((strN (srt E n) v iA) + 1)), (4, .int (nI (iA + 1)))]) rfl (v_eql (congrArg (fun z : Int32 => ([(0, .ref (b 0)), (1, .int v), (2, .int z), (3, .int ((strN (srt E n) v iA) + 1)), (4, .int (nI (iA + 1)))] : List (Nat × Value))) (by first | rfl | (simp [strN, c1, c4, c5, c6, -Int32.not_lt]; done) | (rw [strM]; simp [strN, c1, c4, c5, c6, -Int32.not_lt]; done) : mx (strM (srt E n) v iA) ((strN (srt E n) v iA) + 1) = strM (srt E n) v (iA + 1))) (v_eql (congrArg (fun z : Int32 => ([(0, .ref (b 0)), (1, .int v), (2, .int (strM (srt E n) v (iA + 1))), (3, .int z), (4, .int (nI (iA + 1)))] : List (Nat × Value))) (by first | rfl | (simp [strN, c1, c4, c5, c6, -Int32.not_lt]; done) | (rw [strM]; simp [strN, c1, c4, c5, c6, -Int32.not_lt]; done) : (strN (srt E n) v iA) + 1 = strN (srt E n) v (iA + 1))) ?_)))))
              exact ihA (iA + 1) (by omega) (trivial) (by omega)
    exact LA (n + 1) 0 (by omega) trivial (by omega)
  · skip
    refine v_aload_n h pX4_string_0 6 rfl 0 rfl rfl (v_ldc h pX4_string_0 7 wm_104 rfl ?_)
    refine v_callV h pX4_string_0 8 mX4_42 (As := [.int (-1000001)]) (st := []) (kX4_finds _ _ cI cS b E Kp Bf As Q 0 (by decide) (-1000001) (by decide)) v0B v0C (vEmb_rf _ _) 0 rfl rfl rfl rfl rfl rfl rfl (vDet_k ?_)
    show V K (mW cI b (E, Kp, Bf, As, fndS Q 0)) 18 [(0, .ref (b 0)), (1, .int v)] [.int (-1000001)]
    generalize hS7 : fndS Q 0 = S7
    exact v_iret h pX4_string_0 9 hR hret rfl ((E, Kp, Bf, As, S7)) rfl ⟨vI (by simp [c1]), rfl, rfl, (by first | (refine qR_of ?_; simp [c1, hS7]; done) | (simp only [c1, cond_true]; apply qR_row; assumption) | apply qR_row; assumption)⟩
set_option maxHeartbeats 300000 in
set_option maxRecDepth 100000 in
theorem kX4_match (l : Launch) (D : va_G) (cI cS : ClassId) (b : Nat → Nat) (E Kp Bf As Q : Nat → Nat → Int32) (n : Nat) (hW : Wf E n) (yb : Nat) (hY : bd (E 9 2) yb) (hyb : yb ≤ 99000) (hQ : WfQ Q)  : vMet l D (vT cI cS) yX4_match cX4_match 3 (some .int) 2 45 (mW cI b) v0 [.ref (b 0)] (E, Kp, Bf, As, Q) (mPost (some (.int (mxS (srt E n) (n - 1)))) (E) (Kp) (Q)) := by
  refine vMet_of (by decide) rfl ?_
  intro K hl hD hnL hret h hR hEx
  subst hl hD
  show V K (mW cI b (E, Kp, Bf, As, Q)) 0 [(0, .ref (b 0))] []
  have hn8 := hW.1
  refine v_aload_n h pX4_match_0 0 rfl 0 rfl rfl ?_
  refine v_callV h pX4_match_0 1 mX4_163 (As := []) (st := []) (kX4_lines _ _ cI cS b E Kp Bf As Q n hW) v0B v0C (vEmb_rf _ _) 0 rfl rfl rfl rfl rfl rfl rfl (vDet_k ?_)
  show V K (mW cI b (E, Kp, Bf, As, rowQ Q (lineS (E 5) (Q 5) n))) 4 [(0, .ref (b 0))] []
  generalize hS1 : rowQ Q (lineS (E 5) (Q 5) n) = S1
  refine v_iconst h pX4_match_0 2 rfl ki_0 (v_istore_n h pX4_match_0 3 (lv' := [(1, .int 0), (0, .ref (b 0))]) rfl rfl hnL rfl rfl (v_iconst h pX4_match_0 4 rfl ki_1 (v_istore_n h pX4_match_0 5 (lv' := [(2, .int 1), (1, .int 0), (0, .ref (b 0))]) rfl rfl hnL rfl rfl ?_)))
  refine v_lv [2, 1, 0] (lv' := [(0, .ref (b 0)), (1, .int 0), (2, .int 1)]) rfl ?_
  have LA : ∀ (m iA : Nat), iA ≤ (n - 1) → (True) → (n - 1) + 1 ≤ iA + m → V K (mW cI b (E, Kp, Bf, As, S1)) 8 [(0, .ref (b 0)), (1, .int (mxS (srt E n) iA)), (2, .int (nI (iA + 1)))] [] := by
    intro m
    induction m with
    | zero => exact fun iA h1 hh h2 => absurd h2 (by omega)
    | succ m ihA =>
      intro iA hleA hhA hltA
      refine v_iload_n h pX4_match_0 6 rfl 2 rfl rfl (v_aload_n h pX4_match_0 7 rfl 0 rfl rfl (v_get h pX4_match_0 8 fX4_7 0 rfl rfl rfl (v_iconst h pX4_match_0 9 rfl ki_0 (v_iald h pX4_match_0 10 0 1 0 rfl rfl rfl rfl rfl (by omega) (v_top (w := .int (E 9 0)) (congrArg Value.int rfl) ?_)))))
      refine v_top (w := .int (nI n)) (congrArg Value.int hW.2.1) ?_
      refine v_ncmp_ge (a := iA + 1) (b := n) (tgt := 44) h pX4_match_0 11 rfl rfl (by omega) (by omega) (fun c3 => ?_) (fun c3 => ?_)
      · skip
        obtain rfl : (n - 1) = iA := by omega
        refine v_iload_n h pX4_match_0 28 rfl 1 rfl rfl ?_
        exact v_iret h pX4_match_0 29 hR hret rfl ((E, Kp, Bf, As, S1)) rfl ⟨vI (by simp [c3]), rfl, rfl, (by first | (refine qR_of ?_; simp [c3, hS1]; done) | (simp only [c3, cond_true]; apply qR_row; assumption) | apply qR_row; assumption)⟩
      · skip
        refine v_iload_n h pX4_match_0 12 rfl 1 rfl rfl (v_aload_n h pX4_match_0 13 rfl 0 rfl rfl (v_get h pX4_match_0 14 fX4_37 0 rfl rfl rfl (v_iload_n h pX4_match_0 15 rfl 2 rfl rfl (v_iald h pX4_match_0 16 (iA + 1) 10 0 rfl rfl rfl rfl rfl (by omega) (v_top (w := .int (srt E n (iA + 1))) (congrArg Value.int (show S1 5 (iA + 1) = _ from by rw [← hS1]; exact lineS_c _ (by omega))) ?_)))))
        refine v_aload_n h pX4_match_0 17 rfl 0 rfl rfl (v_get h pX4_match_0 18 fX4_37 0 rfl rfl rfl (v_iload_n h pX4_match_0 19 rfl 2 rfl rfl (v_iconst h pX4_match_0 20 rfl ki_1 (v_isub h pX4_match_0 21 rfl (v_iald h pX4_match_0 22 iA 10 0 rfl rfl rfl rfl (nI_pred _) (by omega) ?_)))))
        refine v_top (w := .int (srt E n iA)) (congrArg Value.int (show S1 5 iA = _ from by rw [← hS1]; exact lineS_c _ (by omega))) (v_isub h pX4_match_0 23 rfl ?_)
        refine v_callS h pX4_match_0 24 mX4_82 (As := [.int (mxS (srt E n) iA), .int ((srt E n (iA + 1)) - (srt E n iA))]) (st := []) (kX4_greatest _ _ cI cS (mxS (srt E n) iA) ((srt E n (iA + 1)) - (srt E n iA))) v0B v0C (vEmb_u _) rfl rfl rfl rfl rfl (vDet_k ?_)
        show V K (mW cI b (E, Kp, Bf, As, S1)) 37 [(0, .ref (b 0)), (1, .int (mxS (srt E n) iA)), (2, .int (nI (iA + 1)))] [.int (mx (mxS (srt E n) iA) ((srt E n (iA + 1)) - (srt E n iA)))]
        refine v_istore_n h pX4_match_0 25 (lv' := [(1, .int (mx (mxS (srt E n) iA) ((srt E n (iA + 1)) - (srt E n iA)))), (0, .ref (b 0)), (2, .int (nI (iA + 1)))]) rfl rfl hnL rfl rfl (v_iinc h pX4_match_0 26 (v := nI (iA + 1 + 1)) (lv' := [(2, .int (nI (iA + 1 + 1))), (1, .int (mx (mxS (srt E n) iA) ((srt E n (iA + 1)) - (srt E n iA)))), (0, .ref (b 0))]) rfl 2 rfl hnL rfl rfl (nI_1 (iA + 1)) (v_goto (tgt := 8) h pX4_match_0 27 rfl rfl (v_lv [2, 1, 0] (lv' := [(0, .ref (b 0)), (1, .int (mx (mxS (srt E n) iA) ((srt E n (iA + 1)) - (srt E n iA)))), (2, .int (nI (iA + 1 + 1)))]) rfl (v_eql (congrArg (fun z : Int32 => ([(0, .ref (b 0)), (1, .int z), (2, .int (nI (iA + 1 + 1)))] : List (Nat × Value))) (by first | rfl | (simp [mxS, c3]; done) : mx (mxS (srt E n) iA) ((srt E n (iA + 1)) - (srt E n iA)) = mxS (srt E n) (iA + 1))) ?_))))
        exact ihA (iA + 1) (by omega) (trivial) (by omega)
  exact LA ((n - 1) + 1) 0 (by omega) trivial (by omega)
set_option maxHeartbeats 300000 in
set_option maxRecDepth 100000 in
theorem kX4_pairs (l : Launch) (D : va_G) (cI cS : ClassId) (b : Nat → Nat) (E Kp Bf As Q : Nat → Nat → Int32) (n : Nat) (hW : Wf E n) (yb : Nat) (hY : bd (E 9 2) yb) (hyb : yb ≤ 99000) (hQ : WfQ Q) (v : Int32) : vMet l D (vT cI cS) yX4_pairs cX4_pairs 5 (some .int) 2 45 (mW cI b) v0 [.ref (b 0), .int v] (E, Kp, Bf, As, Q) (mPost (some (.int (cond (inB v 0 999) (nI (prF (srt E n) v n (n + 2) 1)) ((-1000001))))) (E) (Kp) (cond (inB v 0 999) (Q) (fndS Q 0))) := by
  refine vMet_of (by decide) rfl ?_
  intro K hl hD hnL hret h hR hEx
  subst hl hD
  show V K (mW cI b (E, Kp, Bf, As, Q)) 0 [(0, .ref (b 0)), (1, .int v)] []
  have hn8 := hW.1
  refine v_iload_n h pX4_pairs_0 0 rfl 1 rfl rfl (v_i2l h pX4_pairs_0 1 rfl (v_lconst (v := (nI 0).toInt64) h pX4_pairs_0 2 rfl kl_0 (v_ldc2 h pX4_pairs_0 3 wm_102 rfl (v_top (w := .long (nI 999).toInt64) (kL 999 _ (by decide)) ?_))))
  refine v_callS h pX4_pairs_0 4 mX4_50 (As := [.long v.toInt64, .long ((nI 0).toInt64), .long ((nI 999).toInt64)]) (st := []) (kX4_isIn _ _ cI cS v 0 999) v0B v0C (vEmb_u _) rfl rfl rfl rfl rfl (vDet_k ?_)
  show V K (mW cI b (E, Kp, Bf, As, Q)) 9 [(0, .ref (b 0)), (1, .int v)] [.int (bI (inB v 0 999))]
  refine v_bif_ne (tgt := 19) h pX4_pairs_0 5 rfl rfl (fun c1 => ?_) (fun c1 => ?_)
  · skip
    refine v_aload_n h pX4_pairs_0 10 rfl 0 rfl rfl ?_
    refine v_callV h pX4_pairs_0 11 mX4_163 (As := []) (st := []) (kX4_lines _ _ cI cS b E Kp Bf As Q n hW) v0B v0C (vEmb_rf _ _) 0 rfl rfl rfl rfl rfl rfl rfl (vDet_k ?_)
    show V K (mW cI b (E, Kp, Bf, As, rowQ Q (lineS (E 5) (Q 5) n))) 23 [(0, .ref (b 0)), (1, .int v)] []
    generalize hS2 : rowQ Q (lineS (E 5) (Q 5) n) = S2
    refine v_iconst h pX4_pairs_0 12 rfl ki_0 (v_istore_n h pX4_pairs_0 13 (lv' := [(2, .int 0), (0, .ref (b 0)), (1, .int v)]) rfl rfl hnL rfl rfl (v_iconst h pX4_pairs_0 14 rfl ki_1 (v_istore_n h pX4_pairs_0 15 (lv' := [(3, .int 1), (2, .int 0), (0, .ref (b 0)), (1, .int v)]) rfl rfl hnL rfl rfl ?_)))
    refine v_lv [2, 3, 1, 0] (lv' := [(0, .ref (b 0)), (1, .int v), (2, .int 0), (3, .int 1)]) rfl ?_
    have LA : ∀ (m c k : Nat), n + 3 ≤ k + m → 0 < k → k ≤ n + 1 → c ≤ k → c + prF (srt E n) v n m k = prF (srt E n) v n (n + 2) 1 → V K (mW cI b (E, Kp, Bf, As, S2)) 27 [(0, .ref (b 0)), (1, .int v), (2, .int (nI c)), (3, .int (nI k))] [] := by
      intro m
      induction m with
      | zero => exact fun c k h1 h2 h3 h4 h5 => absurd h1 (by omega)
      | succ m ihA =>
        intro c k h1 h2 h3 h4 h5
        refine v_iload_n h pX4_pairs_0 16 rfl 3 rfl rfl (v_aload_n h pX4_pairs_0 17 rfl 0 rfl rfl (v_get h pX4_pairs_0 18 fX4_7 0 rfl rfl rfl (v_iconst h pX4_pairs_0 19 rfl ki_0 (v_iald h pX4_pairs_0 20 0 1 0 rfl rfl rfl rfl rfl (by omega) (v_top (w := .int (E 9 0)) (congrArg Value.int rfl) ?_)))))
        refine v_top (w := .int (nI n)) (congrArg Value.int hW.2.1) ?_
        refine v_ncmp_ge (a := k) (b := n) (tgt := 92) h pX4_pairs_0 21 rfl rfl (by omega) (by omega) (fun c3 => ?_) (fun c3 => ?_)
        · skip
          refine v_iload_n h pX4_pairs_1 24 rfl 2 rfl rfl ?_
          exact v_iret h pX4_pairs_1 25 hR hret rfl ((E, Kp, Bf, As, S2)) rfl ⟨vI (by first | (simp [c1, c3]; done) | (simp only [c1, c3, cond_true]; have e := prF_0 (g := srt E n) (v := v) (n := n) (m := m) (k := k) (by omega); rw [← h5, e]; rfl)), rfl, rfl, (by first | (refine qR_of ?_; simp [c1, c3, hS2]; done) | (simp only [c1, c3, cond_true]; apply qR_row; assumption) | apply qR_row; assumption)⟩
        · skip
          refine v_aload_n h pX4_pairs_0 22 rfl 0 rfl rfl (v_get h pX4_pairs_0 23 fX4_37 0 rfl rfl rfl (v_iload_n h pX4_pairs_0 24 rfl 3 rfl rfl (v_iald h pX4_pairs_0 25 k 10 0 rfl rfl rfl rfl rfl (by omega) (v_top (w := .int (srt E n k)) (congrArg Value.int (show S2 5 k = _ from by rw [← hS2]; exact lineS_c _ (by omega))) (v_aload_n h pX4_pairs_0 26 rfl 0 rfl rfl ?_)))))
          refine v_get h pX4_pairs_0 27 fX4_37 0 rfl rfl rfl (v_iload_n h pX4_pairs_0 28 rfl 3 rfl rfl (v_iconst h pX4_pairs_0 29 rfl ki_1 (v_isub h pX4_pairs_0 30 rfl (v_iald h pX4_pairs_0 31 (k - 1) 10 0 rfl rfl rfl rfl (nI_p1 (by omega)) (by omega) (v_top (w := .int (srt E n (k - 1))) (congrArg Value.int (show S2 5 (k - 1) = _ from by rw [← hS2]; exact lineS_c _ (by omega))) ?_)))))
          refine v_isub h pX4_pairs_1 0 rfl (v_iload_n h pX4_pairs_1 1 rfl 1 rfl rfl ?_)
          refine v_icmp_gt (tgt := 60) h pX4_pairs_1 2 rfl rfl (fun c4 => ?_) (fun c4 => ?_)
          · skip
            refine v_iconst h pX4_pairs_1 5 rfl ki_0 (v_istore h pX4_pairs_1 6 (lv' := [(4, .int 0), (0, .ref (b 0)), (1, .int v), (2, .int (nI c)), (3, .int (nI k))]) rfl hnL rfl rfl (v_iload_n h pX4_pairs_1 7 rfl 3 rfl rfl (v_iload h pX4_pairs_1 8 rfl 0 rfl ?_)))
            refine v_if_eq (tgt := 73) h pX4_pairs_1 9 rfl rfl (fun c5 => ?_) (fun c5 => absurd c5 (by decide))
            refine v_iconst h pX4_pairs_1 12 rfl ki_0 (v_iaddn h pX4_pairs_1 13 c 0 rfl (v_istore_n h pX4_pairs_1 14 (lv' := [(2, .int (nI (c + 0))), (4, .int 0), (0, .ref (b 0)), (1, .int v), (3, .int (nI k))]) rfl rfl hnL rfl rfl (v_iload_n h pX4_pairs_1 15 rfl 4 rfl rfl (v_iload h pX4_pairs_1 16 rfl 1 rfl ?_))))
            refine v_if_eq (tgt := 86) h pX4_pairs_1 17 rfl rfl (fun c6 => ?_) (fun c6 => absurd c6 (by decide))
            refine v_iconst h pX4_pairs_1 20 rfl ki_1 (v_iaddn h pX4_pairs_1 21 k 1 rfl (v_istore_n h pX4_pairs_1 22 (lv' := [(3, .int (nI (k + 1))), (2, .int (nI (c + 0))), (4, .int 0), (0, .ref (b 0)), (1, .int v)]) rfl rfl hnL rfl rfl (v_goto (tgt := 27) h pX4_pairs_1 23 rfl rfl (v_lv [3, 4, 1, 0] (lv' := [(0, .ref (b 0)), (1, .int v), (2, .int (nI (c + 0))), (3, .int (nI (k + 1)))]) rfl ?_))))
            exact ihA (c + 0) (k + 1) (by omega) (by omega) (by omega) (by omega) (by first | (have e := prF_1 (m := m) c3 c4; omega) | (have e := prF_2 (m := m) c3 c4; omega))
          · skip
            refine v_iconst h pX4_pairs_1 3 rfl ki_1 (v_goto (tgt := 61) h pX4_pairs_1 4 rfl rfl (v_istore h pX4_pairs_1 6 (lv' := [(4, .int 1), (0, .ref (b 0)), (1, .int v), (2, .int (nI c)), (3, .int (nI k))]) rfl hnL rfl rfl (v_iload_n h pX4_pairs_1 7 rfl 3 rfl rfl (v_iload h pX4_pairs_1 8 rfl 0 rfl ?_))))
            refine v_if_eq (tgt := 73) h pX4_pairs_1 9 rfl rfl (fun c7 => absurd c7 (by decide)) (fun c7 => ?_)
            refine v_iconst h pX4_pairs_1 10 rfl ki_1 (v_goto (tgt := 74) h pX4_pairs_1 11 rfl rfl (v_iaddn h pX4_pairs_1 13 c 1 rfl (v_istore_n h pX4_pairs_1 14 (lv' := [(2, .int (nI (c + 1))), (4, .int 1), (0, .ref (b 0)), (1, .int v), (3, .int (nI k))]) rfl rfl hnL rfl rfl (v_iload_n h pX4_pairs_1 15 rfl 4 rfl rfl (v_iload h pX4_pairs_1 16 rfl 1 rfl ?_)))))
            refine v_if_eq (tgt := 86) h pX4_pairs_1 17 rfl rfl (fun c8 => absurd c8 (by decide)) (fun c8 => ?_)
            refine v_iconst h pX4_pairs_1 18 rfl ki_2 (v_goto (tgt := 87) h pX4_pairs_1 19 rfl rfl (v_iaddn h pX4_pairs_1 21 k 2 rfl (v_istore_n h pX4_pairs_1 22 (lv' := [(3, .int (nI (k + 2))), (2, .int (nI (c + 1))), (4, .int 1), (0, .ref (b 0)), (1, .int v)]) rfl rfl hnL rfl rfl (v_goto (tgt := 27) h pX4_pairs_1 23 rfl rfl (v_lv [3, 4, 1, 0] (lv' := [(0, .ref (b 0)), (1, .int v), (2, .int (nI (c + 1))), (3, .int (nI (k + 2)))]) rfl ?_)))))
            exact ihA (c + 1) (k + 2) (by omega) (by omega) (by omega) (by omega) (by first | (have e := prF_1 (m := m) c3 c4; omega) | (have e := prF_2 (m := m) c3 c4; omega))
    exact LA (n + 2) 0 1 (by omega) (by omega) (by omega) (by omega) (by omega)
  · skip
    refine v_aload_n h pX4_pairs_0 6 rfl 0 rfl rfl (v_ldc h pX4_pairs_0 7 wm_104 rfl ?_)
    refine v_callV h pX4_pairs_0 8 mX4_42 (As := [.int (-1000001)]) (st := []) (kX4_finds _ _ cI cS b E Kp Bf As Q 0 (by decide) (-1000001) (by decide)) v0B v0C (vEmb_rf _ _) 0 rfl rfl rfl rfl rfl rfl rfl (vDet_k ?_)
    show V K (mW cI b (E, Kp, Bf, As, fndS Q 0)) 18 [(0, .ref (b 0)), (1, .int v)] [.int (-1000001)]
    generalize hS9 : fndS Q 0 = S9
    exact v_iret h pX4_pairs_0 9 hR hret rfl ((E, Kp, Bf, As, S9)) rfl ⟨vI (by first | (simp [c1]; done) | (simp only [c1, cond_true]; have e := prF_0 (g := srt E n) (v := v) (n := n) (m := m) (k := k) (by omega); rw [← h5, e]; rfl)), rfl, rfl, (by first | (refine qR_of ?_; simp [c1, hS9]; done) | (simp only [c1, cond_true]; apply qR_row; assumption) | apply qR_row; assumption)⟩
set_option maxHeartbeats 300000 in
set_option maxRecDepth 100000 in
theorem kX4_alike (l : Launch) (D : va_G) (cI cS : ClassId) (b : Nat → Nat) (E Kp Bf As Q : Nat → Nat → Int32) (n : Nat) (hW : Wf E n) (yb : Nat) (hY : bd (E 9 2) yb) (hyb : yb ≤ 99000) (hQ : WfQ Q) (y v : Int32) : vMet l D (vT cI cS) yX4_alike cX4_alike 5 (some .int) 1 25 (mW cI b) v0 [.ref (b 0), .int y, .int v] (E, Kp, Bf, As, Q) (mPost (some (.int (cond (oyB y n && inB v 0 999) (setS (alkB E (ix y) v) n) ((-1000001))))) (E) (Kp) (cond (oyB y n && inB v 0 999) (Q) (fndS Q 0))) := by
  refine vMet_of (by decide) rfl ?_
  intro K hl hD hnL hret h hR hEx
  subst hl hD
  show V K (mW cI b (E, Kp, Bf, As, Q)) 0 [(0, .ref (b 0)), (1, .int y), (2, .int v)] []
  have hn8 := hW.1
  refine v_aload_n h pX4_alike_0 0 rfl 0 rfl rfl (v_iload_n h pX4_alike_0 1 rfl 1 rfl rfl ?_)
  refine v_callV h pX4_alike_0 2 mX4_88 (As := [.int y]) (st := []) (kX4_isOyster _ _ cI cS b E Kp Bf As Q n hW.2.1 y) v0B v0C (vEmb_rf _ _) 0 rfl rfl rfl rfl rfl rfl rfl (vDet_k ?_)
  show V K (mW cI b (E, Kp, Bf, As, Q)) 5 [(0, .ref (b 0)), (1, .int y), (2, .int v)] [.int (bI (oyB y n))]
  refine v_bif_eq (tgt := 20) h pX4_alike_0 3 rfl rfl (fun c1 => ?_) (fun c1 => ?_)
  · skip
    refine v_aload_n h pX4_alike_0 10 rfl 0 rfl rfl (v_ldc h pX4_alike_0 11 wm_104 rfl ?_)
    refine v_callV h pX4_alike_0 12 mX4_42 (As := [.int (-1000001)]) (st := []) (kX4_finds _ _ cI cS b E Kp Bf As Q 0 (by decide) (-1000001) (by decide)) v0B v0C (vEmb_rf _ _) 0 rfl rfl rfl rfl rfl rfl rfl (vDet_k ?_)
    show V K (mW cI b (E, Kp, Bf, As, fndS Q 0)) 26 [(0, .ref (b 0)), (1, .int y), (2, .int v)] [.int (-1000001)]
    generalize hS2 : fndS Q 0 = S2
    exact v_iret h pX4_alike_0 13 hR hret rfl ((E, Kp, Bf, As, S2)) rfl ⟨vI (by simp [c1]), rfl, rfl, (qR_of (by simp [c1, hS2]))⟩
  · skip
    obtain ⟨e_y, l_y⟩ := oyB_t hn8 c1
    refine v_iload_n h pX4_alike_0 4 rfl 2 rfl rfl (v_i2l h pX4_alike_0 5 rfl (v_lconst (v := (nI 0).toInt64) h pX4_alike_0 6 rfl kl_0 (v_ldc2 h pX4_alike_0 7 wm_102 rfl (v_top (w := .long (nI 999).toInt64) (kL 999 _ (by decide)) ?_))))
    refine v_callS h pX4_alike_0 8 mX4_50 (As := [.long v.toInt64, .long ((nI 0).toInt64), .long ((nI 999).toInt64)]) (st := []) (kX4_isIn _ _ cI cS v 0 999) v0B v0C (vEmb_u _) rfl rfl rfl rfl rfl (vDet_k ?_)
    show V K (mW cI b (E, Kp, Bf, As, Q)) 17 [(0, .ref (b 0)), (1, .int y), (2, .int v)] [.int (bI (inB v 0 999))]
    refine v_bif_ne (tgt := 27) h pX4_alike_0 9 rfl rfl (fun c3 => ?_) (fun c3 => ?_)
    · skip
      refine v_iconst h pX4_alike_0 14 rfl ki_0 (v_istore_n h pX4_alike_0 15 (lv' := [(3, .int 0), (0, .ref (b 0)), (1, .int y), (2, .int v)]) rfl rfl hnL rfl rfl (v_iconst h pX4_alike_0 16 rfl ki_0 (v_istore h pX4_alike_0 17 (lv' := [(4, .int 0), (3, .int 0), (0, .ref (b 0)), (1, .int y), (2, .int v)]) rfl hnL rfl rfl ?_)))
      refine v_lv [2, 3, 4, 1, 0] (lv' := [(0, .ref (b 0)), (1, .int y), (2, .int v), (3, .int 0), (4, .int 0)]) rfl ?_
      have L4 : ∀ (m i4 : Nat), i4 ≤ n → n + 1 ≤ i4 + m → V K (mW cI b (E, Kp, Bf, As, Q)) 32 [(0, .ref (b 0)), (1, .int y), (2, .int v), (3, .int (setS (alkB E (ix y) v) i4)), (4, .int (nI i4))] [] := by
        intro m
        induction m with
        | zero => exact fun i4 h1 h2 => absurd h2 (by omega)
        | succ m ih4 =>
          intro i4 hle4 hlt4
          refine v_iload h pX4_alike_0 18 rfl 4 rfl (v_aload_n h pX4_alike_0 19 rfl 0 rfl rfl (v_get h pX4_alike_0 20 fX4_7 0 rfl rfl rfl (v_iconst h pX4_alike_0 21 rfl ki_0 (v_iald h pX4_alike_0 22 0 1 0 rfl rfl rfl rfl rfl (by omega) (v_top (w := .int (E 9 0)) (congrArg Value.int rfl) ?_)))))
          refine v_top (w := .int (nI n)) (congrArg Value.int hW.2.1) ?_
          refine v_ncmp_ge (a := i4) (b := n) (tgt := 86) h pX4_alike_0 23 rfl rfl (by omega) (by omega) (fun c5 => ?_) (fun c5 => ?_)
          · skip
            obtain rfl : n = i4 := by omega
            refine v_iload_n h pX4_alike_1 19 rfl 3 rfl rfl ?_
            exact v_iret h pX4_alike_1 20 hR hret rfl ((E, Kp, Bf, As, Q)) rfl ⟨vI (by simp [c1, c3, c5]), rfl, rfl, (qR_of (by simp [c1, c3, c5, True]))⟩
          · skip
            refine v_iload_n h pX4_alike_0 24 rfl 3 rfl rfl (v_aload_n h pX4_alike_0 25 rfl 0 rfl rfl (v_iload h pX4_alike_0 26 rfl 4 rfl (v_iconst h pX4_alike_0 27 rfl ki_3 ?_)))
            refine v_callV h pX4_alike_0 28 mX4_64 (As := [.int (nI i4), .int 3]) (st := [.int (setS (alkB E (ix y) v) i4)]) (kX4_its _ _ cI cS b E Kp Bf As Q i4 3 (by omega) (by omega)) v0B v0C (vEmb_rf _ _) 0 rfl rfl rfl rfl rfl rfl rfl (vDet_k ?_)
            show V K (mW cI b (E, Kp, Bf, As, Q)) 51 [(0, .ref (b 0)), (1, .int y), (2, .int v), (3, .int (setS (alkB E (ix y) v) i4)), (4, .int (nI i4))] [.int (E 5 i4), .int (setS (alkB E (ix y) v) i4)]
            refine v_aload_n h pX4_alike_0 29 rfl 0 rfl rfl (v_iload_n h pX4_alike_0 30 rfl 1 rfl rfl (v_top (w := .int (nI (ix y))) (congrArg Value.int e_y) (v_iconst h pX4_alike_0 31 rfl ki_3 ?_)))
            refine v_callV h pX4_alike_1 0 mX4_64 (As := [.int (nI (ix y)), .int 3]) (st := [.int (E 5 i4), .int (setS (alkB E (ix y) v) i4)]) (kX4_its _ _ cI cS b E Kp Bf As Q (ix y) 3 (by omega) (by omega)) v0B v0C (vEmb_rf _ _) 0 rfl rfl rfl rfl rfl rfl rfl (vDet_k ?_)
            show V K (mW cI b (E, Kp, Bf, As, Q)) 57 [(0, .ref (b 0)), (1, .int y), (2, .int v), (3, .int (setS (alkB E (ix y) v) i4)), (4, .int (nI i4))] [.int (E 5 (ix y)), .int (E 5 i4), .int (setS (alkB E (ix y) v) i4)]
            refine v_isub h pX4_alike_1 1 rfl (v_i2l h pX4_alike_1 2 rfl (v_iload_n h pX4_alike_1 3 rfl 2 rfl rfl (v_ineg h pX4_alike_1 4 rfl (v_i2l h pX4_alike_1 5 rfl (v_iload_n h pX4_alike_1 6 rfl 2 rfl rfl ?_)))))
            refine v_i2l h pX4_alike_1 7 rfl ?_
            refine v_callS h pX4_alike_1 8 mX4_50 (As := [.long (((E 5 i4) - (E 5 (ix y)) : Int32).toInt64), .long ((-v : Int32).toInt64), .long v.toInt64]) (st := [.int (setS (alkB E (ix y) v) i4)]) (kX4_isIn _ _ cI cS ((E 5 i4) - (E 5 (ix y))) (-v) v) v0B v0C (vEmb_u _) rfl rfl rfl rfl rfl (vDet_k ?_)
            show V K (mW cI b (E, Kp, Bf, As, Q)) 67 [(0, .ref (b 0)), (1, .int y), (2, .int v), (3, .int (setS (alkB E (ix y) v) i4)), (4, .int (nI i4))] [.int (bI (inB ((E 5 i4) - (E 5 (ix y))) (-v) v)), .int (setS (alkB E (ix y) v) i4)]
            refine v_bif_eq (tgt := 77) h pX4_alike_1 9 rfl rfl (fun c6 => ?_) (fun c6 => ?_)
            · skip
              refine v_iconst h pX4_alike_1 14 rfl ki_0 (v_ior h pX4_alike_1 15 rfl (v_istore_n h pX4_alike_1 16 (lv' := [(3, .int ((setS (alkB E (ix y) v) i4) ||| 0)), (0, .ref (b 0)), (1, .int y), (2, .int v), (4, .int (nI i4))]) rfl rfl hnL rfl rfl (v_iinc h pX4_alike_1 17 (v := nI (i4 + 1)) (lv' := [(4, .int (nI (i4 + 1))), (3, .int ((setS (alkB E (ix y) v) i4) ||| 0)), (0, .ref (b 0)), (1, .int y), (2, .int v)]) rfl 4 rfl hnL rfl rfl (nI_1 i4) (v_goto (tgt := 32) h pX4_alike_1 18 rfl rfl (v_lv [2, 3, 4, 1, 0] (lv' := [(0, .ref (b 0)), (1, .int y), (2, .int v), (3, .int ((setS (alkB E (ix y) v) i4) ||| 0)), (4, .int (nI (i4 + 1)))]) rfl ?_)))))
              refine v_eql (congrArg (fun z : Int32 => ([(0, .ref (b 0)), (1, .int y), (2, .int v), (3, .int z), (4, .int (nI (i4 + 1)))] : List (Nat × Value))) (by simp [setS, alkB, c1, c3, c5, c6] : (setS (alkB E (ix y) v) i4) ||| 0 = setS (alkB E (ix y) v) (i4 + 1))) ?_
              exact ih4 (i4 + 1) (by omega) (by omega)
            · skip
              refine v_iconst h pX4_alike_1 10 rfl ki_1 (v_iload h pX4_alike_1 11 rfl 4 rfl (v_ishl h pX4_alike_1 12 rfl (v_goto (tgt := 78) h pX4_alike_1 13 rfl rfl (v_ior h pX4_alike_1 15 rfl (v_istore_n h pX4_alike_1 16 (lv' := [(3, .int ((setS (alkB E (ix y) v) i4) ||| (1 <<< ((nI i4) &&& 31)))), (0, .ref (b 0)), (1, .int y), (2, .int v), (4, .int (nI i4))]) rfl rfl hnL rfl rfl ?_)))))
              refine v_iinc h pX4_alike_1 17 (v := nI (i4 + 1)) (lv' := [(4, .int (nI (i4 + 1))), (3, .int ((setS (alkB E (ix y) v) i4) ||| (1 <<< ((nI i4) &&& 31)))), (0, .ref (b 0)), (1, .int y), (2, .int v)]) rfl 4 rfl hnL rfl rfl (nI_1 i4) (v_goto (tgt := 32) h pX4_alike_1 18 rfl rfl (v_lv [2, 3, 4, 1, 0] (lv' := [(0, .ref (b 0)), (1, .int y), (2, .int v), (3, .int ((setS (alkB E (ix y) v) i4) ||| (1 <<< ((nI i4) &&& 31)))), (4, .int (nI (i4 + 1)))]) rfl (v_eql (congrArg (fun z : Int32 => ([(0, .ref (b 0)), (1, .int y), (2, .int v), (3, .int z), (4, .int (nI (i4 + 1)))] : List (Nat × Value))) (by simp [setS, alkB, c1, c3, c5, c6] : (setS (alkB E (ix y) v) i4) ||| (1 <<< ((nI i4) &&& 31)) = setS (alkB E (ix y) v) (i4 + 1))) ?_)))
              exact ih4 (i4 + 1) (by omega) (by omega)
      exact L4 (n + 1) 0 (by omega) (by omega)
    · skip
      refine v_aload_n h pX4_alike_0 10 rfl 0 rfl rfl (v_ldc h pX4_alike_0 11 wm_104 rfl ?_)
      refine v_callV h pX4_alike_0 12 mX4_42 (As := [.int (-1000001)]) (st := []) (kX4_finds _ _ cI cS b E Kp Bf As Q 0 (by decide) (-1000001) (by decide)) v0B v0C (vEmb_rf _ _) 0 rfl rfl rfl rfl rfl rfl rfl (vDet_k ?_)
      show V K (mW cI b (E, Kp, Bf, As, fndS Q 0)) 26 [(0, .ref (b 0)), (1, .int y), (2, .int v)] [.int (-1000001)]
      generalize hS7 : fndS Q 0 = S7
      exact v_iret h pX4_alike_0 13 hR hret rfl ((E, Kp, Bf, As, S7)) rfl ⟨vI (by simp [c1, c3]), rfl, rfl, (qR_of (by simp [c1, c3, hS7]))⟩
