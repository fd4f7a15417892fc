set_option maxHeartbeats 300000 in
set_option maxRecDepth 100000 in
theorem kX3_sortLayers (l : Launch) (D : va_G) (cI cS : ClassId) (a : Nat → Nat) (E T Kp P F : Nat → Nat → Int32) (S : Nat → Nat → Nat → Int32) (n : Nat) (hW : Wf E n) : vDet l D (vT cI cS) yX3_sortLayers cX3_sortLayers 4 none 0 0 (cW cI cS a) [.ref (a 0)] (E, T, Kp, P, S, F) (none) ((E, T, Kp, P, S, rowP F 1 (lineS (E 5) (F 1) n))) := by
  refine vMet_of (by decide) rfl ?_
  intro K hl hD hnL hret h hR hEx
  subst hl hD
  show V K (cW cI cS a (E, T, Kp, P, S, F)) 0 [(0, .ref (a 0))] []
  have hn8 := hW.1
  refine v_eqw (ws' := cW cI cS a (E, T, Kp, P, S, rowP F 1 (F 1))) (by rw [rowP_0]) ?_
  refine v_iconst h pX3_sortLayers_0 0 rfl ki_0 (v_istore_n h pX3_sortLayers_0 1 (lv' := [(1, .int 0), (0, .ref (a 0))]) rfl rfl hnL rfl rfl ?_)
  refine v_lv [1, 0] (lv' := [(0, .ref (a 0)), (1, .int 0)]) rfl ?_
  have LA : ∀ (m iA : Nat), iA ≤ n → (True) → n + 1 ≤ iA + m → V K (cW cI cS a (E, T, Kp, P, S, rowP F 1 (lineS (E 5) (F 1) iA))) 2 [(0, .ref (a 0)), (1, .int (nI iA))] [] := by
    intro m
    induction m with
    | zero => exact fun iA h1 hh h2 => absurd h2 (by omega)
    | succ m ihA =>
      intro iA hleA hhA hltA
      refine v_iload_n h pX3_sortLayers_0 2 rfl 1 rfl rfl (v_aload_n h pX3_sortLayers_0 3 rfl 0 rfl rfl (v_get h pX3_sortLayers_0 4 fX3_10 0 rfl rfl rfl (v_get h pX3_sortLayers_0 5 fX3_161 1 rfl rfl rfl (v_top (w := .int (nI n)) (congrArg Value.int hW.2.1) ?_))))
      refine v_ncmp_ge (a := iA) (b := n) (tgt := 74) h pX3_sortLayers_0 6 rfl rfl (by omega) (by omega) (fun c2 => ?_) (fun c2 => ?_)
      · skip
        obtain rfl : n = iA := by omega
        exact v_vret h pX3_sortLayers_1 12 hR hret rfl ((E, T, Kp, P, S, rowP F 1 (lineS (E 5) (F 1) n))) rfl ⟨rfl, rfl⟩
      · skip
        refine v_aload_n h pX3_sortLayers_0 7 rfl 0 rfl rfl (v_get h pX3_sortLayers_0 8 fX3_10 0 rfl rfl rfl (v_get h pX3_sortLayers_0 9 fX3_116 1 rfl rfl rfl (v_iload_n h pX3_sortLayers_0 10 rfl 1 rfl rfl (v_iald h pX3_sortLayers_0 11 iA 7 0 rfl rfl rfl rfl rfl (by omega) (v_istore_n h pX3_sortLayers_0 12 (lv' := [(2, .int (E 5 iA)), (0, .ref (a 0)), (1, .int (nI iA))]) rfl rfl hnL rfl rfl ?_)))))
        refine v_iload_n h pX3_sortLayers_0 13 rfl 2 rfl rfl (v_istore_n h pX3_sortLayers_0 14 (lv' := [(3, .int (nI iA)), (2, .int (E 5 iA)), (0, .ref (a 0)), (1, .int (nI iA))]) rfl rfl hnL rfl rfl ?_)
        refine v_lv [2, 3, 1, 0] (lv' := [(0, .ref (a 0)), (1, .int (nI iA)), (2, .int (E 5 iA)), (3, .int (nI iA))]) rfl ?_
        have LB : ∀ (k : Nat) (g : Nat → Int32), k ≤ iA → insL g (E 5 iA) k = lineS (E 5) (F 1) (iA + 1) → V K (cW cI cS a (E, T, Kp, P, S, rowP F 1 g)) 25 [(0, .ref (a 0)), (1, .int (nI iA)), (2, .int (E 5 iA)), (3, .int (nI k))] [] := by
          intro k
          induction k with
          | zero =>
            intro g hk hg
            show V K (cW cI cS a (E, T, Kp, P, S, rowP F 1 g)) 25 [(0, .ref (a 0)), (1, .int (nI iA)), (2, .int (E 5 iA)), (3, .int 0)] []
            refine v_iload_n h pX3_sortLayers_0 15 rfl 3 rfl rfl ?_
            refine v_if_le2 (tgt := 61) h pX3_sortLayers_0 16 rfl rfl (fun c0 => ?_) (fun c0 => absurd c0 (by decide))
            refine v_aload_n h pX3_sortLayers_1 5 rfl 0 rfl rfl (v_get h pX3_sortLayers_1 6 fX3_44 0 rfl rfl rfl (v_iload_n h pX3_sortLayers_1 7 rfl 3 rfl rfl (v_iload_n h pX3_sortLayers_1 8 rfl 2 rfl rfl (v_iast h pX3_sortLayers_1 9 0 46 0 (ws' := cW cI cS a (E, T, Kp, P, S, up (rowP F 1 g) 1 0 (E 5 iA))) rfl rfl rfl rfl rfl (by omega) cW_Fs1 ?_))))
            refine v_eqw (ws' := cW cI cS a (E, T, Kp, P, S, rowP F 1 (lineS (E 5) (F 1) (iA + 1)))) (by rw [rowP_up, show upd g 0 (E 5 iA) = lineS (E 5) (F 1) (iA + 1) from hg]) ?_
            refine v_iinc h pX3_sortLayers_1 10 (v := nI (iA + 1)) (lv' := [(1, .int (nI (iA + 1))), (0, .ref (a 0)), (2, .int (E 5 iA)), (3, .int 0)]) rfl 1 rfl hnL rfl rfl (nI_1 iA) (v_goto (tgt := 2) h pX3_sortLayers_1 11 rfl rfl (v_lv [1, 0] (lv' := [(0, .ref (a 0)), (1, .int (nI (iA + 1)))]) rfl ?_))
            exact ihA (iA + 1) (by omega) (trivial) (by omega)
          | succ k ihB =>
            intro g hk hg
            refine v_iload_n h pX3_sortLayers_0 15 rfl 3 rfl rfl ?_
            refine v_nif_le (a := k + 1) (tgt := 61) h pX3_sortLayers_0 16 rfl rfl (by omega) (fun c0 => absurd c0 (by omega)) (fun c0 => ?_)
            refine v_aload_n h pX3_sortLayers_0 17 rfl 0 rfl rfl (v_get h pX3_sortLayers_0 18 fX3_44 0 rfl rfl rfl (v_iload_n h pX3_sortLayers_0 19 rfl 3 rfl rfl (v_iconst h pX3_sortLayers_0 20 rfl ki_1 (v_isub h pX3_sortLayers_0 21 rfl (v_iald h pX3_sortLayers_0 22 k 46 0 rfl rfl rfl rfl (nI_pred _) (by omega) ?_)))))
            refine v_top (w := .int (g k)) rfl (v_iload_n h pX3_sortLayers_0 23 rfl 2 rfl rfl ?_)
            refine v_icmp_le2 (tgt := 61) h pX3_sortLayers_0 24 rfl rfl (fun c3 => ?_) (fun c3 => ?_)
            · skip
              refine v_aload_n h pX3_sortLayers_1 5 rfl 0 rfl rfl (v_get h pX3_sortLayers_1 6 fX3_44 0 rfl rfl rfl (v_iload_n h pX3_sortLayers_1 7 rfl 3 rfl rfl (v_iload_n h pX3_sortLayers_1 8 rfl 2 rfl rfl (v_iast h pX3_sortLayers_1 9 (k + 1) 46 0 (ws' := cW cI cS a (E, T, Kp, P, S, up (rowP F 1 g) 1 (k + 1) (E 5 iA))) rfl rfl rfl rfl rfl (by omega) cW_Fs1 ?_))))
              refine v_eqw (ws' := cW cI cS a (E, T, Kp, P, S, rowP F 1 (lineS (E 5) (F 1) (iA + 1)))) (by rw [rowP_up, show upd g (k + 1) (E 5 iA) = lineS (E 5) (F 1) (iA + 1) from by rw [← hg, insL, if_neg c3]]) ?_
              refine v_iinc h pX3_sortLayers_1 10 (v := nI (iA + 1)) (lv' := [(1, .int (nI (iA + 1))), (0, .ref (a 0)), (2, .int (E 5 iA)), (3, .int (nI (k + 1)))]) rfl 1 rfl hnL rfl rfl (nI_1 iA) (v_goto (tgt := 2) h pX3_sortLayers_1 11 rfl rfl (v_lv [1, 0] (lv' := [(0, .ref (a 0)), (1, .int (nI (iA + 1)))]) rfl ?_))
              exact ihA (iA + 1) (by omega) (trivial) (by omega)
            · skip
              refine v_aload_n h pX3_sortLayers_0 25 rfl 0 rfl rfl (v_get h pX3_sortLayers_0 26 fX3_44 0 rfl rfl rfl (v_iload_n h pX3_sortLayers_0 27 rfl 3 rfl rfl (v_aload_n h pX3_sortLayers_0 28 rfl 0 rfl rfl (v_get h pX3_sortLayers_0 29 fX3_44 0 rfl rfl rfl (v_iload_n h pX3_sortLayers_0 30 rfl 3 rfl rfl ?_)))))
              refine v_iconst h pX3_sortLayers_0 31 rfl ki_1 (v_isub h pX3_sortLayers_1 0 rfl (v_iald h pX3_sortLayers_1 1 k 46 0 rfl rfl rfl rfl (nI_pred _) (by omega) (v_top (w := .int (g k)) rfl (v_iast h pX3_sortLayers_1 2 (k + 1) 46 0 (ws' := cW cI cS a (E, T, Kp, P, S, up (rowP F 1 g) 1 (k + 1) (g k))) rfl rfl rfl rfl rfl (by omega) cW_Fs1 (v_iinc h pX3_sortLayers_1 3 (v := nI k) (lv' := [(3, .int (nI k)), (0, .ref (a 0)), (1, .int (nI iA)), (2, .int (E 5 iA))]) rfl 3 rfl hnL rfl rfl (nI_mi _) ?_)))))
              refine v_goto (tgt := 25) h pX3_sortLayers_1 4 rfl rfl (v_lv [1, 2, 3, 0] (lv' := [(0, .ref (a 0)), (1, .int (nI iA)), (2, .int (E 5 iA)), (3, .int (nI k))]) rfl (v_eqw (ws' := cW cI cS a (E, T, Kp, P, S, rowP F 1 (upd g (k + 1) (g k)))) (by rw [rowP_up]) ?_))
              exact ihB (upd g (k + 1) (g k)) (by omega) (by rw [← hg, insL, if_pos c3])
        exact LB iA _ (Nat.le_refl _) rfl
  exact LA (n + 1) 0 (by omega) trivial (by omega)
set_option maxHeartbeats 300000 in
set_option maxRecDepth 100000 in
theorem kX3_string (l : Launch) (D : va_G) (cI cS : ClassId) (a : Nat → Nat) (E T Kp P F : Nat → Nat → Int32) (S : Nat → Nat → Nat → Int32) (n : Nat) (hW : Wf E n) (hZ : E 9 4 = 0) (v : Int32) : vMet l D (vT cI cS) yX3_string cX3_string 6 (some .int) 1 23 (cW cI cS a) v0 [.ref (a 0), .int v] (E, T, Kp, P, S, F) (cPost (some (.int (cond (inB v 0 999) (strM (srt E n) v n) ((-1000001))))) (E) (Kp) (P) (S) (cond (inB v 0 999) (F) (fndC F 0))) := by
  refine vMet_of (by decide) rfl ?_
  intro K hl hD hnL hret h hR hEx
  subst hl hD
  show V K (cW cI cS a (E, T, Kp, P, S, F)) 0 [(0, .ref (a 0)), (1, .int v)] []
  have hn8 := hW.1
  refine v_iload_n h pX3_string_0 0 rfl 1 rfl rfl (v_sipush h pX3_string_0 1 rfl ks_999 ?_)
  refine v_callS h pX3_string_0 2 mX3_51 (As := [.int v, .int 999]) (st := []) (kX3_isWithin _ _ cI cS v 999) v0B v0C (vEmb_u _) rfl rfl rfl rfl rfl (vDet_k ?_)
  show V K (cW cI cS a (E, T, Kp, P, S, F)) 7 [(0, .ref (a 0)), (1, .int v)] [.int (bI (inB v 0 999))]
  refine v_bif_ne (tgt := 16) h pX3_string_0 3 rfl rfl (fun c1 => ?_) (fun c1 => ?_)
  · skip
    refine v_aload_n h pX3_string_0 8 rfl 0 rfl rfl ?_
    refine v_callV h pX3_string_0 9 mX3_181 (As := []) (st := []) (kX3_sortLayers _ _ cI cS a E T Kp P F S n hW) v0B v0C (vEmb_rf _ _) 0 rfl rfl rfl rfl rfl rfl rfl (vDet_k ?_)
    show V K (cW cI cS a (E, T, Kp, P, S, rowP F 1 (lineS (E 5) (F 1) n))) 20 [(0, .ref (a 0)), (1, .int v)] []
    refine v_iconst h pX3_string_0 10 rfl ki_0 (v_istore_n h pX3_string_0 11 (lv' := [(2, .int 0), (0, .ref (a 0)), (1, .int v)]) rfl rfl hnL rfl rfl (v_iconst h pX3_string_0 12 rfl ki_0 (v_istore_n h pX3_string_0 13 (lv' := [(3, .int 0), (2, .int 0), (0, .ref (a 0)), (1, .int v)]) rfl rfl hnL rfl rfl (v_iconst h pX3_string_0 14 rfl ki_0 (v_istore h pX3_string_0 15 (lv' := [(4, .int 0), (3, .int 0), (2, .int 0), (0, .ref (a 0)), (1, .int v)]) rfl hnL rfl rfl ?_)))))
    refine v_lv [3, 4, 2, 1, 0] (lv' := [(0, .ref (a 0)), (1, .int v), (2, .int 0), (3, .int 0), (4, .int 0)]) rfl ?_
    have LA : ∀ (m iA : Nat), iA ≤ n → (True) → n + 1 ≤ iA + m → V K (cW cI cS a (E, T, Kp, P, S, rowP F 1 (lineS (E 5) (F 1) n))) 27 [(0, .ref (a 0)), (1, .int v), (2, .int (strM (srt E n) v iA)), (3, .int (strN (srt E n) v iA)), (4, .int (nI iA))] [] := by
      intro m
      induction m with
      | zero => exact fun iA h1 hh h2 => absurd h2 (by omega)
      | succ m ihA =>
        intro iA hleA hhA hltA
        refine v_iload h pX3_string_0 16 rfl 4 rfl (v_aload_n h pX3_string_0 17 rfl 0 rfl rfl (v_get h pX3_string_0 18 fX3_10 0 rfl rfl rfl (v_get h pX3_string_0 19 fX3_161 1 rfl rfl rfl (v_top (w := .int (nI n)) (congrArg Value.int hW.2.1) ?_))))
        refine v_ncmp_ge (a := iA) (b := n) (tgt := 97) h pX3_string_0 20 rfl rfl (by omega) (by omega) (fun c3 => ?_) (fun c3 => ?_)
        · skip
          obtain rfl : n = iA := by omega
          refine v_iload_n h pX3_string_1 22 rfl 2 rfl rfl ?_
          exact v_iret h pX3_string_1 23 hR hret rfl ((E, T, Kp, P, S, rowP F 1 (lineS (E 5) (F 1) n))) rfl ⟨vI (by simp [c1, c3]), rfl, rfl, ⟨rfl, rfl⟩, rfl, (by first | (refine fR_of ?_; simp [c1, c3]; done) | (simp only [c1, c3, cond_true]; exact ⟨rfl, rfl⟩))⟩
        · skip
          refine v_iload h pX3_string_0 21 rfl 4 rfl ?_
          refine v_nif_le (a := iA) (tgt := 69) h pX3_string_0 22 rfl rfl (by omega) (fun c4 => ?_) (fun c4 => ?_)
          · skip
            refine v_iconst h pX3_string_1 6 rfl ki_0 (v_istore h pX3_string_1 7 (lv' := [(5, .int 0), (0, .ref (a 0)), (1, .int v), (2, .int (strM (srt E n) v iA)), (3, .int (strN (srt E n) v iA)), (4, .int (nI iA))]) rfl hnL rfl rfl (v_iload h pX3_string_1 8 rfl 0 rfl ?_))
            refine v_if_eq (tgt := 83) h pX3_string_1 9 rfl rfl (fun c5 => ?_) (fun c5 => absurd c5 (by decide))
            refine v_iconst h pX3_string_1 14 rfl ki_1 (v_istore_n h pX3_string_1 15 (lv' := [(3, .int 1), (5, .int 0), (0, .ref (a 0)), (1, .int v), (2, .int (strM (srt E n) v iA)), (4, .int (nI iA))]) rfl rfl hnL rfl rfl (v_iload_n h pX3_string_1 16 rfl 4 rfl rfl (v_iload_n h pX3_string_1 17 rfl 0 rfl rfl (v_mmax2 h pX3_string_1 18 wm_522 wm_201 wm_194 wm_202 rfl rfl rfl (v_istore_n h pX3_string_1 19 (lv' := [(2, .int (mx (strM (srt E n) v iA) 1)), (3, .int 1), (5, .int 0), (0, .ref (a 0)), (1, .int v), (4, .int (nI iA))]) rfl rfl hnL rfl rfl ?_)))))
            refine v_iinc h pX3_string_1 20 (v := nI (iA + 1)) (lv' := [(4, .int (nI (iA + 1))), (2, .int (mx (strM (srt E n) v iA) 1)), (3, .int 1), (5, .int 0), (0, .ref (a 0)), (1, .int v)]) rfl 5 rfl hnL rfl rfl (nI_1 iA) (v_goto (tgt := 27) h pX3_string_1 21 rfl rfl (v_lv [4, 5, 1, 2, 0] (lv' := [(0, .ref (a 0)), (1, .int v), (2, .int (mx (strM (srt E n) v iA) 1)), (3, .int 1), (4, .int (nI (iA + 1)))]) rfl (v_eql (congrArg (fun z : Int32 => ([(0, .ref (a 0)), (1, .int v), (2, .int z), (3, .int 1), (4, .int (nI (iA + 1)))] : List (Nat × Value))) (by first | rfl | (simp [strN, c1, c3, c4, -Int32.not_lt]; done) | (rw [strM]; simp [strN, c1, c3, c4, -Int32.not_lt]; done) : mx (strM (srt E n) v iA) 1 = strM (srt E n) v (iA + 1))) (v_eql (congrArg (fun z : Int32 => ([(0, .ref (a 0)), (1, .int v), (2, .int (strM (srt E n) v (iA + 1))), (3, .int z), (4, .int (nI (iA + 1)))] : List (Nat × Value))) (by first | rfl | (simp [strN, c1, c3, c4, -Int32.not_lt]; done) | (rw [strM]; simp [strN, c1, c3, c4, -Int32.not_lt]; done) : (1 : Int32) = strN (srt E n) v (iA + 1))) ?_))))
            exact ihA (iA + 1) (by omega) (trivial) (by omega)
          · skip
            refine v_aload_n h pX3_string_0 23 rfl 0 rfl rfl (v_get h pX3_string_0 24 fX3_44 0 rfl rfl rfl (v_iload h pX3_string_0 25 rfl 4 rfl (v_iald h pX3_string_0 26 iA 46 0 rfl rfl rfl rfl rfl (by omega) (v_top (w := .int (srt E n iA)) (congrArg Value.int (show lineS (E 5) (F 1) n iA = _ from lineS_c _ (by omega))) (v_aload_n h pX3_string_0 27 rfl 0 rfl rfl ?_)))))
            refine v_get h pX3_string_0 28 fX3_44 0 rfl rfl rfl (v_iload h pX3_string_0 29 rfl 4 rfl (v_iconst h pX3_string_0 30 rfl ki_1 (v_isub h pX3_string_0 31 rfl (v_iald h pX3_string_1 0 (iA - 1) 46 0 rfl rfl rfl rfl (nI_p1 (by omega)) (by omega) (v_top (w := .int (srt E n (iA - 1))) (congrArg Value.int (show lineS (E 5) (F 1) n (iA - 1) = _ from lineS_c _ (by omega))) ?_)))))
            refine v_isub h pX3_string_1 1 rfl (v_iload_n h pX3_string_1 2 rfl 1 rfl rfl ?_)
            refine v_icmp_gt (tgt := 69) h pX3_string_1 3 rfl rfl (fun c6 => ?_) (fun c6 => ?_)
            · skip
              refine v_iconst h pX3_string_1 6 rfl ki_0 (v_istore h pX3_string_1 7 (lv' := [(5, .int 0), (0, .ref (a 0)), (1, .int v), (2, .int (strM (srt E n) v iA)), (3, .int (strN (srt E n) v iA)), (4, .int (nI iA))]) rfl hnL rfl rfl (v_iload h pX3_string_1 8 rfl 0 rfl ?_))
              refine v_if_eq (tgt := 83) h pX3_string_1 9 rfl rfl (fun c7 => ?_) (fun c7 => absurd c7 (by decide))
              refine v_iconst h pX3_string_1 14 rfl ki_1 (v_istore_n h pX3_string_1 15 (lv' := [(3, .int 1), (5, .int 0), (0, .ref (a 0)), (1, .int v), (2, .int (strM (srt E n) v iA)), (4, .int (nI iA))]) rfl rfl hnL rfl rfl (v_iload_n h pX3_string_1 16 rfl 4 rfl rfl (v_iload_n h pX3_string_1 17 rfl 0 rfl rfl (v_mmax2 h pX3_string_1 18 wm_522 wm_201 wm_194 wm_202 rfl rfl rfl (v_istore_n h pX3_string_1 19 (lv' := [(2, .int (mx (strM (srt E n) v iA) 1)), (3, .int 1), (5, .int 0), (0, .ref (a 0)), (1, .int v), (4, .int (nI iA))]) rfl rfl hnL rfl rfl ?_)))))
              refine v_iinc h pX3_string_1 20 (v := nI (iA + 1)) (lv' := [(4, .int (nI (iA + 1))), (2, .int (mx (strM (srt E n) v iA) 1)), (3, .int 1), (5, .int 0), (0, .ref (a 0)), (1, .int v)]) rfl 5 rfl hnL rfl rfl (nI_1 iA) (v_goto (tgt := 27) h pX3_string_1 21 rfl rfl (v_lv [4, 5, 1, 2, 0] (lv' := [(0, .ref (a 0)), (1, .int v), (2, .int (mx (strM (srt E n) v iA) 1)), (3, .int 1), (4, .int (nI (iA + 1)))]) rfl (v_eql (congrArg (fun z : Int32 => ([(0, .ref (a 0)), (1, .int v), (2, .int z), (3, .int 1), (4, .int (nI (iA + 1)))] : List (Nat × Value))) (by first | rfl | (simp [strN, c1, c3, c4, c6, -Int32.not_lt]; done) | (rw [strM]; simp [strN, c1, c3, c4, c6, -Int32.not_lt]; done) : mx (strM (srt E n) v iA) 1 = strM (srt E n) v (iA + 1))) (v_eql (congrArg (fun z : Int32 => ([(0, .ref (a 0)), (1, .int v), (2, .int (strM (srt E n) v (iA + 1))), (3, .int z), (4, .int (nI (iA + 1)))] : List (Nat × Value))) (by first | rfl | (simp [strN, c1, c3, c4, c6, -Int32.not_lt]; done) | (rw [strM]; simp [strN, c1, c3, c4, c6, -Int32.not_lt]; done) : (1 : Int32) = strN (srt E n) v (iA + 1))) ?_))))
              exact ihA (iA + 1) (by omega) (trivial) (by omega)
            · skip
              refine v_iconst h pX3_string_1 4 rfl ki_1 (v_goto (tgt := 70) h pX3_string_1 5 rfl rfl (v_istore h pX3_string_1 7 (lv' := [(5, .int 1), (0, .ref (a 0)), (1, .int v), (2, .int (strM (srt E n) v iA)), (3, .int (strN (srt E n) v iA)), (4, .int (nI iA))]) rfl hnL rfl rfl (v_iload h pX3_string_1 8 rfl 0 rfl ?_)))
              refine v_if_eq (tgt := 83) h pX3_string_1 9 rfl rfl (fun c8 => absurd c8 (by decide)) (fun c8 => ?_)
              refine v_iload_n h pX3_string_1 10 rfl 4 rfl rfl (v_iconst h pX3_string_1 11 rfl ki_1 (v_iadd h pX3_string_1 12 rfl (v_goto (tgt := 84) h pX3_string_1 13 rfl rfl (v_istore_n h pX3_string_1 15 (lv' := [(3, .int ((strN (srt E n) v iA) + 1)), (5, .int 1), (0, .ref (a 0)), (1, .int v), (2, .int (strM (srt E n) v iA)), (4, .int (nI iA))]) rfl rfl hnL rfl rfl (v_iload_n h pX3_string_1 16 rfl 4 rfl rfl ?_)))))
              refine v_iload_n h pX3_string_1 17 rfl 0 rfl rfl (v_mmax2 h pX3_string_1 18 wm_522 wm_201 wm_194 wm_202 rfl rfl rfl (v_istore_n h pX3_string_1 19 (lv' := [(2, .int (mx (strM (srt E n) v iA) ((strN (srt E n) v iA) + 1))), (3, .int ((strN (srt E n) v iA) + 1)), (5, .int 1), (0, .ref (a 0)), (1, .int v), (4, .int (nI iA))]) rfl rfl hnL rfl rfl (v_iinc h pX3_string_1 20 (v := nI (iA + 1)) (lv' := [(4, .int (nI (iA + 1))), (2, .int (mx (strM (srt E n) v iA) ((strN (srt E n) v iA) + 1))), (3, .int ((strN (srt E n) v iA) + 1)), (5, .int 1), (0, .ref (a 0)), (1, .int v)]) rfl 5 rfl hnL rfl rfl (nI_1 iA) (v_goto (tgt := 27) h pX3_string_1 21 rfl rfl (v_lv [4, 5, 1, 2, 0] (lv' := [(0, .ref (a 0)), (1, .int v), (2, .int (mx (strM (srt E n) v iA) ((strN (srt E n) v iA) + 1))), (3, .int ((strN (srt E n) v iA) + 1)), (4, .int (nI (iA + 1)))]) rfl ?_)))))
              refine v_eql (congrArg (fun z : Int32 => ([(0, .ref (a 0)), (1, .int v), (2, .int z), (3, .int ((strN (srt E n) v iA) + 1)), (4, .int (nI (iA + 1)))] : List (Nat × Value))) (by first | rfl | (simp [strN, c1, c3, c4, c6, -Int32.not_lt]; done) | (rw [strM]; simp [strN, c1, c3, c4, c6, -Int32.not_lt]; done) : mx (strM (srt E n) v iA) ((strN (srt E n) v iA) + 1) = strM (srt E n) v (iA + 1))) (v_eql (congrArg (fun z : Int32 => ([(0, .ref (a 0)), (1, .int v), (2, .int (strM (srt E n) v (iA + 1))), (3, .int z), (4, .int (nI (iA + 1)))] : List (Nat × Value))) (by first | rfl | (simp [strN, c1, c3, c4, c6, -Int32.not_lt]; done) | (rw [strM]; simp [strN, c1, c3, c4, c6, -Int32.not_lt]; done) : (strN (srt E n) v iA) + 1 = strN (srt E n) v (iA + 1))) ?_)
              exact ihA (iA + 1) (by omega) (trivial) (by omega)
    exact LA (n + 1) 0 (by omega) trivial (by omega)
  · skip
    refine v_aload_n h pX3_string_0 4 rfl 0 rfl rfl (v_iconst h pX3_string_0 5 rfl ki_0 ?_)
    refine v_callV h pX3_string_0 6 mX3_55 (As := [.int 0]) (st := []) (kX3_finding _ _ cI cS a E T Kp P F S 0 (by decide)) v0B v0C (vEmb_rf _ _) 0 rfl rfl rfl rfl rfl rfl rfl (vDet_k ?_)
    show V K (cW cI cS a (E, T, Kp, P, S, fndC F 0)) 15 [(0, .ref (a 0)), (1, .int v)] [.int ((-1000001) - (nI 0))]
    refine v_top (w := .int (-1000001)) (by decide) ?_
    exact v_iret h pX3_string_0 7 hR hret rfl ((E, T, Kp, P, S, fndC F 0)) rfl ⟨vI (by simp [c1]), rfl, rfl, ⟨rfl, rfl⟩, rfl, (by first | (refine fR_of ?_; simp [c1]; done) | (simp only [c1, cond_true]; exact ⟨rfl, rfl⟩))⟩
set_option maxHeartbeats 300000 in
set_option maxRecDepth 100000 in
theorem kX3_match (l : Launch) (D : va_G) (cI cS : ClassId) (a : Nat → Nat) (E T Kp P F : Nat → Nat → Int32) (S : Nat → Nat → Nat → Int32) (n : Nat) (hW : Wf E n) (hZ : E 9 4 = 0)  : vMet l D (vT cI cS) yX3_match cX3_match 3 (some .int) 1 23 (cW cI cS a) v0 [.ref (a 0)] (E, T, Kp, P, S, F) (cPost (some (.int (mxS (srt E n) (n - 1)))) (E) (Kp) (P) (S) (F)) := by
  refine vMet_of (by decide) rfl ?_
  intro K hl hD hnL hret h hR hEx
  subst hl hD
  show V K (cW cI cS a (E, T, Kp, P, S, F)) 0 [(0, .ref (a 0))] []
  have hn8 := hW.1
  refine v_aload_n h pX3_match_0 0 rfl 0 rfl rfl ?_
  refine v_callV h pX3_match_0 1 mX3_181 (As := []) (st := []) (kX3_sortLayers _ _ cI cS a E T Kp P F S n hW) v0B v0C (vEmb_rf _ _) 0 rfl rfl rfl rfl rfl rfl rfl (vDet_k ?_)
  show V K (cW cI cS a (E, T, Kp, P, S, rowP F 1 (lineS (E 5) (F 1) n))) 4 [(0, .ref (a 0))] []
  refine v_iconst h pX3_match_0 2 rfl ki_0 (v_istore_n h pX3_match_0 3 (lv' := [(1, .int 0), (0, .ref (a 0))]) rfl rfl hnL rfl rfl (v_iconst h pX3_match_0 4 rfl ki_1 (v_istore_n h pX3_match_0 5 (lv' := [(2, .int 1), (1, .int 0), (0, .ref (a 0))]) rfl rfl hnL rfl rfl ?_)))
  refine v_lv [2, 1, 0] (lv' := [(0, .ref (a 0)), (1, .int 0), (2, .int 1)]) rfl ?_
  have LA : ∀ (m iA : Nat), iA ≤ (n - 1) → (True) → (n - 1) + 1 ≤ iA + m → V K (cW cI cS a (E, T, Kp, P, S, rowP F 1 (lineS (E 5) (F 1) n))) 8 [(0, .ref (a 0)), (1, .int (mxS (srt E n) iA)), (2, .int (nI (iA + 1)))] [] := by
    intro m
    induction m with
    | zero => exact fun iA h1 hh h2 => absurd h2 (by omega)
    | succ m ihA =>
      intro iA hleA hhA hltA
      refine v_iload_n h pX3_match_0 6 rfl 2 rfl rfl (v_aload_n h pX3_match_0 7 rfl 0 rfl rfl (v_get h pX3_match_0 8 fX3_10 0 rfl rfl rfl (v_get h pX3_match_0 9 fX3_161 1 rfl rfl rfl (v_top (w := .int (nI n)) (congrArg Value.int hW.2.1) ?_))))
      refine v_ncmp_ge (a := iA + 1) (b := n) (tgt := 45) h pX3_match_0 10 rfl rfl (by omega) (by omega) (fun c2 => ?_) (fun c2 => ?_)
      · skip
        obtain rfl : (n - 1) = iA := by omega
        refine v_iload_n h pX3_match_0 27 rfl 1 rfl rfl ?_
        exact v_iret h pX3_match_0 28 hR hret rfl ((E, T, Kp, P, S, rowP F 1 (lineS (E 5) (F 1) n))) rfl ⟨vI (by simp [c2]), rfl, rfl, ⟨rfl, rfl⟩, rfl, ⟨rfl, rfl⟩⟩
      · skip
        refine v_iload_n h pX3_match_0 11 rfl 1 rfl rfl (v_aload_n h pX3_match_0 12 rfl 0 rfl rfl (v_get h pX3_match_0 13 fX3_44 0 rfl rfl rfl (v_iload_n h pX3_match_0 14 rfl 2 rfl rfl (v_iald h pX3_match_0 15 (iA + 1) 46 0 rfl rfl rfl rfl rfl (by omega) (v_top (w := .int (srt E n (iA + 1))) (congrArg Value.int (show lineS (E 5) (F 1) n (iA + 1) = _ from lineS_c _ (by omega))) ?_)))))
        refine v_aload_n h pX3_match_0 16 rfl 0 rfl rfl (v_get h pX3_match_0 17 fX3_44 0 rfl rfl rfl (v_iload_n h pX3_match_0 18 rfl 2 rfl rfl (v_iconst h pX3_match_0 19 rfl ki_1 (v_isub h pX3_match_0 20 rfl (v_iald h pX3_match_0 21 iA 46 0 rfl rfl rfl rfl (nI_pred _) (by omega) ?_)))))
        refine v_top (w := .int (srt E n iA)) (congrArg Value.int (show lineS (E 5) (F 1) n iA = _ from lineS_c _ (by omega))) (v_isub h pX3_match_0 22 rfl (v_mmax2 h pX3_match_0 23 wm_522 wm_201 wm_194 wm_202 rfl rfl rfl (v_istore_n h pX3_match_0 24 (lv' := [(1, .int (mx (mxS (srt E n) iA) ((srt E n (iA + 1)) - (srt E n iA)))), (0, .ref (a 0)), (2, .int (nI (iA + 1)))]) rfl rfl hnL rfl rfl (v_iinc h pX3_match_0 25 (v := nI (iA + 1 + 1)) (lv' := [(2, .int (nI (iA + 1 + 1))), (1, .int (mx (mxS (srt E n) iA) ((srt E n (iA + 1)) - (srt E n iA)))), (0, .ref (a 0))]) rfl 2 rfl hnL rfl rfl (nI_1 (iA + 1)) (v_goto (tgt := 8) h pX3_match_0 26 rfl rfl ?_)))))
        refine v_lv [2, 1, 0] (lv' := [(0, .ref (a 0)), (1, .int (mx (mxS (srt E n) iA) ((srt E n (iA + 1)) - (srt E n iA)))), (2, .int (nI (iA + 1 + 1)))]) rfl (v_eql (congrArg (fun z : Int32 => ([(0, .ref (a 0)), (1, .int z), (2, .int (nI (iA + 1 + 1)))] : List (Nat × Value))) (by first | rfl | (simp [mxS, c2]; done) : mx (mxS (srt E n) iA) ((srt E n (iA + 1)) - (srt E n iA)) = mxS (srt E n) (iA + 1))) ?_)
        exact ihA (iA + 1) (by omega) (trivial) (by omega)
  exact LA ((n - 1) + 1) 0 (by omega) trivial (by omega)
set_option maxHeartbeats 300000 in
set_option maxRecDepth 100000 in
theorem kX3_pairs (l : Launch) (D : va_G) (cI cS : ClassId) (a : Nat → Nat) (E T Kp P F : Nat → Nat → Int32) (S : Nat → Nat → Nat → Int32) (n : Nat) (hW : Wf E n) (hZ : E 9 4 = 0) (v : Int32) : vMet l D (vT cI cS) yX3_pairs cX3_pairs 5 (some .int) 1 23 (cW cI cS a) v0 [.ref (a 0), .int v] (E, T, Kp, P, S, F) (cPost (some (.int (cond (inB v 0 999) (nI (prF (srt E n) v n (n + 2) 1)) ((-1000001))))) (E) (Kp) (P) (S) (cond (inB v 0 999) (F) (fndC F 0))) := by
  refine vMet_of (by decide) rfl ?_
  intro K hl hD hnL hret h hR hEx
  subst hl hD
  show V K (cW cI cS a (E, T, Kp, P, S, F)) 0 [(0, .ref (a 0)), (1, .int v)] []
  have hn8 := hW.1
  refine v_iload_n h pX3_pairs_0 0 rfl 1 rfl rfl (v_sipush h pX3_pairs_0 1 rfl ks_999 ?_)
  refine v_callS h pX3_pairs_0 2 mX3_51 (As := [.int v, .int 999]) (st := []) (kX3_isWithin _ _ cI cS v 999) v0B v0C (vEmb_u _) rfl rfl rfl rfl rfl (vDet_k ?_)
  show V K (cW cI cS a (E, T, Kp, P, S, F)) 7 [(0, .ref (a 0)), (1, .int v)] [.int (bI (inB v 0 999))]
  refine v_bif_ne (tgt := 16) h pX3_pairs_0 3 rfl rfl (fun c1 => ?_) (fun c1 => ?_)
  · skip
    refine v_aload_n h pX3_pairs_0 8 rfl 0 rfl rfl ?_
    refine v_callV h pX3_pairs_0 9 mX3_181 (As := []) (st := []) (kX3_sortLayers _ _ cI cS a E T Kp P F S n hW) v0B v0C (vEmb_rf _ _) 0 rfl rfl rfl rfl rfl rfl rfl (vDet_k ?_)
    show V K (cW cI cS a (E, T, Kp, P, S, rowP F 1 (lineS (E 5) (F 1) n))) 20 [(0, .ref (a 0)), (1, .int v)] []
    refine v_iconst h pX3_pairs_0 10 rfl ki_0 (v_istore_n h pX3_pairs_0 11 (lv' := [(2, .int 0), (0, .ref (a 0)), (1, .int v)]) rfl rfl hnL rfl rfl (v_iconst h pX3_pairs_0 12 rfl ki_1 (v_istore_n h pX3_pairs_0 13 (lv' := [(3, .int 1), (2, .int 0), (0, .ref (a 0)), (1, .int v)]) rfl rfl hnL rfl rfl ?_)))
    refine v_lv [2, 3, 1, 0] (lv' := [(0, .ref (a 0)), (1, .int v), (2, .int 0), (3, .int 1)]) rfl ?_
    have LA : ∀ (m c k : Nat), n + 3 ≤ k + m → 0 < k → k ≤ n + 1 → c ≤ k → c + prF (srt E n) v n m k = prF (srt E n) v n (n + 2) 1 → V K (cW cI cS a (E, T, Kp, P, S, rowP F 1 (lineS (E 5) (F 1) n))) 24 [(0, .ref (a 0)), (1, .int v), (2, .int (nI c)), (3, .int (nI k))] [] := by
      intro m
      induction m with
      | zero => exact fun c k h1 h2 h3 h4 h5 => absurd h1 (by omega)
      | succ m ihA =>
        intro c k h1 h2 h3 h4 h5
        refine v_iload_n h pX3_pairs_0 14 rfl 3 rfl rfl (v_aload_n h pX3_pairs_0 15 rfl 0 rfl rfl (v_get h pX3_pairs_0 16 fX3_10 0 rfl rfl rfl (v_get h pX3_pairs_0 17 fX3_161 1 rfl rfl rfl (v_top (w := .int (nI n)) (congrArg Value.int hW.2.1) ?_))))
        refine v_ncmp_ge (a := k) (b := n) (tgt := 85) h pX3_pairs_0 18 rfl rfl (by omega) (by omega) (fun c2 => ?_) (fun c2 => ?_)
        · skip
          refine v_iload_n h pX3_pairs_1 16 rfl 2 rfl rfl ?_
          exact v_iret h pX3_pairs_1 17 hR hret rfl ((E, T, Kp, P, S, rowP F 1 (lineS (E 5) (F 1) n))) rfl ⟨vI (by first | (simp [c1, c2]; done) | (simp only [c1, c2, cond_true]; have e := prF_0 (g := srt E n) (v := v) (n := n) (m := m) (k := k) (by omega); rw [← h5, e]; rfl)), rfl, rfl, ⟨rfl, rfl⟩, rfl, (by first | (refine fR_of ?_; simp [c1, c2]; done) | (simp only [c1, c2, cond_true]; exact ⟨rfl, rfl⟩))⟩
        · skip
          refine v_aload_n h pX3_pairs_0 19 rfl 0 rfl rfl (v_get h pX3_pairs_0 20 fX3_44 0 rfl rfl rfl (v_iload_n h pX3_pairs_0 21 rfl 3 rfl rfl (v_iald h pX3_pairs_0 22 k 46 0 rfl rfl rfl rfl rfl (by omega) (v_top (w := .int (srt E n k)) (congrArg Value.int (show lineS (E 5) (F 1) n k = _ from lineS_c _ (by omega))) (v_aload_n h pX3_pairs_0 23 rfl 0 rfl rfl ?_)))))
          refine v_get h pX3_pairs_0 24 fX3_44 0 rfl rfl rfl (v_iload_n h pX3_pairs_0 25 rfl 3 rfl rfl (v_iconst h pX3_pairs_0 26 rfl ki_1 (v_isub h pX3_pairs_0 27 rfl (v_iald h pX3_pairs_0 28 (k - 1) 46 0 rfl rfl rfl rfl (nI_p1 (by omega)) (by omega) (v_top (w := .int (srt E n (k - 1))) (congrArg Value.int (show lineS (E 5) (F 1) n (k - 1) = _ from lineS_c _ (by omega))) ?_)))))
          refine v_isub h pX3_pairs_0 29 rfl (v_iload_n h pX3_pairs_0 30 rfl 1 rfl rfl ?_)
          refine v_icmp_gt (tgt := 58) h pX3_pairs_0 31 rfl rfl (fun c3 => ?_) (fun c3 => ?_)
          · skip
            refine v_iconst h pX3_pairs_1 2 rfl ki_0 (v_istore h pX3_pairs_1 3 (lv' := [(4, .int 0), (0, .ref (a 0)), (1, .int v), (2, .int (nI c)), (3, .int (nI k))]) rfl hnL rfl rfl (v_iload h pX3_pairs_1 4 rfl 0 rfl ?_))
            refine v_if_eq (tgt := 69) h pX3_pairs_1 5 rfl rfl (fun c4 => ?_) (fun c4 => absurd c4 (by decide))
            refine v_iload_n h pX3_pairs_1 7 rfl 4 rfl rfl (v_iload h pX3_pairs_1 8 rfl 0 rfl ?_)
            refine v_if_eq (tgt := 79) h pX3_pairs_1 9 rfl rfl (fun c5 => ?_) (fun c5 => absurd c5 (by decide))
            refine v_iconst h pX3_pairs_1 12 rfl ki_1 (v_iaddn h pX3_pairs_1 13 k 1 rfl (v_istore_n h pX3_pairs_1 14 (lv' := [(3, .int (nI (k + 1))), (4, .int 0), (0, .ref (a 0)), (1, .int v), (2, .int (nI c))]) rfl rfl hnL rfl rfl (v_goto (tgt := 24) h pX3_pairs_1 15 rfl rfl (v_lv [2, 3, 4, 0] (lv' := [(0, .ref (a 0)), (1, .int v), (2, .int (nI c)), (3, .int (nI (k + 1)))]) rfl ?_))))
            exact ihA (c) (k + 1) (by omega) (by omega) (by omega) (by omega) (by first | (have e := prF_1 (m := m) c2 c3; omega) | (have e := prF_2 (m := m) c2 c3; omega))
          · skip
            refine v_iconst h pX3_pairs_1 0 rfl ki_1 (v_goto (tgt := 59) h pX3_pairs_1 1 rfl rfl (v_istore h pX3_pairs_1 3 (lv' := [(4, .int 1), (0, .ref (a 0)), (1, .int v), (2, .int (nI c)), (3, .int (nI k))]) rfl hnL rfl rfl (v_iload h pX3_pairs_1 4 rfl 0 rfl ?_)))
            refine v_if_eq (tgt := 69) h pX3_pairs_1 5 rfl rfl (fun c6 => absurd c6 (by decide)) (fun c6 => ?_)
            refine v_iinc h pX3_pairs_1 6 (v := nI (c + 1)) (lv' := [(2, .int (nI (c + 1))), (4, .int 1), (0, .ref (a 0)), (1, .int v), (3, .int (nI k))]) rfl 3 rfl hnL rfl rfl (nI_1 c) (v_iload_n h pX3_pairs_1 7 rfl 4 rfl rfl (v_iload h pX3_pairs_1 8 rfl 1 rfl ?_))
            refine v_if_eq (tgt := 79) h pX3_pairs_1 9 rfl rfl (fun c7 => absurd c7 (by decide)) (fun c7 => ?_)
            refine v_iconst h pX3_pairs_1 10 rfl ki_2 (v_goto (tgt := 80) h pX3_pairs_1 11 rfl rfl (v_iaddn h pX3_pairs_1 13 k 2 rfl (v_istore_n h pX3_pairs_1 14 (lv' := [(3, .int (nI (k + 2))), (2, .int (nI (c + 1))), (4, .int 1), (0, .ref (a 0)), (1, .int v)]) rfl rfl hnL rfl rfl (v_goto (tgt := 24) h pX3_pairs_1 15 rfl rfl (v_lv [3, 4, 1, 0] (lv' := [(0, .ref (a 0)), (1, .int v), (2, .int (nI (c + 1))), (3, .int (nI (k + 2)))]) rfl ?_)))))
            exact ihA (c + 1) (k + 2) (by omega) (by omega) (by omega) (by omega) (by first | (have e := prF_1 (m := m) c2 c3; omega) | (have e := prF_2 (m := m) c2 c3; omega))
    exact LA (n + 2) 0 1 (by omega) (by omega) (by omega) (by omega) (by omega)
  · skip
    refine v_aload_n h pX3_pairs_0 4 rfl 0 rfl rfl (v_iconst h pX3_pairs_0 5 rfl ki_0 ?_)
    refine v_callV h pX3_pairs_0 6 mX3_55 (As := [.int 0]) (st := []) (kX3_finding _ _ cI cS a E T Kp P F S 0 (by decide)) v0B v0C (vEmb_rf _ _) 0 rfl rfl rfl rfl rfl rfl rfl (vDet_k ?_)
    show V K (cW cI cS a (E, T, Kp, P, S, fndC F 0)) 15 [(0, .ref (a 0)), (1, .int v)] [.int ((-1000001) - (nI 0))]
    refine v_top (w := .int (-1000001)) (by decide) ?_
    exact v_iret h pX3_pairs_0 7 hR hret rfl ((E, T, Kp, P, S, fndC F 0)) rfl ⟨vI (by first | (simp [c1]; done) | (simp only [c1, cond_true]; have e := prF_0 (g := srt E n) (v := v) (n := n) (m := m) (k := k) (by omega); rw [← h5, e]; rfl)), rfl, rfl, ⟨rfl, rfl⟩, rfl, (by first | (refine fR_of ?_; simp [c1]; done) | (simp only [c1, cond_true]; exact ⟨rfl, rfl⟩))⟩
set_option maxHeartbeats 300000 in
set_option maxRecDepth 100000 in
theorem kX3_alike (l : Launch) (D : va_G) (cI cS : ClassId) (a : Nat → Nat) (E T Kp P F : Nat → Nat → Int32) (S : Nat → Nat → Nat → Int32) (n : Nat) (hW : Wf E n) (hZ : E 9 4 = 0) (y v : Int32) : vMet l D (vT cI cS) yX3_alike cX3_alike 5 (some .int) 2 42 (cW cI cS a) v0 [.ref (a 0), .int y, .int v] (E, T, Kp, P, S, F) (cPost (some (.int (cond (oyB y n && inB v 0 999) (setS (alkB E (ix y) v) n) ((-1000001))))) (E) (Kp) (P) (S) (cond (oyB y n && inB v 0 999) (F) (fndC F 0))) := by
  refine vMet_of (by decide) rfl ?_
  intro K hl hD hnL hret h hR hEx
  subst hl hD
  show V K (cW cI cS a (E, T, Kp, P, S, F)) 0 [(0, .ref (a 0)), (1, .int y), (2, .int v)] []
  have hn8 := hW.1
  refine v_aload_n h pX3_alike_0 0 rfl 0 rfl rfl (v_iload_n h pX3_alike_0 1 rfl 1 rfl rfl ?_)
  refine v_callV h pX3_alike_0 2 mX3_83 (As := [.int y]) (st := []) (kX3_isOyster _ _ cI cS a E T Kp P F S n hW y) v0B v0C (vEmb_rf _ _) 0 rfl rfl rfl rfl rfl rfl rfl (vDet_k ?_)
  show V K (cW cI cS a (E, T, Kp, P, S, F)) 5 [(0, .ref (a 0)), (1, .int y), (2, .int v)] [.int (bI (oyB y n))]
  refine v_bif_eq (tgt := 18) h pX3_alike_0 3 rfl rfl (fun c1 => ?_) (fun c1 => ?_)
  · skip
    refine v_aload_n h pX3_alike_0 8 rfl 0 rfl rfl (v_iconst h pX3_alike_0 9 rfl ki_0 ?_)
    refine v_callV h pX3_alike_0 10 mX3_55 (As := [.int 0]) (st := []) (kX3_finding _ _ cI cS a E T Kp P F S 0 (by decide)) v0B v0C (vEmb_rf _ _) 0 rfl rfl rfl rfl rfl rfl rfl (vDet_k ?_)
    show V K (cW cI cS a (E, T, Kp, P, S, fndC F 0)) 23 [(0, .ref (a 0)), (1, .int y), (2, .int v)] [.int ((-1000001) - (nI 0))]
    refine v_top (w := .int (-1000001)) (by decide) ?_
    exact v_iret h pX3_alike_0 11 hR hret rfl ((E, T, Kp, P, S, fndC F 0)) rfl ⟨vI (by simp [c1]), rfl, rfl, ⟨rfl, rfl⟩, rfl, (fR_of (by simp [c1, True]))⟩
  · skip
    obtain ⟨e_y, l_y⟩ := oyB_t hn8 c1
    refine v_iload_n h pX3_alike_0 4 rfl 2 rfl rfl (v_sipush h pX3_alike_0 5 rfl ks_999 ?_)
    refine v_callS h pX3_alike_0 6 mX3_51 (As := [.int v, .int 999]) (st := []) (kX3_isWithin _ _ cI cS v 999) v0B v0C (vEmb_u _) rfl rfl rfl rfl rfl (vDet_k ?_)
    show V K (cW cI cS a (E, T, Kp, P, S, F)) 15 [(0, .ref (a 0)), (1, .int y), (2, .int v)] [.int (bI (inB v 0 999))]
    refine v_bif_ne (tgt := 24) h pX3_alike_0 7 rfl rfl (fun c2 => ?_) (fun c2 => ?_)
    · skip
      refine v_iconst h pX3_alike_0 12 rfl ki_0 (v_istore_n h pX3_alike_0 13 (lv' := [(3, .int 0), (0, .ref (a 0)), (1, .int y), (2, .int v)]) rfl rfl hnL rfl rfl (v_iconst h pX3_alike_0 14 rfl ki_0 (v_istore h pX3_alike_0 15 (lv' := [(4, .int 0), (3, .int 0), (0, .ref (a 0)), (1, .int y), (2, .int v)]) rfl hnL rfl rfl ?_)))
      refine v_lv [2, 3, 4, 1, 0] (lv' := [(0, .ref (a 0)), (1, .int y), (2, .int v), (3, .int 0), (4, .int 0)]) rfl ?_
      have L3 : ∀ (m i3 : Nat), i3 ≤ n → n + 1 ≤ i3 + m → V K (cW cI cS a (E, T, Kp, P, S, F)) 29 [(0, .ref (a 0)), (1, .int y), (2, .int v), (3, .int (setS (alkB E (ix y) v) i3)), (4, .int (nI i3))] [] := by
        intro m
        induction m with
        | zero => exact fun i3 h1 h2 => absurd h2 (by omega)
        | succ m ih3 =>
          intro i3 hle3 hlt3
          refine v_iload h pX3_alike_0 16 rfl 4 rfl (v_aload_n h pX3_alike_0 17 rfl 0 rfl rfl (v_get h pX3_alike_0 18 fX3_10 0 rfl rfl rfl (v_get h pX3_alike_0 19 fX3_161 1 rfl rfl rfl (v_top (w := .int (nI n)) (congrArg Value.int hW.2.1) ?_))))
          refine v_ncmp_ge (a := i3) (b := n) (tgt := 81) h pX3_alike_0 20 rfl rfl (by omega) (by omega) (fun c4 => ?_) (fun c4 => ?_)
          · skip
            obtain rfl : n = i3 := by omega
            refine v_iload_n h pX3_alike_1 11 rfl 3 rfl rfl ?_
            exact v_iret h pX3_alike_1 12 hR hret rfl ((E, T, Kp, P, S, F)) rfl ⟨vI (by simp [c1, c2, c4]), rfl, rfl, ⟨rfl, rfl⟩, rfl, (fR_of (by simp [c1, c2, c4, True]))⟩
          · skip
            refine v_aload_n h pX3_alike_0 21 rfl 0 rfl rfl (v_get h pX3_alike_0 22 fX3_10 0 rfl rfl rfl (v_get h pX3_alike_0 23 fX3_116 1 rfl rfl rfl (v_iload h pX3_alike_0 24 rfl 4 rfl (v_iald h pX3_alike_0 25 i3 7 0 rfl rfl rfl rfl rfl (by omega) (v_aload_n h pX3_alike_0 26 rfl 0 rfl rfl ?_)))))
            refine v_get h pX3_alike_0 27 fX3_10 0 rfl rfl rfl (v_get h pX3_alike_0 28 fX3_116 1 rfl rfl rfl (v_iload_n h pX3_alike_0 29 rfl 1 rfl rfl (v_top (w := .int (nI (ix y))) (congrArg Value.int e_y) (v_iald h pX3_alike_0 30 (ix y) 7 0 rfl rfl rfl rfl rfl (by omega) (v_isub h pX3_alike_0 31 rfl ?_)))))
            refine v_mabs2 h pX3_alike_1 0 wm_511 wm_512 wm_194 wm_513 rfl rfl rfl (v_iload_n h pX3_alike_1 1 rfl 2 rfl rfl ?_)
            refine v_icmp_gt (tgt := 75) h pX3_alike_1 2 rfl rfl (fun c5 => ?_) (fun c5 => ?_)
            · skip
              have c5q : alkB E (ix y) v i3 = false := alk_f hW (by omega) (by omega) c2 c5
              refine v_iinc h pX3_alike_1 9 (v := nI (i3 + 1)) (lv' := [(4, .int (nI (i3 + 1))), (0, .ref (a 0)), (1, .int y), (2, .int v), (3, .int (setS (alkB E (ix y) v) i3))]) rfl 4 rfl hnL rfl rfl (nI_1 i3) (v_goto (tgt := 29) h pX3_alike_1 10 rfl rfl (v_lv [1, 2, 3, 4, 0] (lv' := [(0, .ref (a 0)), (1, .int y), (2, .int v), (3, .int (setS (alkB E (ix y) v) i3)), (4, .int (nI (i3 + 1)))]) rfl (v_eql (congrArg (fun z : Int32 => ([(0, .ref (a 0)), (1, .int y), (2, .int v), (3, .int z), (4, .int (nI (i3 + 1)))] : List (Nat × Value))) (by simp [setS, c1, c2, c4, c5q] : setS (alkB E (ix y) v) i3 = setS (alkB E (ix y) v) (i3 + 1))) ?_)))
              exact ih3 (i3 + 1) (by omega) (by omega)
            · skip
              have c5q : alkB E (ix y) v i3 = true := alk_t hW (by omega) (by omega) c2 c5
              refine v_iload_n h pX3_alike_1 3 rfl 3 rfl rfl (v_iconst h pX3_alike_1 4 rfl ki_1 (v_iload h pX3_alike_1 5 rfl 4 rfl (v_ishl h pX3_alike_1 6 rfl (v_ior h pX3_alike_1 7 rfl (v_istore_n h pX3_alike_1 8 (lv' := [(3, .int ((setS (alkB E (ix y) v) i3) ||| (1 <<< ((nI i3) &&& 31)))), (0, .ref (a 0)), (1, .int y), (2, .int v), (4, .int (nI i3))]) rfl rfl hnL rfl rfl ?_)))))
              refine v_iinc h pX3_alike_1 9 (v := nI (i3 + 1)) (lv' := [(4, .int (nI (i3 + 1))), (3, .int ((setS (alkB E (ix y) v) i3) ||| (1 <<< ((nI i3) &&& 31)))), (0, .ref (a 0)), (1, .int y), (2, .int v)]) rfl 4 rfl hnL rfl rfl (nI_1 i3) (v_goto (tgt := 29) h pX3_alike_1 10 rfl rfl (v_lv [2, 3, 4, 1, 0] (lv' := [(0, .ref (a 0)), (1, .int y), (2, .int v), (3, .int ((setS (alkB E (ix y) v) i3) ||| (1 <<< ((nI i3) &&& 31)))), (4, .int (nI (i3 + 1)))]) rfl (v_eql (congrArg (fun z : Int32 => ([(0, .ref (a 0)), (1, .int y), (2, .int v), (3, .int z), (4, .int (nI (i3 + 1)))] : List (Nat × Value))) (by simp [setS, c1, c2, c4, c5q] : (setS (alkB E (ix y) v) i3) ||| (1 <<< ((nI i3) &&& 31)) = setS (alkB E (ix y) v) (i3 + 1))) ?_)))
              exact ih3 (i3 + 1) (by omega) (by omega)
      exact L3 (n + 1) 0 (by omega) (by omega)
    · skip
      refine v_aload_n h pX3_alike_0 8 rfl 0 rfl rfl (v_iconst h pX3_alike_0 9 rfl ki_0 ?_)
      refine v_callV h pX3_alike_0 10 mX3_55 (As := [.int 0]) (st := []) (kX3_finding _ _ cI cS a E T Kp P F S 0 (by decide)) v0B v0C (vEmb_rf _ _) 0 rfl rfl rfl rfl rfl rfl rfl (vDet_k ?_)
      show V K (cW cI cS a (E, T, Kp, P, S, fndC F 0)) 23 [(0, .ref (a 0)), (1, .int y), (2, .int v)] [.int ((-1000001) - (nI 0))]
      refine v_top (w := .int (-1000001)) (by decide) ?_
      exact v_iret h pX3_alike_0 11 hR hret rfl ((E, T, Kp, P, S, fndC F 0)) rfl ⟨vI (by simp [c1, c2]), rfl, rfl, ⟨rfl, rfl⟩, rfl, (fR_of (by simp [c1, c2, True]))⟩
set_option maxHeartbeats 300000 in
set_option maxRecDepth 100000 in
theorem kX3_growsWithout (l : Launch) (D : va_G) (cI cS : ClassId) (a : Nat → Nat) (E T Kp P F : Nat → Nat → Int32) (S : Nat → Nat → Nat → Int32) (n : Nat) (hW : Wf E n) (s y k : Nat) (hy : y < 8) (hk : k ≤ 1000) (v : Int32) : vDet l D (vT cI cS) yX3_growsWithout cX3_growsWithout 5 (some .boolean) 5 104 (cW cI cS a) [.ref (a 0), .int (nI s), .int (nI y), .int v, .int (nI k)] (E, T, Kp, P, S, F) (some (.int (bI (!decide (yearsS n (nI s) E k 5 y < v))))) ((E, up (yearsS n (nI s) E k) 9 4 (nI s), Kp, P, S, F)) := by
  refine vMet_of (by decide) rfl ?_
  intro K hl hD hnL hret h hR hEx
  subst hl hD
  show V K (cW cI cS a (E, T, Kp, P, S, F)) 0 [(0, .ref (a 0)), (1, .int (nI s)), (2, .int (nI y)), (3, .int v), (4, .int (nI k))] []
  refine v_aload_n h pX3_growsWithout_0 0 rfl 0 rfl rfl (v_get h pX3_growsWithout_0 1 fX3_16 0 rfl rfl rfl (v_aload_n h pX3_growsWithout_0 2 rfl 0 rfl rfl (v_get h pX3_growsWithout_0 3 fX3_10 0 rfl rfl rfl ?_)))
  refine v_callV h pX3_growsWithout_0 4 mX3_139 (As := [.ref (a 1)]) (st := []) (kX0_copyFrom _ _ cI cS (sh a 11) (sh a 1) E T) v0B v0C emb_TE 11 rfl rfl rfl rfl rfl rfl rfl (vDet_k ?_)
  show V K (cW cI cS a (E, E, Kp, P, S, F)) 11 [(0, .ref (a 0)), (1, .int (nI s)), (2, .int (nI y)), (3, .int v), (4, .int (nI k))] []
  refine v_aload_n h pX3_growsWithout_0 5 rfl 0 rfl rfl (v_get h pX3_growsWithout_0 6 fX3_16 0 rfl rfl rfl (v_iload_n h pX3_growsWithout_0 7 rfl 1 rfl rfl (v_puti h pX3_growsWithout_0 8 gX3_173 11 (ws' := cW cI cS a (E, up E 9 4 (nI s), Kp, P, S, F)) rfl rfl rfl cW_Tp4 (v_aload_n h pX3_growsWithout_0 9 rfl 0 rfl rfl (v_get h pX3_growsWithout_0 10 fX3_16 0 rfl rfl rfl ?_)))))
  refine v_iload h pX3_growsWithout_0 11 rfl 4 rfl ?_
  refine v_callV h pX3_growsWithout_0 12 mX3_113 (As := [.int (nI k)]) (st := []) (kX0_passYearsU _ _ cI cS (sh a 11) E (nI s) n hW k (by omega)) v0B v0C emb_T 11 rfl rfl rfl rfl rfl rfl rfl (vDet_k ?_)
  show V K (cW cI cS a (E, up (yearsS n (nI s) E k) 9 4 (nI s), Kp, P, S, F)) 28 [(0, .ref (a 0)), (1, .int (nI s)), (2, .int (nI y)), (3, .int v), (4, .int (nI k))] []
  refine v_aload_n h pX3_growsWithout_0 13 rfl 0 rfl rfl (v_get h pX3_growsWithout_0 14 fX3_16 0 rfl rfl rfl (v_get h pX3_growsWithout_0 15 fX3_116 11 rfl rfl rfl (v_iload_n h pX3_growsWithout_0 16 rfl 2 rfl rfl (v_iald h pX3_growsWithout_0 17 y 17 0 rfl rfl rfl rfl rfl (by omega) ?_))))
  refine v_top (w := .int (yearsS n (nI s) E k 5 y)) rfl (v_iload_n h pX3_growsWithout_0 18 rfl 3 rfl rfl ?_)
  refine v_icmp_lt (tgt := 45) h pX3_growsWithout_0 19 rfl rfl (fun c1 => ?_) (fun c1 => ?_)
  · skip
    refine v_iconst h pX3_growsWithout_0 22 rfl ki_0 ?_
    exact v_zret h pX3_growsWithout_0 23 (Or.inl rfl) hR hret rfl ((E, up (yearsS n (nI s) E k) 9 4 (nI s), Kp, P, S, F)) rfl ⟨vI (by simp [bI, c1]), rfl⟩
  · skip
    refine v_iconst h pX3_growsWithout_0 20 rfl ki_1 (v_goto (tgt := 46) h pX3_growsWithout_0 21 rfl rfl ?_)
    exact v_zret h pX3_growsWithout_0 23 (Or.inr rfl) hR hret rfl ((E, up (yearsS n (nI s) E k) 9 4 (nI s), Kp, P, S, F)) rfl ⟨vI (by simp [bI, c1]), rfl⟩
set_option maxHeartbeats 300000 in
set_option maxRecDepth 100000 in
theorem kX3_room (l : Launch) (D : va_G) (cI cS : ClassId) (a : Nat → Nat) (E T Kp P F : Nat → Nat → Int32) (S : Nat → Nat → Nat → Int32) (n : Nat) (hW : Wf E n) (hZ : E 9 4 = 0) (y v w : Int32) : vMet l D (vT cI cS) yX3_room cX3_room 9 (some .int) 6 128 (cW cI cS a) v0 [.ref (a 0), .int y, .int v, .int w] (E, T, Kp, P, S, F) (cPost (some (.int (cond (oyB y n && (inB v 0 999 && inB w 0 20)) (if rmS (fun k => !decide (yearsS n (nI k) E (ix w) 5 (ix y) < v)) (ix y) (2 ^ n) < 0 then (-1000004) else rmS (fun k => !decide (yearsS n (nI k) E (ix w) 5 (ix y) < v)) (ix y) (2 ^ n)) ((-1000001))))) (E) (Kp) (P) (S) (cond (oyB y n && (inB v 0 999 && inB w 0 20)) (if rmS (fun k => !decide (yearsS n (nI k) E (ix w) 5 (ix y) < v)) (ix y) (2 ^ n) < 0 then fndC F 3 else F) (fndC F 0))) := by
  refine vMet_of (by decide) rfl ?_
  intro K hl hD hnL hret h hR hEx
  subst hl hD
  show V K (cW cI cS a (E, T, Kp, P, S, F)) 0 [(0, .ref (a 0)), (1, .int y), (2, .int v), (3, .int w)] []
  have hn8 := hW.1
  have hpw := pow_256 hn8
  have hpp := Nat.two_pow_pos n
  refine v_aload_n h pX3_room_0 0 rfl 0 rfl rfl (v_iload_n h pX3_room_0 1 rfl 1 rfl rfl ?_)
  refine v_callV h pX3_room_0 2 mX3_83 (As := [.int y]) (st := []) (kX3_isOyster _ _ cI cS a E T Kp P F S n hW y) v0B v0C (vEmb_rf _ _) 0 rfl rfl rfl rfl rfl rfl rfl (vDet_k ?_)
  show V K (cW cI cS a (E, T, Kp, P, S, F)) 5 [(0, .ref (a 0)), (1, .int y), (2, .int v), (3, .int w)] [.int (bI (oyB y n))]
  refine v_bif_eq (tgt := 27) h pX3_room_0 3 rfl rfl (fun c1 => ?_) (fun c1 => ?_)
  · skip
    refine v_aload_n h pX3_room_0 12 rfl 0 rfl rfl (v_iconst h pX3_room_0 13 rfl ki_0 ?_)
    refine v_callV h pX3_room_0 14 mX3_55 (As := [.int 0]) (st := []) (kX3_finding _ _ cI cS a E T Kp P F S 0 (by decide)) v0B v0C (vEmb_rf _ _) 0 rfl rfl rfl rfl rfl rfl rfl (vDet_k ?_)
    show V K (cW cI cS a (E, T, Kp, P, S, fndC F 0)) 32 [(0, .ref (a 0)), (1, .int y), (2, .int v), (3, .int w)] [.int ((-1000001) - (nI 0))]
    refine v_top (w := .int (-1000001)) (by decide) ?_
    exact v_iret h pX3_room_0 15 hR hret rfl ((E, T, Kp, P, S, fndC F 0)) rfl ⟨vI (by first | (simp [c1, -Int32.not_lt]; done) | (simp only [c1, Bool.and_self, cond_true]; have er := rm_no (r := rmS (fun k => !decide (yearsS n (nI k) E (ix w) 5 (ix y) < v)) (ix y) (2 ^ n)) (by omega); rw [if_pos er]; done) | (simp only [c1, Bool.and_self, cond_true]; have er := rm_yes (r := rmS (fun k => !decide (yearsS n (nI k) E (ix w) 5 (ix y) < v)) (ix y) (2 ^ n)) (by omega); rw [if_neg er, btS, if_neg er]; done) | (simp only [c1, Bool.and_self, cond_true]; have er := rm_yes (r := rmS (fun k => !decide (yearsS n (nI k) E (ix w) 5 (ix y) < v)) (ix y) (2 ^ n)) (by omega); rw [if_neg er]; done)), rfl, rfl, ⟨rfl, rfl⟩, rfl, (fR_of (by first | (simp [c1, -Int32.not_lt]; done) | (simp only [c1, Bool.and_self, cond_true]; have er := rm_no (r := rmS (fun k => !decide (yearsS n (nI k) E (ix w) 5 (ix y) < v)) (ix y) (2 ^ n)) (by omega); rw [if_pos er]; done) | (simp only [c1, Bool.and_self, cond_true]; have er := rm_yes (r := rmS (fun k => !decide (yearsS n (nI k) E (ix w) 5 (ix y) < v)) (ix y) (2 ^ n)) (by omega); rw [if_neg er, btS, if_neg er]; done) | (simp only [c1, Bool.and_self, cond_true]; have er := rm_yes (r := rmS (fun k => !decide (yearsS n (nI k) E (ix w) 5 (ix y) < v)) (ix y) (2 ^ n)) (by omega); rw [if_neg er]; done)))⟩
  · skip
    obtain ⟨e_y, l_y⟩ := oyB_t hn8 c1
    refine v_iload_n h pX3_room_0 4 rfl 2 rfl rfl (v_sipush h pX3_room_0 5 rfl ks_999 ?_)
    refine v_callS h pX3_room_0 6 mX3_51 (As := [.int v, .int 999]) (st := []) (kX3_isWithin _ _ cI cS v 999) v0B v0C (vEmb_u _) rfl rfl rfl rfl rfl (vDet_k ?_)
    show V K (cW cI cS a (E, T, Kp, P, S, F)) 15 [(0, .ref (a 0)), (1, .int y), (2, .int v), (3, .int w)] [.int (bI (inB v 0 999))]
    refine v_bif_eq (tgt := 27) h pX3_room_0 7 rfl rfl (fun c2 => ?_) (fun c2 => ?_)
    · skip
      refine v_aload_n h pX3_room_0 12 rfl 0 rfl rfl (v_iconst h pX3_room_0 13 rfl ki_0 ?_)
      refine v_callV h pX3_room_0 14 mX3_55 (As := [.int 0]) (st := []) (kX3_finding _ _ cI cS a E T Kp P F S 0 (by decide)) v0B v0C (vEmb_rf _ _) 0 rfl rfl rfl rfl rfl rfl rfl (vDet_k ?_)
      show V K (cW cI cS a (E, T, Kp, P, S, fndC F 0)) 32 [(0, .ref (a 0)), (1, .int y), (2, .int v), (3, .int w)] [.int ((-1000001) - (nI 0))]
      refine v_top (w := .int (-1000001)) (by decide) ?_
      exact v_iret h pX3_room_0 15 hR hret rfl ((E, T, Kp, P, S, fndC F 0)) rfl ⟨vI (by first | (simp [c1, c2, -Int32.not_lt]; done) | (simp only [c1, c2, Bool.and_self, cond_true]; have er := rm_no (r := rmS (fun k => !decide (yearsS n (nI k) E (ix w) 5 (ix y) < v)) (ix y) (2 ^ n)) (by omega); rw [if_pos er]; done) | (simp only [c1, c2, Bool.and_self, cond_true]; have er := rm_yes (r := rmS (fun k => !decide (yearsS n (nI k) E (ix w) 5 (ix y) < v)) (ix y) (2 ^ n)) (by omega); rw [if_neg er, btS, if_neg er]; done) | (simp only [c1, c2, Bool.and_self, cond_true]; have er := rm_yes (r := rmS (fun k => !decide (yearsS n (nI k) E (ix w) 5 (ix y) < v)) (ix y) (2 ^ n)) (by omega); rw [if_neg er]; done)), rfl, rfl, ⟨rfl, rfl⟩, rfl, (fR_of (by first | (simp [c1, c2, -Int32.not_lt]; done) | (simp only [c1, c2, Bool.and_self, cond_true]; have er := rm_no (r := rmS (fun k => !decide (yearsS n (nI k) E (ix w) 5 (ix y) < v)) (ix y) (2 ^ n)) (by omega); rw [if_pos er]; done) | (simp only [c1, c2, Bool.and_self, cond_true]; have er := rm_yes (r := rmS (fun k => !decide (yearsS n (nI k) E (ix w) 5 (ix y) < v)) (ix y) (2 ^ n)) (by omega); rw [if_neg er, btS, if_neg er]; done) | (simp only [c1, c2, Bool.and_self, cond_true]; have er := rm_yes (r := rmS (fun k => !decide (yearsS n (nI k) E (ix w) 5 (ix y) < v)) (ix y) (2 ^ n)) (by omega); rw [if_neg er]; done)))⟩
    · skip
      refine v_iload_n h pX3_room_0 8 rfl 3 rfl rfl (v_bipush h pX3_room_0 9 rfl kb_20 ?_)
      refine v_callS h pX3_room_0 10 mX3_51 (As := [.int w, .int 20]) (st := []) (kX3_isWithin _ _ cI cS w 20) v0B v0C (vEmb_u _) rfl rfl rfl rfl rfl (vDet_k ?_)
      show V K (cW cI cS a (E, T, Kp, P, S, F)) 24 [(0, .ref (a 0)), (1, .int y), (2, .int v), (3, .int w)] [.int (bI (inB w 0 20))]
      refine v_bif_ne (tgt := 33) h pX3_room_0 11 rfl rfl (fun c3 => ?_) (fun c3 => ?_)
      · skip
        obtain ⟨e_w, l_w⟩ := inB_t 20 rfl (by decide) c3
        refine v_iconst h pX3_room_0 16 rfl ki_0 (v_istore h pX3_room_0 17 (lv' := [(4, .int 0), (0, .ref (a 0)), (1, .int y), (2, .int v), (3, .int w)]) rfl hnL rfl rfl (v_bipush h pX3_room_0 18 rfl kb_9 (v_istore h pX3_room_0 19 (lv' := [(5, .int 9), (4, .int 0), (0, .ref (a 0)), (1, .int y), (2, .int v), (3, .int w)]) rfl hnL rfl rfl (v_iconst h pX3_room_0 20 rfl ki_1 (v_aload_n h pX3_room_0 21 rfl 2 rfl rfl ?_)))))
        refine v_get h pX3_room_0 22 fX3_10 0 rfl rfl rfl (v_get h pX3_room_0 23 fX3_161 1 rfl rfl rfl (v_top (w := .int (nI n)) (congrArg Value.int hW.2.1) (v_ishl h pX3_room_0 24 rfl ?_)))
        refine v_top (w := .int (nI (2 ^ n))) (congrArg Value.int (shl_n n (by omega))) (v_istore h pX3_room_0 25 (lv' := [(6, .int (nI (2 ^ n))), (5, .int 9), (4, .int 0), (0, .ref (a 0)), (1, .int y), (2, .int v), (3, .int w)]) rfl hnL rfl rfl (v_iconst h pX3_room_0 26 rfl ki_0 (v_istore h pX3_room_0 27 (lv' := [(7, .int 0), (6, .int (nI (2 ^ n))), (5, .int 9), (4, .int 0), (0, .ref (a 0)), (1, .int y), (2, .int v), (3, .int w)]) rfl hnL rfl rfl ?_)))
        refine v_lv [4, 5, 6, 7, 3, 2, 1, 0] (lv' := [(0, .ref (a 0)), (1, .int y), (2, .int v), (3, .int w), (4, .int 0), (5, .int 9), (6, .int (nI (2 ^ n))), (7, .int 0)]) rfl ?_
        have LA : ∀ (m iA : Nat) (TA : Nat → Nat → Int32), iA ≤ (2 ^ n) → (True) → (2 ^ n) + 1 ≤ iA + m → V K (cW cI cS a (E, TA, Kp, P, S, F)) 54 [(0, .ref (a 0)), (1, .int y), (2, .int v), (3, .int w), (4, .int (btS (rmS (fun k => !decide (yearsS n (nI k) E (ix w) 5 (ix y) < v)) (ix y) iA))), (5, .int (nI (fwS (rmS (fun k => !decide (yearsS n (nI k) E (ix w) 5 (ix y) < v)) (ix y) iA)))), (6, .int (nI (2 ^ n))), (7, .int (nI iA))] [] := by
          intro m
          induction m with
          | zero => exact fun iA TA h1 hh h2 => absurd h2 (by omega)
          | succ m ihA =>
            intro iA TA hleA hhA hltA
            have hp1 := popc_le iA
            have hp2 := fwS_le (rmS (fun k => !decide (yearsS n (nI k) E (ix w) 5 (ix y) < v)) (ix y) iA)
            refine v_iload h pX3_room_0 28 rfl 7 rfl (v_iload h pX3_room_0 29 rfl 6 rfl ?_)
            refine v_ncmp_ge (a := iA) (b := (2 ^ n)) (tgt := 121) h pX3_room_0 30 rfl rfl (by omega) (by omega) (fun c5 => ?_) (fun c5 => ?_)
            · skip
              obtain rfl : (2 ^ n) = iA := by omega
              have hp3 := fwS_le (rmS (fun k => !decide (yearsS n (nI k) E (ix w) 5 (ix y) < v)) (ix y) (2 ^ n))
              refine v_iload h pX3_room_1 29 rfl 5 rfl (v_bipush h pX3_room_1 30 rfl kb_8 ?_)
              refine v_ncmp_le (a := fwS (rmS (fun k => !decide (yearsS n (nI k) E (ix w) 5 (ix y) < v)) (ix y) ((2 ^ n)))) (b := 8) (tgt := 136) h pX3_room_1 31 rfl rfl (by omega) (by omega) (fun c6 => ?_) (fun c6 => ?_)
              · skip
                refine v_iload h pX3_room_2 4 rfl 4 rfl ?_
                exact v_iret h pX3_room_2 5 hR hret rfl ((E, TA, Kp, P, S, F)) rfl ⟨vI (by first | (simp [c1, c2, c3, c5, c6, -Int32.not_lt]; done) | (simp only [c1, c2, c3, c5, c6, Bool.and_self, cond_true]; have er := rm_no (r := rmS (fun k => !decide (yearsS n (nI k) E (ix w) 5 (ix y) < v)) (ix y) (2 ^ n)) (by omega); rw [if_pos er]; done) | (simp only [c1, c2, c3, c5, c6, Bool.and_self, cond_true]; have er := rm_yes (r := rmS (fun k => !decide (yearsS n (nI k) E (ix w) 5 (ix y) < v)) (ix y) (2 ^ n)) (by omega); rw [if_neg er, btS, if_neg er]; done) | (simp only [c1, c2, c3, c5, c6, Bool.and_self, cond_true]; have er := rm_yes (r := rmS (fun k => !decide (yearsS n (nI k) E (ix w) 5 (ix y) < v)) (ix y) (2 ^ n)) (by omega); rw [if_neg er]; done)), rfl, rfl, ⟨rfl, rfl⟩, rfl, (fR_of (by first | (simp [c1, c2, c3, c5, c6, -Int32.not_lt]; done) | (simp only [c1, c2, c3, c5, c6, Bool.and_self, cond_true]; have er := rm_no (r := rmS (fun k => !decide (yearsS n (nI k) E (ix w) 5 (ix y) < v)) (ix y) (2 ^ n)) (by omega); rw [if_pos er]; done) | (simp only [c1, c2, c3, c5, c6, Bool.and_self, cond_true]; have er := rm_yes (r := rmS (fun k => !decide (yearsS n (nI k) E (ix w) 5 (ix y) < v)) (ix y) (2 ^ n)) (by omega); rw [if_neg er, btS, if_neg er]; done) | (simp only [c1, c2, c3, c5, c6, Bool.and_self, cond_true]; have er := rm_yes (r := rmS (fun k => !decide (yearsS n (nI k) E (ix w) 5 (ix y) < v)) (ix y) (2 ^ n)) (by omega); rw [if_neg er]; done)))⟩
              · skip
                refine v_aload_n h pX3_room_2 0 rfl 0 rfl rfl (v_iconst h pX3_room_2 1 rfl ki_3 ?_)
                refine v_callV h pX3_room_2 2 mX3_55 (As := [.int 3]) (st := []) (kX3_finding _ _ cI cS a E TA Kp P F S 3 (by decide)) v0B v0C (vEmb_rf _ _) 0 rfl rfl rfl rfl rfl rfl rfl (vDet_k ?_)
                show V K (cW cI cS a (E, TA, Kp, P, S, fndC F 3)) 133 [(0, .ref (a 0)), (1, .int y), (2, .int v), (3, .int w), (4, .int (btS (rmS (fun k => !decide (yearsS n (nI k) E (ix w) 5 (ix y) < v)) (ix y) ((2 ^ n))))), (5, .int (nI (fwS (rmS (fun k => !decide (yearsS n (nI k) E (ix w) 5 (ix y) < v)) (ix y) ((2 ^ n)))))), (6, .int (nI (2 ^ n))), (7, .int (nI ((2 ^ n))))] [.int ((-1000001) - (nI 3))]
                refine v_top (w := .int (-1000004)) (by decide) (v_goto (tgt := 138) h pX3_room_2 3 rfl rfl ?_)
                exact v_iret h pX3_room_2 5 hR hret rfl ((E, TA, Kp, P, S, fndC F 3)) rfl ⟨vI (by first | (simp [c1, c2, c3, c5, c6, -Int32.not_lt]; done) | (simp only [c1, c2, c3, c5, c6, Bool.and_self, cond_true]; have er := rm_no (r := rmS (fun k => !decide (yearsS n (nI k) E (ix w) 5 (ix y) < v)) (ix y) (2 ^ n)) (by omega); rw [if_pos er]; done) | (simp only [c1, c2, c3, c5, c6, Bool.and_self, cond_true]; have er := rm_yes (r := rmS (fun k => !decide (yearsS n (nI k) E (ix w) 5 (ix y) < v)) (ix y) (2 ^ n)) (by omega); rw [if_neg er, btS, if_neg er]; done) | (simp only [c1, c2, c3, c5, c6, Bool.and_self, cond_true]; have er := rm_yes (r := rmS (fun k => !decide (yearsS n (nI k) E (ix w) 5 (ix y) < v)) (ix y) (2 ^ n)) (by omega); rw [if_neg er]; done)), rfl, rfl, ⟨rfl, rfl⟩, rfl, (fR_of (by first | (simp [c1, c2, c3, c5, c6, -Int32.not_lt]; done) | (simp only [c1, c2, c3, c5, c6, Bool.and_self, cond_true]; have er := rm_no (r := rmS (fun k => !decide (yearsS n (nI k) E (ix w) 5 (ix y) < v)) (ix y) (2 ^ n)) (by omega); rw [if_pos er]; done) | (simp only [c1, c2, c3, c5, c6, Bool.and_self, cond_true]; have er := rm_yes (r := rmS (fun k => !decide (yearsS n (nI k) E (ix w) 5 (ix y) < v)) (ix y) (2 ^ n)) (by omega); rw [if_neg er, btS, if_neg er]; done) | (simp only [c1, c2, c3, c5, c6, Bool.and_self, cond_true]; have er := rm_yes (r := rmS (fun k => !decide (yearsS n (nI k) E (ix w) 5 (ix y) < v)) (ix y) (2 ^ n)) (by omega); rw [if_neg er]; done)))⟩
            · skip
              refine v_iload h pX3_room_0 31 rfl 7 rfl (v_iconst h pX3_room_1 0 rfl ki_1 (v_iload_n h pX3_room_1 1 rfl 1 rfl rfl (v_top (w := .int (nI (ix y))) (congrArg Value.int e_y) (v_ishl h pX3_room_1 2 rfl (v_iand h pX3_room_1 3 rfl ?_)))))
              refine v_if_eq (tgt := 74) h pX3_room_1 4 rfl rfl (fun c7 => ?_) (fun c7 => ?_)
              · skip
                have c7q : upB (nI iA) (ix y) = false := by rw [upB, decide_eq_true c7]; rfl
                refine v_iconst h pX3_room_1 7 rfl ki_0 (v_istore h pX3_room_1 8 (lv' := [(8, .int 0), (0, .ref (a 0)), (1, .int y), (2, .int v), (3, .int w), (4, .int (btS (rmS (fun k => !decide (yearsS n (nI k) E (ix w) 5 (ix y) < v)) (ix y) iA))), (5, .int (nI (fwS (rmS (fun k => !decide (yearsS n (nI k) E (ix w) 5 (ix y) < v)) (ix y) iA)))), (6, .int (nI (2 ^ n))), (7, .int (nI iA))]) rfl hnL rfl rfl (v_iload h pX3_room_1 9 rfl 0 rfl ?_))
                refine v_if_ne (tgt := 115) h pX3_room_1 10 rfl rfl (fun c8 => absurd c8 (by decide)) (fun c8 => ?_)
                refine v_iload h pX3_room_1 11 rfl 8 rfl ?_
                refine v_callS h pX3_room_1 12 mX3_164 (As := [.int (nI iA)]) (st := []) (kJ6_bitCount_0f7a4 _ _ cI cS iA (by first | exact setN_256 _ (by omega) | omega)) v0B v0C (vEmb_u _) rfl rfl rfl rfl rfl (vDet_k ?_)
                show V K (cW cI cS a (E, TA, Kp, P, S, F)) 87 [(8, .int 0), (0, .ref (a 0)), (1, .int y), (2, .int v), (3, .int w), (4, .int (btS (rmS (fun k => !decide (yearsS n (nI k) E (ix w) 5 (ix y) < v)) (ix y) iA))), (5, .int (nI (fwS (rmS (fun k => !decide (yearsS n (nI k) E (ix w) 5 (ix y) < v)) (ix y) iA)))), (6, .int (nI (2 ^ n))), (7, .int (nI iA))] [.int (nI (popc iA))]
                refine v_iload h pX3_room_1 13 rfl 6 rfl ?_
                refine v_ncmp_ge (a := popc iA) (b := fwS (rmS (fun k => !decide (yearsS n (nI k) E (ix w) 5 (ix y) < v)) (ix y) iA)) (tgt := 115) h pX3_room_1 14 rfl rfl (by omega) (by omega) (fun c9 => ?_) (fun c9 => ?_)
                · skip
                  have c9n := Nat.not_lt.mpr c9
                  refine v_iinc h pX3_room_1 27 (v := nI (iA + 1)) (lv' := [(7, .int (nI (iA + 1))), (8, .int 0), (0, .ref (a 0)), (1, .int y), (2, .int v), (3, .int w), (4, .int (btS (rmS (fun k => !decide (yearsS n (nI k) E (ix w) 5 (ix y) < v)) (ix y) iA))), (5, .int (nI (fwS (rmS (fun k => !decide (yearsS n (nI k) E (ix w) 5 (ix y) < v)) (ix y) iA)))), (6, .int (nI (2 ^ n)))]) rfl 8 rfl hnL rfl rfl (nI_1 iA) (v_goto (tgt := 54) h pX3_room_1 28 rfl rfl (v_lv [2, 3, 4, 5, 6, 7, 8, 0] (lv' := [(0, .ref (a 0)), (1, .int y), (2, .int v), (3, .int w), (4, .int (btS (rmS (fun k => !decide (yearsS n (nI k) E (ix w) 5 (ix y) < v)) (ix y) iA))), (5, .int (nI (fwS (rmS (fun k => !decide (yearsS n (nI k) E (ix w) 5 (ix y) < v)) (ix y) iA)))), (6, .int (nI (2 ^ n))), (7, .int (nI (iA + 1)))]) rfl ?_))
                  have hst : rmS (fun k => !decide (yearsS n (nI k) E (ix w) 5 (ix y) < v)) (ix y) (iA + 1) = rmS (fun k => !decide (yearsS n (nI k) E (ix w) 5 (ix y) < v)) (ix y) iA := by rw [rmS, rm_cl]; simp [c1, c2, c3, c5, c7q, c9n, -Int32.not_lt]
                  refine v_eql (lv' := [(0, .ref (a 0)), (1, .int y), (2, .int v), (3, .int w), (4, .int (btS (rmS (fun k => !decide (yearsS n (nI k) E (ix w) 5 (ix y) < v)) (ix y) (iA + 1)))), (5, .int (nI (fwS (rmS (fun k => !decide (yearsS n (nI k) E (ix w) 5 (ix y) < v)) (ix y) (iA + 1))))), (6, .int (nI (2 ^ n))), (7, .int (nI (iA + 1)))]) (by rw [hst]) ?_
                  exact ihA (iA + 1) TA (by omega) trivial (by omega)
                · skip
                  refine v_aload_n h pX3_room_1 15 rfl 1 rfl rfl (v_iload h pX3_room_1 16 rfl 8 rfl (v_iload_n h pX3_room_1 17 rfl 2 rfl rfl (v_top (w := .int (nI (ix y))) (congrArg Value.int e_y) (v_iload_n h pX3_room_1 18 rfl 3 rfl rfl (v_iload_n h pX3_room_1 19 rfl 4 rfl rfl ?_)))))
                  refine v_top (w := .int (nI (ix w))) (congrArg Value.int e_w) ?_
                  refine v_callV h pX3_room_1 20 mX3_169 (As := [.int (nI iA), .int (nI (ix y)), .int v, .int (nI (ix w))]) (st := []) (kX3_growsWithout _ _ cI cS a E TA Kp P F S n hW iA (ix y) (ix w) (by omega) (by omega) v) v0B v0C (vEmb_rf _ _) 0 rfl rfl rfl rfl rfl rfl rfl (vDet_k ?_)
                  show V K (cW cI cS a (E, up (yearsS n (nI iA) E (ix w)) 9 4 (nI iA), Kp, P, S, F)) 101 [(8, .int 0), (0, .ref (a 0)), (1, .int y), (2, .int v), (3, .int w), (4, .int (btS (rmS (fun k => !decide (yearsS n (nI k) E (ix w) 5 (ix y) < v)) (ix y) iA))), (5, .int (nI (fwS (rmS (fun k => !decide (yearsS n (nI k) E (ix w) 5 (ix y) < v)) (ix y) iA)))), (6, .int (nI (2 ^ n))), (7, .int (nI iA))] [.int (bI (!decide (yearsS n (nI iA) E (ix w) 5 (ix y) < v)))]
                  refine v_bif_eq (tgt := 115) h pX3_room_1 21 rfl rfl (fun c10 => ?_) (fun c10 => ?_)
                  · skip
                    refine v_iinc h pX3_room_1 27 (v := nI (iA + 1)) (lv' := [(7, .int (nI (iA + 1))), (8, .int 0), (0, .ref (a 0)), (1, .int y), (2, .int v), (3, .int w), (4, .int (btS (rmS (fun k => !decide (yearsS n (nI k) E (ix w) 5 (ix y) < v)) (ix y) iA))), (5, .int (nI (fwS (rmS (fun k => !decide (yearsS n (nI k) E (ix w) 5 (ix y) < v)) (ix y) iA)))), (6, .int (nI (2 ^ n)))]) rfl 8 rfl hnL rfl rfl (nI_1 iA) (v_goto (tgt := 54) h pX3_room_1 28 rfl rfl (v_lv [2, 3, 4, 5, 6, 7, 8, 0] (lv' := [(0, .ref (a 0)), (1, .int y), (2, .int v), (3, .int w), (4, .int (btS (rmS (fun k => !decide (yearsS n (nI k) E (ix w) 5 (ix y) < v)) (ix y) iA))), (5, .int (nI (fwS (rmS (fun k => !decide (yearsS n (nI k) E (ix w) 5 (ix y) < v)) (ix y) iA)))), (6, .int (nI (2 ^ n))), (7, .int (nI (iA + 1)))]) rfl ?_))
                    have hst : rmS (fun k => !decide (yearsS n (nI k) E (ix w) 5 (ix y) < v)) (ix y) (iA + 1) = rmS (fun k => !decide (yearsS n (nI k) E (ix w) 5 (ix y) < v)) (ix y) iA := by rw [rmS, rm_cl]; simp [c1, c2, c3, c5, c7q, c9, c10, -Int32.not_lt]
                    refine v_eql (lv' := [(0, .ref (a 0)), (1, .int y), (2, .int v), (3, .int w), (4, .int (btS (rmS (fun k => !decide (yearsS n (nI k) E (ix w) 5 (ix y) < v)) (ix y) (iA + 1)))), (5, .int (nI (fwS (rmS (fun k => !decide (yearsS n (nI k) E (ix w) 5 (ix y) < v)) (ix y) (iA + 1))))), (6, .int (nI (2 ^ n))), (7, .int (nI (iA + 1)))]) (by rw [hst]) ?_
                    exact ihA (iA + 1) (up (yearsS n (nI iA) E (ix w)) 9 4 (nI iA)) (by omega) trivial (by omega)
                  · skip
                    refine v_iload h pX3_room_1 22 rfl 8 rfl ?_
                    refine v_callS h pX3_room_1 23 mX3_164 (As := [.int (nI iA)]) (st := []) (kJ6_bitCount_0f7a4 _ _ cI cS iA (by first | exact setN_256 _ (by omega) | omega)) v0B v0C (vEmb_u _) rfl rfl rfl rfl rfl (vDet_k ?_)
                    show V K (cW cI cS a (E, up (yearsS n (nI iA) E (ix w)) 9 4 (nI iA), Kp, P, S, F)) 109 [(8, .int 0), (0, .ref (a 0)), (1, .int y), (2, .int v), (3, .int w), (4, .int (btS (rmS (fun k => !decide (yearsS n (nI k) E (ix w) 5 (ix y) < v)) (ix y) iA))), (5, .int (nI (fwS (rmS (fun k => !decide (yearsS n (nI k) E (ix w) 5 (ix y) < v)) (ix y) iA)))), (6, .int (nI (2 ^ n))), (7, .int (nI iA))] [.int (nI (popc iA))]
                    refine v_istore h pX3_room_1 24 (lv' := [(5, .int (nI (popc iA))), (8, .int 0), (0, .ref (a 0)), (1, .int y), (2, .int v), (3, .int w), (4, .int (btS (rmS (fun k => !decide (yearsS n (nI k) E (ix w) 5 (ix y) < v)) (ix y) iA))), (6, .int (nI (2 ^ n))), (7, .int (nI iA))]) rfl hnL rfl rfl (v_iload h pX3_room_1 25 rfl 8 rfl (v_istore h pX3_room_1 26 (lv' := [(4, .int (nI iA)), (5, .int (nI (popc iA))), (8, .int 0), (0, .ref (a 0)), (1, .int y), (2, .int v), (3, .int w), (6, .int (nI (2 ^ n))), (7, .int (nI iA))]) rfl hnL rfl rfl (v_iinc h pX3_room_1 27 (v := nI (iA + 1)) (lv' := [(7, .int (nI (iA + 1))), (4, .int (nI iA)), (5, .int (nI (popc iA))), (8, .int 0), (0, .ref (a 0)), (1, .int y), (2, .int v), (3, .int w), (6, .int (nI (2 ^ n)))]) rfl 8 rfl hnL rfl rfl (nI_1 iA) (v_goto (tgt := 54) h pX3_room_1 28 rfl rfl (v_lv [4, 5, 6, 7, 1, 2, 8, 0] (lv' := [(0, .ref (a 0)), (1, .int y), (2, .int v), (3, .int w), (4, .int (nI iA)), (5, .int (nI (popc iA))), (6, .int (nI (2 ^ n))), (7, .int (nI (iA + 1)))]) rfl ?_)))))
                    have hst : rmS (fun k => !decide (yearsS n (nI k) E (ix w) 5 (ix y) < v)) (ix y) (iA + 1) = nI iA := by rw [rmS, rm_cl]; simp [c1, c2, c3, c5, c7q, c9, c10, -Int32.not_lt]
                    have hbt : nI iA = btS (rmS (fun k => !decide (yearsS n (nI k) E (ix w) 5 (ix y) < v)) (ix y) (iA + 1)) := by rw [hst, btS, if_neg (nI_pos (by omega))]
                    have hfw : popc iA = fwS (rmS (fun k => !decide (yearsS n (nI k) E (ix w) 5 (ix y) < v)) (ix y) (iA + 1)) := by rw [hst, fwS, if_neg (nI_pos (by omega)), ix_nI (by omega)]
                    refine v_eql (lv' := [(0, .ref (a 0)), (1, .int y), (2, .int v), (3, .int w), (4, .int (btS (rmS (fun k => !decide (yearsS n (nI k) E (ix w) 5 (ix y) < v)) (ix y) (iA + 1)))), (5, .int (nI (fwS (rmS (fun k => !decide (yearsS n (nI k) E (ix w) 5 (ix y) < v)) (ix y) (iA + 1))))), (6, .int (nI (2 ^ n))), (7, .int (nI (iA + 1)))]) (by rw [← hbt, ← hfw]) ?_
                    exact ihA (iA + 1) (up (yearsS n (nI iA) E (ix w)) 9 4 (nI iA)) (by omega) trivial (by omega)
              · skip
                have c7q : upB (nI iA) (ix y) = true := by rw [upB, decide_eq_false c7]; rfl
                refine v_iconst h pX3_room_1 5 rfl ki_1 (v_goto (tgt := 75) h pX3_room_1 6 rfl rfl (v_istore h pX3_room_1 8 (lv' := [(8, .int 1), (0, .ref (a 0)), (1, .int y), (2, .int v), (3, .int w), (4, .int (btS (rmS (fun k => !decide (yearsS n (nI k) E (ix w) 5 (ix y) < v)) (ix y) iA))), (5, .int (nI (fwS (rmS (fun k => !decide (yearsS n (nI k) E (ix w) 5 (ix y) < v)) (ix y) iA)))), (6, .int (nI (2 ^ n))), (7, .int (nI iA))]) rfl hnL rfl rfl (v_iload h pX3_room_1 9 rfl 0 rfl ?_)))
                refine v_if_ne (tgt := 115) h pX3_room_1 10 rfl rfl (fun c11 => ?_) (fun c11 => absurd c11 (by decide))
                refine v_iinc h pX3_room_1 27 (v := nI (iA + 1)) (lv' := [(7, .int (nI (iA + 1))), (8, .int 1), (0, .ref (a 0)), (1, .int y), (2, .int v), (3, .int w), (4, .int (btS (rmS (fun k => !decide (yearsS n (nI k) E (ix w) 5 (ix y) < v)) (ix y) iA))), (5, .int (nI (fwS (rmS (fun k => !decide (yearsS n (nI k) E (ix w) 5 (ix y) < v)) (ix y) iA)))), (6, .int (nI (2 ^ n)))]) rfl 8 rfl hnL rfl rfl (nI_1 iA) (v_goto (tgt := 54) h pX3_room_1 28 rfl rfl (v_lv [2, 3, 4, 5, 6, 7, 8, 0] (lv' := [(0, .ref (a 0)), (1, .int y), (2, .int v), (3, .int w), (4, .int (btS (rmS (fun k => !decide (yearsS n (nI k) E (ix w) 5 (ix y) < v)) (ix y) iA))), (5, .int (nI (fwS (rmS (fun k => !decide (yearsS n (nI k) E (ix w) 5 (ix y) < v)) (ix y) iA)))), (6, .int (nI (2 ^ n))), (7, .int (nI (iA + 1)))]) rfl ?_))
                have hst : rmS (fun k => !decide (yearsS n (nI k) E (ix w) 5 (ix y) < v)) (ix y) (iA + 1) = rmS (fun k => !decide (yearsS n (nI k) E (ix w) 5 (ix y) < v)) (ix y) iA := by rw [rmS, rm_cl]; simp [c1, c2, c3, c5, c7q, -Int32.not_lt]
                refine v_eql (lv' := [(0, .ref (a 0)), (1, .int y), (2, .int v), (3, .int w), (4, .int (btS (rmS (fun k => !decide (yearsS n (nI k) E (ix w) 5 (ix y) < v)) (ix y) (iA + 1)))), (5, .int (nI (fwS (rmS (fun k => !decide (yearsS n (nI k) E (ix w) 5 (ix y) < v)) (ix y) (iA + 1))))), (6, .int (nI (2 ^ n))), (7, .int (nI (iA + 1)))]) (by rw [hst]) ?_
                exact ihA (iA + 1) TA (by omega) trivial (by omega)
        exact LA ((2 ^ n) + 1) 0 T (by omega) trivial (by omega)
      · skip
        refine v_aload_n h pX3_room_0 12 rfl 0 rfl rfl (v_iconst h pX3_room_0 13 rfl ki_0 ?_)
        refine v_callV h pX3_room_0 14 mX3_55 (As := [.int 0]) (st := []) (kX3_finding _ _ cI cS a E T Kp P F S 0 (by decide)) v0B v0C (vEmb_rf _ _) 0 rfl rfl rfl rfl rfl rfl rfl (vDet_k ?_)
        show V K (cW cI cS a (E, T, Kp, P, S, fndC F 0)) 32 [(0, .ref (a 0)), (1, .int y), (2, .int v), (3, .int w)] [.int ((-1000001) - (nI 0))]
        refine v_top (w := .int (-1000001)) (by decide) ?_
        exact v_iret h pX3_room_0 15 hR hret rfl ((E, T, Kp, P, S, fndC F 0)) rfl ⟨vI (by first | (simp [c1, c2, c3, -Int32.not_lt]; done) | (simp only [c1, c2, c3, Bool.and_self, cond_true]; have er := rm_no (r := rmS (fun k => !decide (yearsS n (nI k) E (ix w) 5 (ix y) < v)) (ix y) (2 ^ n)) (by omega); rw [if_pos er]; done) | (simp only [c1, c2, c3, Bool.and_self, cond_true]; have er := rm_yes (r := rmS (fun k => !decide (yearsS n (nI k) E (ix w) 5 (ix y) < v)) (ix y) (2 ^ n)) (by omega); rw [if_neg er, btS, if_neg er]; done) | (simp only [c1, c2, c3, Bool.and_self, cond_true]; have er := rm_yes (r := rmS (fun k => !decide (yearsS n (nI k) E (ix w) 5 (ix y) < v)) (ix y) (2 ^ n)) (by omega); rw [if_neg er]; done)), rfl, rfl, ⟨rfl, rfl⟩, rfl, (fR_of (by first | (simp [c1, c2, c3, -Int32.not_lt]; done) | (simp only [c1, c2, c3, Bool.and_self, cond_true]; have er := rm_no (r := rmS (fun k => !decide (yearsS n (nI k) E (ix w) 5 (ix y) < v)) (ix y) (2 ^ n)) (by omega); rw [if_pos er]; done) | (simp only [c1, c2, c3, Bool.and_self, cond_true]; have er := rm_yes (r := rmS (fun k => !decide (yearsS n (nI k) E (ix w) 5 (ix y) < v)) (ix y) (2 ^ n)) (by omega); rw [if_neg er, btS, if_neg er]; done) | (simp only [c1, c2, c3, Bool.and_self, cond_true]; have er := rm_yes (r := rmS (fun k => !decide (yearsS n (nI k) E (ix w) 5 (ix y) < v)) (ix y) (2 ^ n)) (by omega); rw [if_neg er]; done)))⟩
set_option maxHeartbeats 300000 in
set_option maxRecDepth 100000 in
theorem kX3_seed (l : Launch) (D : va_G) (cI cS : ClassId) (a : Nat → Nat) (E T Kp P F : Nat → Nat → Int32) (S : Nat → Nat → Nat → Int32) (n : Nat) (hW : Wf E n) (hZ : E 9 4 = 0) (v : Int32) : vMet l D (vT cI cS) yX3_seed cX3_seed 3 (some .int) 0 0 (cW cI cS a) v0 [.ref (a 0), .int v] (E, T, Kp, P, S, F) (cPost (some (.int (E 9 3))) (up E 9 3 v) (Kp) (P) (S) (F)) := by
  refine vMet_of (by decide) rfl ?_
  intro K hl hD hnL hret h hR hEx
  subst hl hD
  show V K (cW cI cS a (E, T, Kp, P, S, F)) 0 [(0, .ref (a 0)), (1, .int v)] []
  have hn8 := hW.1
  refine v_aload_n h pX3_seed_0 0 rfl 0 rfl rfl (v_get h pX3_seed_0 1 fX3_10 0 rfl rfl rfl (v_get h pX3_seed_0 2 fX3_213 1 rfl rfl rfl (v_istore_n h pX3_seed_0 3 (lv' := [(2, .int (E 9 3)), (0, .ref (a 0)), (1, .int v)]) rfl rfl hnL rfl rfl (v_aload_n h pX3_seed_0 4 rfl 1 rfl rfl (v_get h pX3_seed_0 5 fX3_10 0 rfl rfl rfl ?_)))))
  refine v_iload_n h pX3_seed_0 6 rfl 2 rfl rfl (v_puti h pX3_seed_0 7 gX3_213 1 (ws' := cW cI cS a (up E 9 3 v, T, Kp, P, S, F)) rfl rfl rfl cW_Ep3 (v_iload_n h pX3_seed_0 8 rfl 0 rfl rfl ?_))
  exact v_iret h pX3_seed_0 9 hR hret rfl ((up E 9 3 v, T, Kp, P, S, F)) rfl ⟨vI rfl, rfl, rfl, ⟨rfl, rfl⟩, rfl, ⟨rfl, rfl⟩⟩
set_option maxHeartbeats 300000 in
set_option maxRecDepth 100000 in
theorem kX3_wipe (l : Launch) (D : va_G) (cI cS : ClassId) (a : Nat → Nat) (E T Kp P F : Nat → Nat → Int32) (S : Nat → Nat → Nat → Int32) (n : Nat) (hW : Wf E n) (hZ : E 9 4 = 0)  : vMet l D (vT cI cS) yX3_wipe cX3_wipe 2 (some .int) 0 0 (cW cI cS a) v0 [.ref (a 0)] (E, T, Kp, P, S, F) (cPost (some (.int (P 4 0))) (E) (Kp) (up P 4 0 0) (S) (F)) := by
  refine vMet_of (by decide) rfl ?_
  intro K hl hD hnL hret h hR hEx
  subst hl hD
  show V K (cW cI cS a (E, T, Kp, P, S, F)) 0 [(0, .ref (a 0))] []
  have hn8 := hW.1
  refine v_aload_n h pX3_wipe_0 0 rfl 0 rfl rfl (v_get h pX3_wipe_0 1 fX3_29 0 rfl rfl rfl (v_get h pX3_wipe_0 2 fX3_216 31 rfl rfl rfl (v_istore_n h pX3_wipe_0 3 (lv' := [(1, .int (P 4 0)), (0, .ref (a 0))]) rfl rfl hnL rfl rfl (v_aload_n h pX3_wipe_0 4 rfl 1 rfl rfl (v_get h pX3_wipe_0 5 fX3_29 0 rfl rfl rfl ?_)))))
  refine v_iconst h pX3_wipe_0 6 rfl ki_0 (v_puti h pX3_wipe_0 7 gX3_216 31 (ws' := cW cI cS a (E, T, Kp, up P 4 0 0, S, F)) rfl rfl rfl cW_Pp0 (v_iload_n h pX3_wipe_0 8 rfl 0 rfl rfl ?_))
  exact v_iret h pX3_wipe_0 9 hR hret rfl ((E, T, Kp, up P 4 0 0, S, F)) rfl ⟨vI rfl, rfl, rfl, ⟨rfl, rfl⟩, rfl, ⟨rfl, rfl⟩⟩
set_option maxHeartbeats 300000 in
set_option maxRecDepth 100000 in
theorem kX3_hold (l : Launch) (D : va_G) (cI cS : ClassId) (a : Nat → Nat) (E T Kp P F : Nat → Nat → Int32) (S : Nat → Nat → Nat → Int32) (n : Nat) (hW : Wf E n) (hZ : E 9 4 = 0) (s y : Int32) : vMet l D (vT cI cS) yX3_hold cX3_hold 3 (some .int) 2 42 (cW cI cS a) v0 [.ref (a 0), .int s, .int y] (E, T, Kp, P, S, F) (cPost (some (.int (cond (inB s 0 9 && (decide (y = -1) || oyB y n)) (1) ((-1000001))))) (cond (inB s 0 9 && (decide (y = -1) || oyB y n)) (up E 8 (ix s) y) (E)) (Kp) (P) (S) (cond (inB s 0 9 && (decide (y = -1) || oyB y n)) (F) (fndC F 0))) := by
  refine vMet_of (by decide) rfl ?_
  intro K hl hD hnL hret h hR hEx
  subst hl hD
  show V K (cW cI cS a (E, T, Kp, P, S, F)) 0 [(0, .ref (a 0)), (1, .int s), (2, .int y)] []
  have hn8 := hW.1
  refine v_iload_n h pX3_hold_0 0 rfl 1 rfl rfl (v_bipush h pX3_hold_0 1 rfl kb_9 ?_)
  refine v_callS h pX3_hold_0 2 mX3_51 (As := [.int s, .int 9]) (st := []) (kX3_isWithin _ _ cI cS s 9) v0B v0C (vEmb_u _) rfl rfl rfl rfl rfl (vDet_k ?_)
  show V K (cW cI cS a (E, T, Kp, P, S, F)) 6 [(0, .ref (a 0)), (1, .int s), (2, .int y)] [.int (bI (inB s 0 9))]
  refine v_bif_eq (tgt := 22) h pX3_hold_0 3 rfl rfl (fun c1 => ?_) (fun c1 => ?_)
  · skip
    refine v_aload_n h pX3_hold_0 11 rfl 0 rfl rfl (v_iconst h pX3_hold_0 12 rfl ki_0 ?_)
    refine v_callV h pX3_hold_0 13 mX3_55 (As := [.int 0]) (st := []) (kX3_finding _ _ cI cS a E T Kp P F S 0 (by decide)) v0B v0C (vEmb_rf _ _) 0 rfl rfl rfl rfl rfl rfl rfl (vDet_k ?_)
    show V K (cW cI cS a (E, T, Kp, P, S, fndC F 0)) 27 [(0, .ref (a 0)), (1, .int s), (2, .int y)] [.int ((-1000001) - (nI 0))]
    refine v_top (w := .int (-1000001)) (by decide) ?_
    exact v_iret h pX3_hold_0 14 hR hret rfl ((E, T, Kp, P, S, fndC F 0)) rfl ⟨vI (by simp [c1]), (by first | (simp [c1]; done) | (simp [c1, *])), rfl, ⟨rfl, rfl⟩, rfl, (fR_of (by first | (simp [c1]; done) | (simp [c1, *])))⟩
  · skip
    obtain ⟨e_s, l_s⟩ := inB_t 9 rfl (by decide) c1
    refine v_iload_n h pX3_hold_0 4 rfl 2 rfl rfl (v_iconst h pX3_hold_0 5 rfl ki_m1 ?_)
    refine v_icmp_eq (tgt := 28) h pX3_hold_0 6 rfl rfl (fun c2 => ?_) (fun c2 => ?_)
    · skip
      refine v_aload_n h pX3_hold_0 15 rfl 0 rfl rfl (v_get h pX3_hold_0 16 fX3_10 0 rfl rfl rfl (v_get h pX3_hold_0 17 fX3_224 1 rfl rfl rfl (v_iload_n h pX3_hold_0 18 rfl 1 rfl rfl (v_top (w := .int (nI (ix s))) (congrArg Value.int e_s) (v_iload_n h pX3_hold_0 19 rfl 2 rfl rfl ?_)))))
      refine v_iast h pX3_hold_0 20 (ix s) 10 0 (ws' := cW cI cS a (up E 8 (ix s) y, T, Kp, P, S, F)) rfl rfl rfl rfl rfl (by omega) cW_Es8 (v_iconst h pX3_hold_0 21 rfl ki_1 ?_)
      exact v_iret h pX3_hold_0 22 hR hret rfl ((up E 8 (ix s) y, T, Kp, P, S, F)) rfl ⟨vI (by simp [c1, (eq_true c2)]), (by first | (simp [c1, (eq_true c2)]; done) | (simp [c1, (eq_true c2), *])), rfl, ⟨rfl, rfl⟩, rfl, (fR_of (by first | (simp [c1, (eq_true c2)]; done) | (simp [c1, (eq_true c2), *])))⟩
    · skip
      refine v_aload_n h pX3_hold_0 7 rfl 0 rfl rfl (v_iload_n h pX3_hold_0 8 rfl 2 rfl rfl ?_)
      refine v_callV h pX3_hold_0 9 mX3_83 (As := [.int y]) (st := []) (kX3_isOyster _ _ cI cS a E T Kp P F S n hW y) v0B v0C (vEmb_rf _ _) 0 rfl rfl rfl rfl rfl rfl rfl (vDet_k ?_)
      show V K (cW cI cS a (E, T, Kp, P, S, F)) 19 [(0, .ref (a 0)), (1, .int s), (2, .int y)] [.int (bI (oyB y n))]
      refine v_bif_ne (tgt := 28) h pX3_hold_0 10 rfl rfl (fun c3 => ?_) (fun c3 => ?_)
      · skip
        refine v_aload_n h pX3_hold_0 15 rfl 0 rfl rfl (v_get h pX3_hold_0 16 fX3_10 0 rfl rfl rfl (v_get h pX3_hold_0 17 fX3_224 1 rfl rfl rfl (v_iload_n h pX3_hold_0 18 rfl 1 rfl rfl (v_top (w := .int (nI (ix s))) (congrArg Value.int e_s) (v_iload_n h pX3_hold_0 19 rfl 2 rfl rfl ?_)))))
        refine v_iast h pX3_hold_0 20 (ix s) 10 0 (ws' := cW cI cS a (up E 8 (ix s) y, T, Kp, P, S, F)) rfl rfl rfl rfl rfl (by omega) cW_Es8 (v_iconst h pX3_hold_0 21 rfl ki_1 ?_)
        exact v_iret h pX3_hold_0 22 hR hret rfl ((up E 8 (ix s) y, T, Kp, P, S, F)) rfl ⟨vI (by simp [c1, c2, c3]), (by first | (simp [c1, c2, c3]; done) | (simp [c1, c2, c3, *])), rfl, ⟨rfl, rfl⟩, rfl, (fR_of (by first | (simp [c1, c2, c3]; done) | (simp [c1, c2, c3, *])))⟩
      · skip
        refine v_aload_n h pX3_hold_0 11 rfl 0 rfl rfl (v_iconst h pX3_hold_0 12 rfl ki_0 ?_)
        refine v_callV h pX3_hold_0 13 mX3_55 (As := [.int 0]) (st := []) (kX3_finding _ _ cI cS a E T Kp P F S 0 (by decide)) v0B v0C (vEmb_rf _ _) 0 rfl rfl rfl rfl rfl rfl rfl (vDet_k ?_)
        show V K (cW cI cS a (E, T, Kp, P, S, fndC F 0)) 27 [(0, .ref (a 0)), (1, .int s), (2, .int y)] [.int ((-1000001) - (nI 0))]
        refine v_top (w := .int (-1000001)) (by decide) ?_
        exact v_iret h pX3_hold_0 14 hR hret rfl ((E, T, Kp, P, S, fndC F 0)) rfl ⟨vI (by simp [c1, c2, c3]), (by first | (simp [c1, c2, c3]; done) | (simp [c1, c2, c3, *])), rfl, ⟨rfl, rfl⟩, rfl, (fR_of (by first | (simp [c1, c2, c3]; done) | (simp [c1, c2, c3, *])))⟩
set_option maxHeartbeats 300000 in
set_option maxRecDepth 100000 in
theorem kX3_image (l : Launch) (D : va_G) (cI cS : ClassId) (a : Nat → Nat) (E T Kp P F : Nat → Nat → Int32) (S : Nat → Nat → Nat → Int32) (n : Nat) (hW : Wf E n) (hZ : E 9 4 = 0)  : vMet l D (vT cI cS) yX3_image cX3_image 1 (some .int) 2 39 (cW cI cS a) v0 [.ref (a 0)] (E, T, Kp, P, S, F) (cPost (some (.int 1)) (E) (E) (P) (S) (up F 2 0 1)) := by
  refine vMet_of (by decide) rfl ?_
  intro K hl hD hnL hret h hR hEx
  subst hl hD
  show V K (cW cI cS a (E, T, Kp, P, S, F)) 0 [(0, .ref (a 0))] []
  have hn8 := hW.1
  refine v_aload_n h pX3_image_0 0 rfl 0 rfl rfl (v_get h pX3_image_0 1 fX3_19 0 rfl rfl rfl (v_aload_n h pX3_image_0 2 rfl 0 rfl rfl (v_get h pX3_image_0 3 fX3_10 0 rfl rfl rfl ?_)))
  refine v_callV h pX3_image_0 4 mX3_139 (As := [.ref (a 1)]) (st := []) (kX0_copyFrom _ _ cI cS (sh a 21) (sh a 1) E Kp) v0B v0C emb_KpE 21 rfl rfl rfl rfl rfl rfl rfl (vDet_k ?_)
  show V K (cW cI cS a (E, T, E, P, S, F)) 11 [(0, .ref (a 0))] []
  refine v_aload_n h pX3_image_0 5 rfl 0 rfl rfl (v_iconst h pX3_image_0 6 rfl ki_1 (v_put h pX3_image_0 7 gX3_22 0 (ws' := cW cI cS a (E, T, E, P, S, up F 2 0 1)) rfl rfl rfl rfl rfl cW_Fp (v_iconst h pX3_image_0 8 rfl ki_1 ?_)))
  exact v_iret h pX3_image_0 9 hR hret rfl ((E, T, E, P, S, up F 2 0 1)) rfl ⟨vI rfl, rfl, rfl, ⟨rfl, rfl⟩, rfl, ⟨rfl, rfl⟩⟩
set_option maxHeartbeats 300000 in
set_option maxRecDepth 100000 in
theorem kX3_tear (l : Launch) (D : va_G) (cI cS : ClassId) (a : Nat → Nat) (E T Kp P F : Nat → Nat → Int32) (S : Nat → Nat → Nat → Int32) (n : Nat) (hW : Wf E n) (hZ : E 9 4 = 0)  : vMet l D (vT cI cS) yX3_tear cX3_tear 2 (some .int) 0 0 (cW cI cS a) v0 [.ref (a 0)] (E, T, Kp, P, S, F) (cPost (some (.int (bI (decide (¬ F 2 0 = 0))))) (E) (Kp) (P) (S) (up F 2 0 0)) := by
  refine vMet_of (by decide) rfl ?_
  intro K hl hD hnL hret h hR hEx
  subst hl hD
  show V K (cW cI cS a (E, T, Kp, P, S, F)) 0 [(0, .ref (a 0))] []
  have hn8 := hW.1
  refine v_aload_n h pX3_tear_0 0 rfl 0 rfl rfl (v_get h pX3_tear_0 1 fX3_22 0 rfl rfl rfl ?_)
  refine v_if_eq (tgt := 11) h pX3_tear_0 2 rfl rfl (fun c1 => ?_) (fun c1 => ?_)
  · skip
    refine v_iconst h pX3_tear_0 5 rfl ki_0 (v_istore_n h pX3_tear_0 6 (lv' := [(1, .int 0), (0, .ref (a 0))]) rfl rfl hnL rfl rfl (v_aload_n h pX3_tear_0 7 rfl 1 rfl rfl (v_iconst h pX3_tear_0 8 rfl ki_0 (v_put h pX3_tear_0 9 gX3_22 0 (ws' := cW cI cS a (E, T, Kp, P, S, up F 2 0 0)) rfl rfl rfl rfl rfl cW_Fp (v_iload_n h pX3_tear_0 10 rfl 0 rfl rfl ?_)))))
    exact v_iret h pX3_tear_0 11 hR hret rfl ((E, T, Kp, P, S, up F 2 0 0)) rfl ⟨vI (by simp [bI, (eq_true c1)]), rfl, rfl, ⟨rfl, rfl⟩, rfl, ⟨rfl, rfl⟩⟩
  · skip
    refine v_iconst h pX3_tear_0 3 rfl ki_1 (v_goto (tgt := 12) h pX3_tear_0 4 rfl rfl (v_istore_n h pX3_tear_0 6 (lv' := [(1, .int 1), (0, .ref (a 0))]) rfl rfl hnL rfl rfl (v_aload_n h pX3_tear_0 7 rfl 1 rfl rfl (v_iconst h pX3_tear_0 8 rfl ki_0 (v_put h pX3_tear_0 9 gX3_22 0 (ws' := cW cI cS a (E, T, Kp, P, S, up F 2 0 0)) rfl rfl rfl rfl rfl cW_Fp ?_)))))
    refine v_iload_n h pX3_tear_0 10 rfl 0 rfl rfl ?_
    exact v_iret h pX3_tear_0 11 hR hret rfl ((E, T, Kp, P, S, up F 2 0 0)) rfl ⟨vI (by simp [bI, c1]), rfl, rfl, ⟨rfl, rfl⟩, rfl, ⟨rfl, rfl⟩⟩
set_option maxHeartbeats 300000 in
set_option maxRecDepth 100000 in
theorem kX3_undo (l : Launch) (D : va_G) (cI cS : ClassId) (a : Nat → Nat) (E T Kp P F : Nat → Nat → Int32) (S : Nat → Nat → Nat → Int32) (n : Nat) (hW : Wf E n) (hZ : E 9 4 = 0)  : vMet l D (vT cI cS) yX3_undo cX3_undo 1 (some .int) 2 39 (cW cI cS a) v0 [.ref (a 0)] (E, T, Kp, P, S, F) (cPost (some (.int (cond (decide (F 2 0 = 0)) ((-1000004)) (Kp 9 2)))) (cond (decide (F 2 0 = 0)) (E) (Kp)) (Kp) (P) (S) (cond (decide (F 2 0 = 0)) (fndC F 3) (F))) := by
  refine vMet_of (by decide) rfl ?_
  intro K hl hD hnL hret h hR hEx
  subst hl hD
  show V K (cW cI cS a (E, T, Kp, P, S, F)) 0 [(0, .ref (a 0))] []
  have hn8 := hW.1
  refine v_aload_n h pX3_undo_0 0 rfl 0 rfl rfl (v_get h pX3_undo_0 1 fX3_22 0 rfl rfl rfl ?_)
  refine v_if_ne (tgt := 13) h pX3_undo_0 2 rfl rfl (fun c1 => ?_) (fun c1 => ?_)
  · skip
    refine v_aload_n h pX3_undo_0 7 rfl 0 rfl rfl (v_get h pX3_undo_0 8 fX3_10 0 rfl rfl rfl (v_aload_n h pX3_undo_0 9 rfl 0 rfl rfl (v_get h pX3_undo_0 10 fX3_19 0 rfl rfl rfl ?_)))
    refine v_callV h pX3_undo_0 11 mX3_139 (As := [.ref (a 21)]) (st := []) (kX0_copyFrom _ _ cI cS (sh a 1) (sh a 21) Kp E) v0B v0C emb_EKp 1 rfl rfl rfl rfl rfl rfl rfl (vDet_k ?_)
    show V K (cW cI cS a (Kp, T, Kp, P, S, F)) 24 [(0, .ref (a 0))] []
    refine v_aload_n h pX3_undo_0 12 rfl 0 rfl rfl (v_get h pX3_undo_0 13 fX3_10 0 rfl rfl rfl (v_get h pX3_undo_0 14 fX3_109 1 rfl rfl rfl ?_))
    exact v_iret h pX3_undo_0 15 hR hret rfl ((Kp, T, Kp, P, S, F)) rfl ⟨vI (by simp [c1]), (by simp [c1, True]), rfl, ⟨rfl, rfl⟩, rfl, (fR_of (by simp [c1, True]))⟩
  · skip
    refine v_aload_n h pX3_undo_0 3 rfl 0 rfl rfl (v_iconst h pX3_undo_0 4 rfl ki_3 ?_)
    refine v_callV h pX3_undo_0 5 mX3_55 (As := [.int 3]) (st := []) (kX3_finding _ _ cI cS a E T Kp P F S 3 (by decide)) v0B v0C (vEmb_rf _ _) 0 rfl rfl rfl rfl rfl rfl rfl (vDet_k ?_)
    show V K (cW cI cS a (E, T, Kp, P, S, fndC F 3)) 12 [(0, .ref (a 0))] [.int ((-1000001) - (nI 3))]
    refine v_top (w := .int (-1000004)) (by decide) ?_
    exact v_iret h pX3_undo_0 6 hR hret rfl ((E, T, Kp, P, S, fndC F 3)) rfl ⟨vI (by simp [(eq_true c1)]), (by simp [(eq_true c1), True]), rfl, ⟨rfl, rfl⟩, rfl, (fR_of (by simp [(eq_true c1), True]))⟩
set_option maxHeartbeats 300000 in
set_option maxRecDepth 100000 in
theorem kX3_count (l : Launch) (D : va_G) (cI cS : ClassId) (a : Nat → Nat) (E T Kp P F : Nat → Nat → Int32) (S : Nat → Nat → Nat → Int32) (n : Nat) (hW : Wf E n) (hZ : E 9 4 = 0) (w : Int32) : vMet l D (vT cI cS) yX3_count cX3_count 2 (some .int) 2 43 (cW cI cS a) v0 [.ref (a 0), .int w] (E, T, Kp, P, S, F) (cPost (some (.int (countS E (fun _ _ => P 4 0) n w))) (E) (Kp) (P) (S) (cond (sel8 w) (F) (fndC F 0))) := by
  refine vMet_of (by decide) rfl ?_
  intro K hl hD hnL hret h hR hEx
  subst hl hD
  show V K (cW cI cS a (E, T, Kp, P, S, F)) 0 [(0, .ref (a 0)), (1, .int w)] []
  have hn8 := hW.1
  refine v_iload_n h pX3_count_0 0 rfl 1 rfl rfl ?_
  by_cases c1 : w = 0
  · skip
    refine v_tin (tgt := 48) h pX3_count_0 1 c1 rfl (by decide) (by decide) rfl rfl (v_aload_n h pX3_count_0 2 rfl 0 rfl rfl (v_get h pX3_count_0 3 fX3_10 0 rfl rfl rfl (v_get h pX3_count_0 4 fX3_109 1 rfl rfl rfl ?_)))
    exact v_iret h pX3_count_0 5 hR hret rfl ((E, T, Kp, P, S, F)) rfl ⟨vI (by simp [countS, (eq_true c1)]), rfl, rfl, ⟨rfl, rfl⟩, rfl, (fR_of (by simp [sel8, (eq_true c1)]))⟩
  by_cases c2 : w = 1
  · skip
    refine v_tin (tgt := 56) h pX3_count_0 1 c2 rfl (by decide) (by decide) rfl rfl (v_aload_n h pX3_count_0 6 rfl 0 rfl rfl (v_get h pX3_count_0 7 fX3_10 0 rfl rfl rfl (v_get h pX3_count_0 8 fX3_161 1 rfl rfl rfl (v_top (w := .int (nI n)) (congrArg Value.int hW.2.1) ?_))))
    exact v_iret h pX3_count_0 9 hR hret rfl ((E, T, Kp, P, S, F)) rfl ⟨vI (by simp [countS, c1, (eq_true c2)]), rfl, rfl, ⟨rfl, rfl⟩, rfl, (fR_of (by simp [sel8, c1, (eq_true c2)]))⟩
  by_cases c3 : w = 2
  · skip
    refine v_tin (tgt := 64) h pX3_count_0 1 c3 rfl (by decide) (by decide) rfl rfl (v_aload_n h pX3_count_0 10 rfl 0 rfl rfl (v_get h pX3_count_0 11 fX3_10 0 rfl rfl rfl ?_))
    refine v_callV h pX3_count_0 12 mX3_123 (As := []) (st := []) (kX0_toldSet _ _ cI cS (sh a 1) E n hW) v0B v0C emb_E 1 rfl rfl rfl rfl rfl rfl rfl (vDet_k ?_)
    show V K (cW cI cS a (E, T, Kp, P, S, F)) 71 [(0, .ref (a 0)), (1, .int w)] [.int (setS (toldS E) n)]
    refine v_top (w := .int (nI (setN (toldS E) n))) (congrArg Value.int (setS_N _ n (by omega))) ?_
    refine v_callS h pX3_count_0 13 mX3_164 (As := [.int (nI (setN (toldS E) n))]) (st := []) (kJ6_bitCount_0f7a4 _ _ cI cS (setN (toldS E) n) (by first | exact setN_256 _ (by omega) | omega)) v0B v0C (vEmb_u _) rfl rfl rfl rfl rfl (vDet_k ?_)
    show V K (cW cI cS a (E, T, Kp, P, S, F)) 74 [(0, .ref (a 0)), (1, .int w)] [.int (nI (popc (setN (toldS E) n)))]
    exact v_iret h pX3_count_0 14 hR hret rfl ((E, T, Kp, P, S, F)) rfl ⟨vI (by simp [countS, c1, c2, (eq_true c3)]), rfl, rfl, ⟨rfl, rfl⟩, rfl, (fR_of (by simp [sel8, c1, c2, (eq_true c3)]))⟩
  by_cases c4 : w = 3
  · skip
    refine v_tin (tgt := 75) h pX3_count_0 1 c4 rfl (by decide) (by decide) rfl rfl (v_aload_n h pX3_count_0 15 rfl 0 rfl rfl (v_get h pX3_count_0 16 fX3_10 0 rfl rfl rfl (v_aload_n h pX3_count_0 17 rfl 0 rfl rfl (v_get h pX3_count_0 18 fX3_10 0 rfl rfl rfl (v_get h pX3_count_0 19 fX3_116 1 rfl rfl rfl ?_)))))
    refine v_callV h pX3_count_0 20 mX3_119 (As := [.ref (a 7)]) (st := []) (kX0_sumOf _ _ cI cS (sh a 1) E n hW 5 (by decide) (by decide)) v0B v0C emb_E 1 rfl rfl rfl rfl rfl rfl rfl (vDet_k ?_)
    show V K (cW cI cS a (E, T, Kp, P, S, F)) 89 [(0, .ref (a 0)), (1, .int w)] [.int (sumS (E 5) n)]
    exact v_iret h pX3_count_0 21 hR hret rfl ((E, T, Kp, P, S, F)) rfl ⟨vI (by simp [countS, c1, c2, c3, (eq_true c4)]), rfl, rfl, ⟨rfl, rfl⟩, rfl, (fR_of (by simp [sel8, c1, c2, c3, (eq_true c4)]))⟩
  by_cases c5 : w = 4
  · skip
    refine v_tin (tgt := 90) h pX3_count_0 1 c5 rfl (by decide) (by decide) rfl rfl (v_aload_n h pX3_count_0 22 rfl 0 rfl rfl (v_get h pX3_count_0 23 fX3_10 0 rfl rfl rfl (v_aload_n h pX3_count_0 24 rfl 0 rfl rfl (v_get h pX3_count_0 25 fX3_10 0 rfl rfl rfl (v_get h pX3_count_0 26 fX3_136 1 rfl rfl rfl ?_)))))
    refine v_callV h pX3_count_0 27 mX3_119 (As := [.ref (a 9)]) (st := []) (kX0_sumOf _ _ cI cS (sh a 1) E n hW 7 (by decide) (by decide)) v0B v0C emb_E 1 rfl rfl rfl rfl rfl rfl rfl (vDet_k ?_)
    show V K (cW cI cS a (E, T, Kp, P, S, F)) 104 [(0, .ref (a 0)), (1, .int w)] [.int (sumS (E 7) n)]
    exact v_iret h pX3_count_0 28 hR hret rfl ((E, T, Kp, P, S, F)) rfl ⟨vI (by simp [countS, c1, c2, c3, c4, (eq_true c5)]), rfl, rfl, ⟨rfl, rfl⟩, rfl, (fR_of (by simp [sel8, c1, c2, c3, c4, (eq_true c5)]))⟩
  by_cases c6 : w = 5
  · skip
    refine v_tin (tgt := 105) h pX3_count_0 1 c6 rfl (by decide) (by decide) rfl rfl (v_aload_n h pX3_count_0 29 rfl 0 rfl rfl (v_get h pX3_count_0 30 fX3_29 0 rfl rfl rfl (v_get h pX3_count_0 31 fX3_216 31 rfl rfl rfl ?_)))
    exact v_iret h pX3_count_1 0 hR hret rfl ((E, T, Kp, P, S, F)) rfl ⟨vI (by simp [countS, c1, c2, c3, c4, c5, (eq_true c6)]), rfl, rfl, ⟨rfl, rfl⟩, rfl, (fR_of (by simp [sel8, c1, c2, c3, c4, c5, (eq_true c6)]))⟩
  by_cases c7 : w = 6
  · skip
    refine v_tin (tgt := 113) h pX3_count_0 1 c7 rfl (by decide) (by decide) rfl rfl (v_aload_n h pX3_count_1 1 rfl 0 rfl rfl (v_get h pX3_count_1 2 fX3_10 0 rfl rfl rfl (v_get h pX3_count_1 3 fX3_213 1 rfl rfl rfl ?_)))
    exact v_iret h pX3_count_1 4 hR hret rfl ((E, T, Kp, P, S, F)) rfl ⟨vI (by simp [countS, c1, c2, c3, c4, c5, c6, (eq_true c7)]), rfl, rfl, ⟨rfl, rfl⟩, rfl, (fR_of (by simp [sel8, c1, c2, c3, c4, c5, c6, (eq_true c7)]))⟩
  by_cases c8 : w = 7
  · skip
    refine v_tin (tgt := 121) h pX3_count_0 1 c8 rfl (by decide) (by decide) rfl rfl (v_aload_n h pX3_count_1 5 rfl 0 rfl rfl (v_get h pX3_count_1 6 fX3_10 0 rfl rfl rfl ?_))
    refine v_callV h pX3_count_1 7 mX3_252 (As := []) (st := []) (kX0_spotsHolding _ _ cI cS (sh a 1) E) v0B v0C emb_E 1 rfl rfl rfl rfl rfl rfl rfl (vDet_k ?_)
    show V K (cW cI cS a (E, T, Kp, P, S, F)) 128 [(0, .ref (a 0)), (1, .int w)] [.int (cntS (fun k => !decide (E 8 k = -1)) 10)]
    exact v_iret h pX3_count_1 8 hR hret rfl ((E, T, Kp, P, S, F)) rfl ⟨vI (by simp [countS, c1, c2, c3, c4, c5, c6, c7, (eq_true c8)]), rfl, rfl, ⟨rfl, rfl⟩, rfl, (fR_of (by simp [sel8, c1, c2, c3, c4, c5, c6, c7, (eq_true c8)]))⟩
  refine v_tout (tgt := 129) h pX3_count_0 1 rfl (sw_0_7 c1 c2 c3 c4 c5 c6 c7 c8) rfl (v_aload_n h pX3_count_1 9 rfl 0 rfl rfl (v_iconst h pX3_count_1 10 rfl ki_0 ?_))
  refine v_callV h pX3_count_1 11 mX3_55 (As := [.int 0]) (st := []) (kX3_finding _ _ cI cS a E T Kp P F S 0 (by decide)) v0B v0C (vEmb_rf _ _) 0 rfl rfl rfl rfl rfl rfl rfl (vDet_k ?_)
  show V K (cW cI cS a (E, T, Kp, P, S, fndC F 0)) 134 [(0, .ref (a 0)), (1, .int w)] [.int ((-1000001) - (nI 0))]
  refine v_top (w := .int (-1000001)) (by decide) ?_
  exact v_iret h pX3_count_1 12 hR hret rfl ((E, T, Kp, P, S, fndC F 0)) rfl ⟨vI (by simp [countS, c1, c2, c3, c4, c5, c6, c7, c8]), rfl, rfl, ⟨rfl, rfl⟩, rfl, (fR_of (by simp [sel8, c1, c2, c3, c4, c5, c6, c7, c8]))⟩
set_option maxHeartbeats 300000 in
set_option maxRecDepth 100000 in
theorem kX3_status (l : Launch) (D : va_G) (cI cS : ClassId) (a : Nat → Nat) (E T Kp P F : Nat → Nat → Int32) (S : Nat → Nat → Nat → Int32) (n : Nat) (hW : Wf E n) (hZ : E 9 4 = 0) (w : Int32) : vMet l D (vT cI cS) yX3_status cX3_status 4 (some .int) 1 21 (cW cI cS a) v0 [.ref (a 0), .int w] (E, T, Kp, P, S, F) (cPost (some (.int (cond (inB w (-1) 6) (if w < 0 then sumS (F 0) 7 else F 0 (ix w)) ((-1000001))))) (E) (Kp) (P) (S) (cond (inB w (-1) 6) (F) (fndC F 0))) := by
  refine vMet_of (by decide) rfl ?_
  intro K hl hD hnL hret h hR hEx
  subst hl hD
  show V K (cW cI cS a (E, T, Kp, P, S, F)) 0 [(0, .ref (a 0)), (1, .int w)] []
  have hn8 := hW.1
  refine v_iload_n h pX3_status_0 0 rfl 1 rfl rfl (v_iconst h pX3_status_0 1 rfl ki_m1 ?_)
  refine v_icmp_lt (tgt := 11) h pX3_status_0 2 rfl rfl (fun c1 => ?_) (fun c1 => ?_)
  · skip
    refine v_aload_n h pX3_status_0 6 rfl 0 rfl rfl (v_iconst h pX3_status_0 7 rfl ki_0 ?_)
    refine v_callV h pX3_status_0 8 mX3_55 (As := [.int 0]) (st := []) (kX3_finding _ _ cI cS a E T Kp P F S 0 (by decide)) v0B v0C (vEmb_rf _ _) 0 rfl rfl rfl rfl rfl rfl rfl (vDet_k ?_)
    show V K (cW cI cS a (E, T, Kp, P, S, fndC F 0)) 16 [(0, .ref (a 0)), (1, .int w)] [.int ((-1000001) - (nI 0))]
    refine v_top (w := .int (-1000001)) (by decide) ?_
    exact v_iret h pX3_status_0 9 hR hret rfl ((E, T, Kp, P, S, fndC F 0)) rfl ⟨vI (by simp [inB, c1, -Int32.not_lt]), rfl, rfl, ⟨rfl, rfl⟩, rfl, (fR_of (by simp [inB, c1, -Int32.not_lt]))⟩
  · skip
    refine v_iload_n h pX3_status_0 3 rfl 1 rfl rfl (v_bipush h pX3_status_0 4 rfl kb_7 ?_)
    refine v_icmp_lt (tgt := 17) h pX3_status_0 5 rfl rfl (fun c2 => ?_) (fun c2 => ?_)
    · skip
      have c2q := lt7.mp c2
      refine v_iload_n h pX3_status_0 10 rfl 1 rfl rfl ?_
      refine v_if_lt (tgt := 28) h pX3_status_0 11 rfl rfl (fun c3 => ?_) (fun c3 => ?_)
      · skip
        refine v_iconst h pX3_status_0 17 rfl ki_0 (v_istore_n h pX3_status_0 18 (lv' := [(2, .int 0), (0, .ref (a 0)), (1, .int w)]) rfl rfl hnL rfl rfl (v_iconst h pX3_status_0 19 rfl ki_0 (v_istore_n h pX3_status_0 20 (lv' := [(3, .int 0), (2, .int 0), (0, .ref (a 0)), (1, .int w)]) rfl rfl hnL rfl rfl ?_)))
        refine v_lv [2, 3, 1, 0] (lv' := [(0, .ref (a 0)), (1, .int w), (2, .int 0), (3, .int 0)]) rfl ?_
        have L4 : ∀ (m i4 : Nat), i4 ≤ 7 → 7 + 1 ≤ i4 + m → V K (cW cI cS a (E, T, Kp, P, S, F)) 32 [(0, .ref (a 0)), (1, .int w), (2, .int (sumS (F 0) i4)), (3, .int (nI i4))] [] := by
          intro m
          induction m with
          | zero => exact fun i4 h1 h2 => absurd h2 (by omega)
          | succ m ih4 =>
            intro i4 hle4 hlt4
            refine v_iload_n h pX3_status_0 21 rfl 3 rfl rfl (v_bipush h pX3_status_0 22 rfl kb_7 ?_)
            refine v_ncmp_ge (a := i4) (b := 7) (tgt := 53) h pX3_status_0 23 rfl rfl (by omega) (by omega) (fun c5 => ?_) (fun c5 => ?_)
            · skip
              obtain rfl : 7 = i4 := by omega
              refine v_iload_n h pX3_status_1 1 rfl 2 rfl rfl ?_
              exact v_iret h pX3_status_1 2 hR hret rfl ((E, T, Kp, P, S, F)) rfl ⟨vI (by simp [inB, c1, c2q, c3, c5, -Int32.not_lt]), rfl, rfl, ⟨rfl, rfl⟩, rfl, (fR_of (by simp [inB, c1, c2q, c3, c5, -Int32.not_lt]))⟩
            · skip
              refine v_iload_n h pX3_status_0 24 rfl 2 rfl rfl (v_aload_n h pX3_status_0 25 rfl 0 rfl rfl (v_get h pX3_status_0 26 fX3_40 0 rfl rfl rfl (v_iload_n h pX3_status_0 27 rfl 3 rfl rfl (v_iald h pX3_status_0 28 i4 45 0 rfl rfl rfl rfl rfl (by omega) (v_iadd h pX3_status_0 29 rfl ?_)))))
              refine v_istore_n h pX3_status_0 30 (lv' := [(2, .int ((sumS (F 0) i4) + (F 0 i4))), (0, .ref (a 0)), (1, .int w), (3, .int (nI i4))]) rfl rfl hnL rfl rfl (v_iinc h pX3_status_0 31 (v := nI (i4 + 1)) (lv' := [(3, .int (nI (i4 + 1))), (2, .int ((sumS (F 0) i4) + (F 0 i4))), (0, .ref (a 0)), (1, .int w)]) rfl 3 rfl hnL rfl rfl (nI_1 i4) (v_goto (tgt := 32) h pX3_status_1 0 rfl rfl (v_lv [2, 3, 1, 0] (lv' := [(0, .ref (a 0)), (1, .int w), (2, .int ((sumS (F 0) i4) + (F 0 i4))), (3, .int (nI (i4 + 1)))]) rfl ?_)))
              exact ih4 (i4 + 1) (by omega) (by omega)
        exact L4 (7 + 1) 0 (by omega) (by omega)
      · skip
        have hin_w : inB w 0 6 = true := by simp [inB, c1, c2q, c3, -Int32.not_lt]
        obtain ⟨e_w, l_w⟩ := inBl_t 0 6 rfl rfl (by decide) (by decide) hin_w
        refine v_aload_n h pX3_status_0 12 rfl 0 rfl rfl (v_get h pX3_status_0 13 fX3_40 0 rfl rfl rfl (v_iload_n h pX3_status_0 14 rfl 1 rfl rfl (v_top (w := .int (nI (ix w))) (congrArg Value.int e_w) (v_iald h pX3_status_0 15 (ix w) 45 0 rfl rfl rfl rfl rfl (by omega) ?_))))
        exact v_iret h pX3_status_0 16 hR hret rfl ((E, T, Kp, P, S, F)) rfl ⟨vI (by simp [inB, c1, c2q, c3, -Int32.not_lt]), rfl, rfl, ⟨rfl, rfl⟩, rfl, (fR_of (by simp [inB, c1, c2q, c3, -Int32.not_lt]))⟩
    · skip
      have c2q : 6 < w := Classical.not_not.mp (fun e => c2 (lt7.mpr e))
      refine v_aload_n h pX3_status_0 6 rfl 0 rfl rfl (v_iconst h pX3_status_0 7 rfl ki_0 ?_)
      refine v_callV h pX3_status_0 8 mX3_55 (As := [.int 0]) (st := []) (kX3_finding _ _ cI cS a E T Kp P F S 0 (by decide)) v0B v0C (vEmb_rf _ _) 0 rfl rfl rfl rfl rfl rfl rfl (vDet_k ?_)
      show V K (cW cI cS a (E, T, Kp, P, S, fndC F 0)) 16 [(0, .ref (a 0)), (1, .int w)] [.int ((-1000001) - (nI 0))]
      refine v_top (w := .int (-1000001)) (by decide) ?_
      exact v_iret h pX3_status_0 9 hR hret rfl ((E, T, Kp, P, S, fndC F 0)) rfl ⟨vI (by simp [inB, c1, c2q, -Int32.not_lt]), rfl, rfl, ⟨rfl, rfl⟩, rfl, (fR_of (by simp [inB, c1, c2q, -Int32.not_lt]))⟩
set_option maxHeartbeats 300000 in
set_option maxRecDepth 100000 in
theorem kX3_storms (l : Launch) (D : va_G) (cI cS : ClassId) (a : Nat → Nat) (E T Kp P F : Nat → Nat → Int32) (S : Nat → Nat → Nat → Int32) (n : Nat) (hW : Wf E n) (hZ : E 9 4 = 0) (k : Int32) : vMet l D (vT cI cS) yX3_storms cX3_storms 5 (some .int) 4 82 (cW cI cS a) v0 [.ref (a 0), .int k] (E, T, Kp, P, S, F) (cPost (some (.int (cond (inB k 1 20) (if 99999 < E 9 2 + k then (-1000005) else sumS (stmsS n E (ix k) 5) n) ((-1000001))))) (cond (inB k 1 20) (if 99999 < E 9 2 + k then E else stmsS n E (ix k)) (E)) (Kp) (P) (S) (cond (inB k 1 20) (if 99999 < E 9 2 + k then fndC F 4 else F) (fndC F 0))) := by
  refine vMet_of (by decide) rfl ?_
  intro K hl hD hnL hret h hR hEx
  subst hl hD
  show V K (cW cI cS a (E, T, Kp, P, S, F)) 0 [(0, .ref (a 0)), (1, .int k)] []
  have hn8 := hW.1
  refine v_iload_n h pX3_storms_0 0 rfl 1 rfl rfl (v_iconst h pX3_storms_0 1 rfl ki_1 ?_)
  refine v_icmp_lt (tgt := 11) h pX3_storms_0 2 rfl rfl (fun c1 => ?_) (fun c1 => ?_)
  · skip
    refine v_aload_n h pX3_storms_0 6 rfl 0 rfl rfl (v_iconst h pX3_storms_0 7 rfl ki_0 ?_)
    refine v_callV h pX3_storms_0 8 mX3_55 (As := [.int 0]) (st := []) (kX3_finding _ _ cI cS a E T Kp P F S 0 (by decide)) v0B v0C (vEmb_rf _ _) 0 rfl rfl rfl rfl rfl rfl rfl (vDet_k ?_)
    show V K (cW cI cS a (E, T, Kp, P, S, fndC F 0)) 16 [(0, .ref (a 0)), (1, .int k)] [.int ((-1000001) - (nI 0))]
    refine v_top (w := .int (-1000001)) (by decide) ?_
    exact v_iret h pX3_storms_0 9 hR hret rfl ((E, T, Kp, P, S, fndC F 0)) rfl ⟨vI (by simp [inB, c1, True, -Int32.not_lt]), (by simp [inB, c1, True, -Int32.not_lt]), rfl, ⟨rfl, rfl⟩, rfl, (fR_of (by simp [inB, c1, True, -Int32.not_lt]))⟩
  · skip
    refine v_iload_n h pX3_storms_0 3 rfl 1 rfl rfl (v_bipush h pX3_storms_0 4 rfl kb_20 ?_)
    refine v_icmp_le2 (tgt := 17) h pX3_storms_0 5 rfl rfl (fun c2 => ?_) (fun c2 => ?_)
    · skip
      have hin_k : inB k 1 20 = true := by simp [inB, c1, c2, -Int32.not_lt]
      obtain ⟨e_k, l_k⟩ := inBl_t 1 20 rfl rfl (by decide) (by decide) hin_k
      refine v_aload_n h pX3_storms_0 10 rfl 0 rfl rfl (v_get h pX3_storms_0 11 fX3_10 0 rfl rfl rfl (v_get h pX3_storms_0 12 fX3_109 1 rfl rfl rfl (v_iload_n h pX3_storms_0 13 rfl 1 rfl rfl (v_iadd h pX3_storms_0 14 rfl (v_ldc h pX3_storms_0 15 wm_280 rfl ?_)))))
      refine v_icmp_le2 (tgt := 37) h pX3_storms_0 16 rfl rfl (fun c3 => ?_) (fun c3 => ?_)
      · skip
        refine v_iconst h pX3_storms_0 21 rfl ki_0 (v_istore_n h pX3_storms_0 22 (lv' := [(2, .int 0), (0, .ref (a 0)), (1, .int k)]) rfl rfl hnL rfl rfl ?_)
        refine v_lv [1, 2, 0] (lv' := [(0, .ref (a 0)), (1, .int k), (2, .int 0)]) rfl ?_
        have LA : ∀ (m iA : Nat), iA ≤ (ix k) → (True) → (ix k) + 1 ≤ iA + m → V K (cW cI cS a (stmsS n E iA, T, Kp, P, S, F)) 39 [(0, .ref (a 0)), (1, .int k), (2, .int (nI iA))] [] := by
          intro m
          induction m with
          | zero => exact fun iA h1 hh h2 => absurd h2 (by omega)
          | succ m ihA =>
            intro iA hleA hhA hltA
            have hWSA : Wf (stmsS n E iA) n := (Wf_stms hW iA)
            generalize hSA : stmsS n E iA = SA at hWSA ⊢
            have hZA : SA 9 4 = 0 := by rw [← hSA]; exact stms_94 hZ _
            refine v_iload_n h pX3_storms_0 23 rfl 2 rfl rfl (v_iload_n h pX3_storms_0 24 rfl 1 rfl rfl (v_top (w := .int (nI (ix k))) (congrArg Value.int e_k) ?_))
            refine v_ncmp_ge (a := iA) (b := ix k) (tgt := 99) h pX3_storms_0 25 rfl rfl (by omega) (by omega) (fun c6 => ?_) (fun c6 => ?_)
            · skip
              obtain rfl : (ix k) = iA := by omega
              refine v_aload_n h pX3_storms_1 21 rfl 0 rfl rfl (v_get h pX3_storms_1 22 fX3_10 0 rfl rfl rfl (v_aload_n h pX3_storms_1 23 rfl 0 rfl rfl (v_get h pX3_storms_1 24 fX3_10 0 rfl rfl rfl (v_get h pX3_storms_1 25 fX3_116 1 rfl rfl rfl ?_))))
              refine v_callV h pX3_storms_1 26 mX3_119 (As := [.ref (a 7)]) (st := []) (kX0_sumOf _ _ cI cS (sh a 1) SA n hWSA 5 (by decide) (by decide)) v0B v0C emb_E 1 rfl rfl rfl rfl rfl rfl rfl (vDet_k ?_)
              show V K (cW cI cS a (SA, T, Kp, P, S, F)) 113 [(0, .ref (a 0)), (1, .int k), (2, .int (nI ((ix k))))] [.int (sumS (SA 5) n)]
              exact v_iret h pX3_storms_1 27 hR hret rfl ((SA, T, Kp, P, S, F)) rfl ⟨vI (by simp [inB, c1, c2, c3, c6, hSA, -Int32.not_lt]), (by simp [inB, c1, c2, c3, c6, hSA, -Int32.not_lt]), rfl, ⟨rfl, rfl⟩, rfl, (fR_of (by simp [inB, c1, c2, c3, c6, hSA, -Int32.not_lt]))⟩
            · skip
              refine v_aload_n h pX3_storms_0 26 rfl 0 rfl rfl (v_get h pX3_storms_0 27 fX3_10 0 rfl rfl rfl ?_)
              refine v_callV h pX3_storms_0 28 mX3_210 (As := []) (st := []) (kX0_draw _ _ cI cS (sh a 1) SA) v0B v0C emb_E 1 rfl rfl rfl rfl rfl rfl rfl (vDet_k ?_)
              show V K (cW cI cS a (up SA 9 3 (drwZ (SA 9 3)), T, Kp, P, S, F)) 51 [(0, .ref (a 0)), (1, .int k), (2, .int (nI iA))] [.int (drwV (drwZ (SA 9 3)))]
              refine v_bipush h pX3_storms_0 29 rfl kb_8 (v_irem2 h pX3_storms_0 30 rfl (by decide) ?_)
              generalize hyy : rem (drwV (drwZ (SA 9 3))) 8 = y
              refine v_istore_n h pX3_storms_0 31 (lv' := [(3, .int y), (0, .ref (a 0)), (1, .int k), (2, .int (nI iA))]) rfl rfl hnL rfl rfl (v_aload_n h pX3_storms_1 0 rfl 1 rfl rfl (v_get h pX3_storms_1 1 fX3_10 0 rfl rfl rfl ?_))
              refine v_callV h pX3_storms_1 2 mX3_210 (As := []) (st := []) (kX0_draw _ _ cI cS (sh a 1) (up SA 9 3 (drwZ (SA 9 3)))) v0B v0C emb_E 1 rfl rfl rfl rfl rfl rfl rfl (vDet_k ?_)
              show V K (cW cI cS a (up (up SA 9 3 (drwZ (SA 9 3))) 9 3 (drwZ (drwZ (SA 9 3))), T, Kp, P, S, F)) 62 [(3, .int y), (0, .ref (a 0)), (1, .int k), (2, .int (nI iA))] [.int (drwV (drwZ (drwZ (SA 9 3))))]
              refine v_bipush h pX3_storms_1 3 rfl kb_6 (v_irem2 h pX3_storms_1 4 rfl (by decide) ?_)
              generalize hbd1 : rem (drwV (drwZ (drwZ (SA 9 3)))) 6 = bd1
              refine v_istore h pX3_storms_1 5 (lv' := [(4, .int bd1), (3, .int y), (0, .ref (a 0)), (1, .int k), (2, .int (nI iA))]) rfl hnL rfl rfl ?_
              have hbb : bd bd1 5 := by rw [← hbd1]; exact drw_bd _ 6 (by decide) (by decide)
              refine v_aload_n h pX3_storms_1 6 rfl 2 rfl rfl (v_iload_n h pX3_storms_1 7 rfl 1 rfl rfl ?_)
              refine v_callV h pX3_storms_1 8 mX3_83 (As := [.int y]) (st := []) (kX3_isOyster _ _ cI cS a (up (up SA 9 3 (drwZ (SA 9 3))) 9 3 (drwZ (drwZ (SA 9 3)))) T Kp P F S n (Wf_up9 (Wf_up9 hWSA (by decide)) (by decide)) y) v0B v0C (vEmb_rf _ _) 0 rfl rfl rfl rfl rfl rfl rfl (vDet_k ?_)
              show V K (cW cI cS a (up (up SA 9 3 (drwZ (SA 9 3))) 9 3 (drwZ (drwZ (SA 9 3))), T, Kp, P, S, F)) 72 [(4, .int bd1), (3, .int y), (0, .ref (a 0)), (1, .int k), (2, .int (nI iA))] [.int (bI (oyB y n))]
              refine v_bif_eq (tgt := 86) h pX3_storms_1 9 rfl rfl (fun c7 => ?_) (fun c7 => ?_)
              · skip
                refine v_aload_n h pX3_storms_1 16 rfl 2 rfl rfl (v_get h pX3_storms_1 17 fX3_10 0 rfl rfl rfl ?_)
                refine v_callV h pX3_storms_1 18 mX3_146 (As := []) (st := []) (kX0_passYear0 _ _ cI cS (sh a 1) (up (up SA 9 3 (drwZ (SA 9 3))) 9 3 (drwZ (drwZ (SA 9 3)))) n (Wf_up9 (Wf_up9 hWSA (by decide)) (by decide)) (z_9 (by decide) (z_9 (by decide) hZA))) v0B v0C emb_E 1 rfl rfl rfl rfl rfl rfl rfl (vDet_k ?_)
                show V K (cW cI cS a (yearS n 0 (up (up SA 9 3 (drwZ (SA 9 3))) 9 3 (drwZ (drwZ (SA 9 3)))), T, Kp, P, S, F)) 93 [(4, .int bd1), (3, .int y), (0, .ref (a 0)), (1, .int k), (2, .int (nI iA))] []
                refine v_iinc h pX3_storms_1 19 (v := nI (iA + 1)) (lv' := [(2, .int (nI (iA + 1))), (4, .int bd1), (3, .int y), (0, .ref (a 0)), (1, .int k)]) rfl 4 rfl hnL rfl rfl (nI_1 iA) (v_goto (tgt := 39) h pX3_storms_1 20 rfl rfl (v_lv [3, 4, 0] (lv' := [(0, .ref (a 0)), (1, .int k), (2, .int (nI (iA + 1)))]) rfl (v_eqw (ws' := cW cI cS a (stmsS n E (iA + 1), T, Kp, P, S, F)) (by subst hbd1; subst hyy; rw [stmsS, hSA]; simp [stmS, c1, c2, c3, c6, c7]; try rfl) ?_)))
                exact ihA (iA + 1) (by omega) (trivial) (by omega)
              · skip
                obtain ⟨e_y, l_y⟩ := oyB_t hn8 c7
                refine v_aload_n h pX3_storms_1 10 rfl 2 rfl rfl (v_get h pX3_storms_1 11 fX3_10 0 rfl rfl rfl (v_get h pX3_storms_1 12 fX3_152 1 rfl rfl rfl (v_iload_n h pX3_storms_1 13 rfl 1 rfl rfl (v_top (w := .int (nI (ix y))) (congrArg Value.int e_y) (v_iload h pX3_storms_1 14 rfl 0 rfl ?_)))))
                refine v_iast h pX3_storms_1 15 (ix y) 5 0 (ws' := cW cI cS a (up (up (up SA 9 3 (drwZ (SA 9 3))) 9 3 (drwZ (drwZ (SA 9 3)))) 3 (ix y) bd1, T, Kp, P, S, F)) rfl rfl rfl rfl rfl (by omega) cW_Es3 (v_aload_n h pX3_storms_1 16 rfl 2 rfl rfl (v_get h pX3_storms_1 17 fX3_10 0 rfl rfl rfl ?_))
                refine v_callV h pX3_storms_1 18 mX3_146 (As := []) (st := []) (kX0_passYear0 _ _ cI cS (sh a 1) (up (up (up SA 9 3 (drwZ (SA 9 3))) 9 3 (drwZ (drwZ (SA 9 3)))) 3 (ix y) bd1) n (Wf_up3 (Wf_up9 (Wf_up9 hWSA (by decide)) (by decide)) hbb) (z_n rfl (z_9 (by decide) (z_9 (by decide) hZA)))) v0B v0C emb_E 1 rfl rfl rfl rfl rfl rfl rfl (vDet_k ?_)
                show V K (cW cI cS a (yearS n 0 (up (up (up SA 9 3 (drwZ (SA 9 3))) 9 3 (drwZ (drwZ (SA 9 3)))) 3 (ix y) bd1), T, Kp, P, S, F)) 93 [(4, .int bd1), (3, .int y), (0, .ref (a 0)), (1, .int k), (2, .int (nI iA))] []
                refine v_iinc h pX3_storms_1 19 (v := nI (iA + 1)) (lv' := [(2, .int (nI (iA + 1))), (4, .int bd1), (3, .int y), (0, .ref (a 0)), (1, .int k)]) rfl 4 rfl hnL rfl rfl (nI_1 iA) (v_goto (tgt := 39) h pX3_storms_1 20 rfl rfl (v_lv [3, 4, 0] (lv' := [(0, .ref (a 0)), (1, .int k), (2, .int (nI (iA + 1)))]) rfl (v_eqw (ws' := cW cI cS a (stmsS n E (iA + 1), T, Kp, P, S, F)) (by subst hbd1; subst hyy; rw [stmsS, hSA]; simp [stmS, c1, c2, c3, c6, c7]; try rfl) ?_)))
                exact ihA (iA + 1) (by omega) (trivial) (by omega)
        exact LA ((ix k) + 1) 0 (by omega) trivial (by omega)
      · skip
        refine v_aload_n h pX3_storms_0 17 rfl 0 rfl rfl (v_iconst h pX3_storms_0 18 rfl ki_4 ?_)
        refine v_callV h pX3_storms_0 19 mX3_55 (As := [.int 4]) (st := []) (kX3_finding _ _ cI cS a E T Kp P F S 4 (by decide)) v0B v0C (vEmb_rf _ _) 0 rfl rfl rfl rfl rfl rfl rfl (vDet_k ?_)
        show V K (cW cI cS a (E, T, Kp, P, S, fndC F 4)) 36 [(0, .ref (a 0)), (1, .int k)] [.int ((-1000001) - (nI 4))]
        refine v_top (w := .int (-1000005)) (by decide) ?_
        exact v_iret h pX3_storms_0 20 hR hret rfl ((E, T, Kp, P, S, fndC F 4)) rfl ⟨vI (by simp [inB, c1, c2, c3, True, -Int32.not_lt]), (by simp [inB, c1, c2, c3, True, -Int32.not_lt]), rfl, ⟨rfl, rfl⟩, rfl, (fR_of (by simp [inB, c1, c2, c3, True, -Int32.not_lt]))⟩
    · skip
      refine v_aload_n h pX3_storms_0 6 rfl 0 rfl rfl (v_iconst h pX3_storms_0 7 rfl ki_0 ?_)
      refine v_callV h pX3_storms_0 8 mX3_55 (As := [.int 0]) (st := []) (kX3_finding _ _ cI cS a E T Kp P F S 0 (by decide)) v0B v0C (vEmb_rf _ _) 0 rfl rfl rfl rfl rfl rfl rfl (vDet_k ?_)
      show V K (cW cI cS a (E, T, Kp, P, S, fndC F 0)) 16 [(0, .ref (a 0)), (1, .int k)] [.int ((-1000001) - (nI 0))]
      refine v_top (w := .int (-1000001)) (by decide) ?_
      exact v_iret h pX3_storms_0 9 hR hret rfl ((E, T, Kp, P, S, fndC F 0)) rfl ⟨vI (by simp [inB, c1, c2, True, -Int32.not_lt]), (by simp [inB, c1, c2, True, -Int32.not_lt]), rfl, ⟨rfl, rfl⟩, rfl, (fR_of (by simp [inB, c1, c2, True, -Int32.not_lt]))⟩
set_option maxHeartbeats 300000 in
set_option maxRecDepth 100000 in
theorem kX3_odds (l : Launch) (D : va_G) (cI cS : ClassId) (a : Nat → Nat) (E T Kp P F : Nat → Nat → Int32) (S : Nat → Nat → Nat → Int32) (n : Nat) (hW : Wf E n) (hZ : E 9 4 = 0) (k w : Int32) : vMet l D (vT cI cS) yX3_odds cX3_odds 10 (some .long) 4 78 (cW cI cS a) v0 [.ref (a 0), .int k, .int w] (E, T, Kp, P, S, F) (cPost (some (.long (cond (inB k 0 20 && inB w 0 1) (odS (n - popc (setN (hiddenS E) n)) (ix k) w) (((-1000001) : Int32).toInt64)))) (E) (Kp) (P) (S) (cond (inB k 0 20 && inB w 0 1) (F) (fndC F 0))) := by
  refine vMet_of (by decide) rfl ?_
  intro K hl hD hnL hret h hR hEx
  subst hl hD
  show V K (cW cI cS a (E, T, Kp, P, S, F)) 0 [(0, .ref (a 0)), (1, .int k), (2, .int w)] []
  have hn8 := hW.1
  refine v_iload_n h pX3_odds_0 0 rfl 1 rfl rfl (v_bipush h pX3_odds_0 1 rfl kb_20 ?_)
  refine v_callS h pX3_odds_0 2 mX3_51 (As := [.int k, .int 20]) (st := []) (kX3_isWithin _ _ cI cS k 20) v0B v0C (vEmb_u _) rfl rfl rfl rfl rfl (vDet_k ?_)
  show V K (cW cI cS a (E, T, Kp, P, S, F)) 6 [(0, .ref (a 0)), (1, .int k), (2, .int w)] [.int (bI (inB k 0 20))]
  refine v_bif_eq (tgt := 17) h pX3_odds_0 3 rfl rfl (fun c1 => ?_) (fun c1 => ?_)
  · skip
    refine v_aload_n h pX3_odds_0 8 rfl 0 rfl rfl (v_iconst h pX3_odds_0 9 rfl ki_0 ?_)
    refine v_callV h pX3_odds_0 10 mX3_55 (As := [.int 0]) (st := []) (kX3_finding _ _ cI cS a E T Kp P F S 0 (by decide)) v0B v0C (vEmb_rf _ _) 0 rfl rfl rfl rfl rfl rfl rfl (vDet_k ?_)
    show V K (cW cI cS a (E, T, Kp, P, S, fndC F 0)) 22 [(0, .ref (a 0)), (1, .int k), (2, .int w)] [.int ((-1000001) - (nI 0))]
    refine v_top (w := .int (-1000001)) (by decide) (v_i2l h pX3_odds_0 11 rfl ?_)
    exact v_lret h pX3_odds_0 12 hR hret rfl ((E, T, Kp, P, S, fndC F 0)) rfl ⟨vL (by first | (simp [c1]; done) | (rw [show (inB k 0 20 && inB w 0 1) = true by simp [c1]]; show _ = odS (n - popc (setN (hiddenS E) n)) (ix k) w; rw [ho]; have e := od_tab o (by omega) (ix k) (by omega); unfold odS; first | (rw [if_pos (by assumption), ← e.1]; simp [odC, c1]; done) | (rw [if_neg (by assumption), ← e.2]; simp [odC, c1]; done))), rfl, rfl, ⟨rfl, rfl⟩, rfl, (fR_of (by simp [c1, True]))⟩
  · skip
    obtain ⟨e_k, l_k⟩ := inB_t 20 rfl (by decide) c1
    refine v_iload_n h pX3_odds_0 4 rfl 2 rfl rfl (v_iconst h pX3_odds_0 5 rfl ki_1 ?_)
    refine v_callS h pX3_odds_0 6 mX3_51 (As := [.int w, .int 1]) (st := []) (kX3_isWithin _ _ cI cS w 1) v0B v0C (vEmb_u _) rfl rfl rfl rfl rfl (vDet_k ?_)
    show V K (cW cI cS a (E, T, Kp, P, S, F)) 14 [(0, .ref (a 0)), (1, .int k), (2, .int w)] [.int (bI (inB w 0 1))]
    refine v_bif_ne (tgt := 24) h pX3_odds_0 7 rfl rfl (fun c2 => ?_) (fun c2 => ?_)
    · skip
      refine v_aload_n h pX3_odds_0 13 rfl 0 rfl rfl (v_get h pX3_odds_0 14 fX3_10 0 rfl rfl rfl (v_get h pX3_odds_0 15 fX3_161 1 rfl rfl rfl (v_top (w := .int (nI n)) (congrArg Value.int hW.2.1) (v_aload_n h pX3_odds_0 16 rfl 0 rfl rfl (v_get h pX3_odds_0 17 fX3_10 0 rfl rfl rfl ?_)))))
      refine v_callV h pX3_odds_0 18 mX3_127 (As := []) (st := [.int (nI n)]) (kX0_hiddenSet _ _ cI cS (sh a 1) E n hW) v0B v0C emb_E 1 rfl rfl rfl rfl rfl rfl rfl (vDet_k ?_)
      show V K (cW cI cS a (E, T, Kp, P, S, F)) 38 [(0, .ref (a 0)), (1, .int k), (2, .int w)] [.int (setS (hiddenS E) n), .int (nI n)]
      refine v_top (w := .int (nI (setN (hiddenS E) n))) (congrArg Value.int (setS_N _ n (by omega))) ?_
      refine v_callS h pX3_odds_0 19 mX3_164 (As := [.int (nI (setN (hiddenS E) n))]) (st := [.int (nI n)]) (kJ6_bitCount_0f7a4 _ _ cI cS (setN (hiddenS E) n) (by first | exact setN_256 _ (by omega) | omega)) v0B v0C (vEmb_u _) rfl rfl rfl rfl rfl (vDet_k ?_)
      show V K (cW cI cS a (E, T, Kp, P, S, F)) 41 [(0, .ref (a 0)), (1, .int k), (2, .int w)] [.int (nI (popc (setN (hiddenS E) n))), .int (nI n)]
      refine v_isub h pX3_odds_0 20 rfl ?_
      refine v_top (w := .int (nI (n - popc (setN (hiddenS E) n)))) (congrArg Value.int (nI_sb (popc_set _ _ (by omega)))) ?_
      have ho8 : n - popc (setN (hiddenS E) n) ≤ 8 := by omega
      generalize ho : n - popc (setN (hiddenS E) n) = o at ho8 ⊢
      refine v_istore_n h pX3_odds_0 21 (lv' := [(3, .int (nI o)), (0, .ref (a 0)), (1, .int k), (2, .int w)]) rfl rfl hnL rfl rfl (v_bipush h pX3_odds_0 22 rfl kb_8 (v_istore h pX3_odds_0 23 (lv' := [(4, .int 8), (3, .int (nI o)), (0, .ref (a 0)), (1, .int k), (2, .int w)]) rfl hnL rfl rfl (v_iload h pX3_odds_0 24 rfl 0 rfl (v_iconst h pX3_odds_0 25 rfl ki_1 ?_))))
      refine v_ncmp_le (a := 8) (b := 1) (tgt := 72) h pX3_odds_0 26 rfl rfl (by decide) (by decide) (fun c3 => absurd c3 (by decide)) (fun c3 => ?_)
      refine v_iload_n h pX3_odds_0 27 rfl 1 rfl rfl (v_iconst h pX3_odds_0 28 rfl ki_2 (v_irem2 h pX3_odds_0 29 rfl (by decide) ?_))
      refine v_if_ne (tgt := 72) h pX3_odds_0 30 rfl rfl (fun c4 => ?_) (fun c4 => ?_)
      · skip
        refine v_iload_n h pX3_odds_1 8 rfl 4 rfl rfl ?_
        refine v_if_ne (tgt := 81) h pX3_odds_1 9 rfl rfl (fun c5 => ?_) (fun c5 => ?_)
        · skip
          refine v_iload h pX3_odds_1 13 rfl 0 rfl (v_i2l h pX3_odds_1 14 rfl (v_lstore h pX3_odds_1 15 (lv' := [(5, .long ((8 : Int32).toInt64)), (4, .int 8), (3, .int (nI o)), (0, .ref (a 0)), (1, .int k), (2, .int w)]) rfl hnL rfl rfl (v_lconst (v := 1) h pX3_odds_1 16 rfl rfl (v_lstore h pX3_odds_1 17 (lv' := [(7, .long 1), (5, .long ((8 : Int32).toInt64)), (4, .int 8), (3, .int (nI o)), (0, .ref (a 0)), (1, .int k), (2, .int w)]) rfl hnL rfl rfl (v_iconst h pX3_odds_1 18 rfl ki_0 ?_)))))
          refine v_istore h pX3_odds_1 19 (lv' := [(9, .int 0), (7, .long 1), (5, .long ((8 : Int32).toInt64)), (4, .int 8), (3, .int (nI o)), (0, .ref (a 0)), (1, .int k), (2, .int w)]) rfl hnL rfl rfl ?_
          refine v_lv [5, 6, 7, 2, 1, 0] (lv' := [(0, .ref (a 0)), (1, .int k), (2, .int w), (5, .long ((8 : Int32).toInt64)), (7, .long 1), (9, .int 0)]) rfl ?_
          have L6 : ∀ (m i6 : Nat), i6 ≤ (ix k) → (ix k) + 1 ≤ i6 + m → V K (cW cI cS a (E, T, Kp, P, S, F)) 92 [(0, .ref (a 0)), (1, .int k), (2, .int w), (5, .long ((8 : Int32).toInt64)), (7, .long (pwL ((8 : Int32).toInt64) i6)), (9, .int (nI i6))] [] := by
            intro m
            induction m with
            | zero => exact fun i6 h1 h2 => absurd h2 (by omega)
            | succ m ih6 =>
              intro i6 hle6 hlt6
              refine v_iload h pX3_odds_1 20 rfl 5 rfl (v_iload_n h pX3_odds_1 21 rfl 1 rfl rfl (v_top (w := .int (nI (ix k))) (congrArg Value.int e_k) ?_))
              refine v_ncmp_ge (a := i6) (b := ix k) (tgt := 111) h pX3_odds_1 22 rfl rfl (by omega) (by omega) (fun c7 => ?_) (fun c7 => ?_)
              · skip
                obtain rfl : (ix k) = i6 := by omega
                refine v_lload h pX3_odds_1 29 rfl 4 rfl ?_
                exact v_lret h pX3_odds_1 30 hR hret rfl ((E, T, Kp, P, S, F)) rfl ⟨vL (by first | (simp [c1, c2, c4, c5, c7]; done) | (rw [show (inB k 0 20 && inB w 0 1) = true by simp [c1, c2, c4, c5, c7]]; show _ = odS (n - popc (setN (hiddenS E) n)) (ix k) w; rw [ho]; have e := od_tab o (by omega) (ix k) (by omega); unfold odS; first | (rw [if_pos (by assumption), ← e.1]; simp [odC, c1, c2, c4, c5, c7]; done) | (rw [if_neg (by assumption), ← e.2]; simp [odC, c1, c2, c4, c5, c7]; done))), rfl, rfl, ⟨rfl, rfl⟩, rfl, (fR_of (by simp [c1, c2, c4, c5, c7, True]))⟩
              · skip
                refine v_lload h pX3_odds_1 23 rfl 4 rfl (v_lload h pX3_odds_1 24 rfl 3 rfl (v_lmul h pX3_odds_1 25 rfl (v_lstore h pX3_odds_1 26 (lv' := [(7, .long ((pwL ((8 : Int32).toInt64) i6) * ((8 : Int32).toInt64))), (0, .ref (a 0)), (1, .int k), (2, .int w), (5, .long ((8 : Int32).toInt64)), (9, .int (nI i6))]) rfl hnL rfl rfl (v_iinc h pX3_odds_1 27 (v := nI (i6 + 1)) (lv' := [(9, .int (nI (i6 + 1))), (7, .long ((pwL ((8 : Int32).toInt64) i6) * ((8 : Int32).toInt64))), (0, .ref (a 0)), (1, .int k), (2, .int w), (5, .long ((8 : Int32).toInt64))]) rfl 5 rfl hnL rfl rfl (nI_1 i6) (v_goto (tgt := 92) h pX3_odds_1 28 rfl rfl ?_)))))
                refine v_lv [2, 3, 4, 5, 1, 0] (lv' := [(0, .ref (a 0)), (1, .int k), (2, .int w), (5, .long ((8 : Int32).toInt64)), (7, .long ((pwL ((8 : Int32).toInt64) i6) * ((8 : Int32).toInt64))), (9, .int (nI (i6 + 1)))]) rfl ?_
                exact ih6 (i6 + 1) (by omega) (by omega)
          exact L6 ((ix k) + 1) 0 (by omega) (by omega)
        · skip
          refine v_iload_n h pX3_odds_1 10 rfl 1 rfl rfl (v_i2l h pX3_odds_1 11 rfl (v_goto (tgt := 84) h pX3_odds_1 12 rfl rfl (v_lstore h pX3_odds_1 15 (lv' := [(5, .long ((nI o : Int32).toInt64)), (4, .int 8), (3, .int (nI o)), (0, .ref (a 0)), (1, .int k), (2, .int w)]) rfl hnL rfl rfl (v_lconst (v := 1) h pX3_odds_1 16 rfl rfl (v_lstore h pX3_odds_1 17 (lv' := [(7, .long 1), (5, .long ((nI o : Int32).toInt64)), (4, .int 8), (3, .int (nI o)), (0, .ref (a 0)), (1, .int k), (2, .int w)]) rfl hnL rfl rfl ?_)))))
          refine v_iconst h pX3_odds_1 18 rfl ki_0 (v_istore h pX3_odds_1 19 (lv' := [(9, .int 0), (7, .long 1), (5, .long ((nI o : Int32).toInt64)), (4, .int 8), (3, .int (nI o)), (0, .ref (a 0)), (1, .int k), (2, .int w)]) rfl hnL rfl rfl ?_)
          refine v_lv [5, 6, 7, 2, 1, 0] (lv' := [(0, .ref (a 0)), (1, .int k), (2, .int w), (5, .long ((nI o : Int32).toInt64)), (7, .long 1), (9, .int 0)]) rfl ?_
          have L8 : ∀ (m i8 : Nat), i8 ≤ (ix k) → (ix k) + 1 ≤ i8 + m → V K (cW cI cS a (E, T, Kp, P, S, F)) 92 [(0, .ref (a 0)), (1, .int k), (2, .int w), (5, .long ((nI o : Int32).toInt64)), (7, .long (pwL ((nI o : Int32).toInt64) i8)), (9, .int (nI i8))] [] := by
            intro m
            induction m with
            | zero => exact fun i8 h1 h2 => absurd h2 (by omega)
            | succ m ih8 =>
              intro i8 hle8 hlt8
              refine v_iload h pX3_odds_1 20 rfl 5 rfl (v_iload_n h pX3_odds_1 21 rfl 1 rfl rfl (v_top (w := .int (nI (ix k))) (congrArg Value.int e_k) ?_))
              refine v_ncmp_ge (a := i8) (b := ix k) (tgt := 111) h pX3_odds_1 22 rfl rfl (by omega) (by omega) (fun c9 => ?_) (fun c9 => ?_)
              · skip
                obtain rfl : (ix k) = i8 := by omega
                refine v_lload h pX3_odds_1 29 rfl 4 rfl ?_
                exact v_lret h pX3_odds_1 30 hR hret rfl ((E, T, Kp, P, S, F)) rfl ⟨vL (by first | (simp [c1, c2, c4, (eq_true c5), c9]; done) | (rw [show (inB k 0 20 && inB w 0 1) = true by simp [c1, c2, c4, (eq_true c5), c9]]; show _ = odS (n - popc (setN (hiddenS E) n)) (ix k) w; rw [ho]; have e := od_tab o (by omega) (ix k) (by omega); unfold odS; first | (rw [if_pos (by assumption), ← e.1]; simp [odC, c1, c2, c4, (eq_true c5), c9]; done) | (rw [if_neg (by assumption), ← e.2]; simp [odC, c1, c2, c4, (eq_true c5), c9]; done))), rfl, rfl, ⟨rfl, rfl⟩, rfl, (fR_of (by simp [c1, c2, c4, (eq_true c5), c9, True]))⟩
              · skip
                refine v_lload h pX3_odds_1 23 rfl 4 rfl (v_lload h pX3_odds_1 24 rfl 3 rfl (v_lmul h pX3_odds_1 25 rfl (v_lstore h pX3_odds_1 26 (lv' := [(7, .long ((pwL ((nI o : Int32).toInt64) i8) * ((nI o : Int32).toInt64))), (0, .ref (a 0)), (1, .int k), (2, .int w), (5, .long ((nI o : Int32).toInt64)), (9, .int (nI i8))]) rfl hnL rfl rfl (v_iinc h pX3_odds_1 27 (v := nI (i8 + 1)) (lv' := [(9, .int (nI (i8 + 1))), (7, .long ((pwL ((nI o : Int32).toInt64) i8) * ((nI o : Int32).toInt64))), (0, .ref (a 0)), (1, .int k), (2, .int w), (5, .long ((nI o : Int32).toInt64))]) rfl 5 rfl hnL rfl rfl (nI_1 i8) (v_goto (tgt := 92) h pX3_odds_1 28 rfl rfl ?_)))))
                refine v_lv [2, 3, 4, 5, 1, 0] (lv' := [(0, .ref (a 0)), (1, .int k), (2, .int w), (5, .long ((nI o : Int32).toInt64)), (7, .long ((pwL ((nI o : Int32).toInt64) i8) * ((nI o : Int32).toInt64))), (9, .int (nI (i8 + 1)))]) rfl ?_
                exact ih8 (i8 + 1) (by omega) (by omega)
          exact L8 ((ix k) + 1) 0 (by omega) (by omega)
      · skip
        refine v_iload_n h pX3_odds_0 31 rfl 1 rfl rfl (v_iconst h pX3_odds_1 0 rfl ki_2 (v_idiv h pX3_odds_1 1 rfl (by decide) (v_istore_n h pX3_odds_1 2 (lv' := [(3, .int ((nI o) / 2)), (4, .int 8), (0, .ref (a 0)), (1, .int k), (2, .int w)]) rfl rfl hnL rfl rfl (v_iload h pX3_odds_1 3 rfl 1 rfl (v_iconst h pX3_odds_1 4 rfl ki_2 ?_)))))
        refine v_idiv h pX3_odds_1 5 rfl (by decide) ?_
        refine v_top (w := .int 4) (by decide) (v_istore h pX3_odds_1 6 (lv' := [(4, .int 4), (3, .int ((nI o) / 2)), (0, .ref (a 0)), (1, .int k), (2, .int w)]) rfl hnL rfl rfl (v_goto (tgt := 47) h pX3_odds_1 7 rfl rfl (v_iload h pX3_odds_0 24 rfl 0 rfl (v_iconst h pX3_odds_0 25 rfl ki_1 ?_))))
        refine v_ncmp_le (a := 4) (b := 1) (tgt := 72) h pX3_odds_0 26 rfl rfl (by decide) (by decide) (fun c10 => absurd c10 (by decide)) (fun c10 => ?_)
        refine v_iload_n h pX3_odds_0 27 rfl 1 rfl rfl (v_iconst h pX3_odds_0 28 rfl ki_2 (v_irem2 h pX3_odds_0 29 rfl (by decide) ?_))
        refine v_if_ne (tgt := 72) h pX3_odds_0 30 rfl rfl (fun c11 => ?_) (fun c11 => ?_)
        · skip
          refine v_iload_n h pX3_odds_1 8 rfl 4 rfl rfl ?_
          refine v_if_ne (tgt := 81) h pX3_odds_1 9 rfl rfl (fun c12 => ?_) (fun c12 => ?_)
          · skip
            refine v_iload h pX3_odds_1 13 rfl 0 rfl (v_i2l h pX3_odds_1 14 rfl (v_lstore h pX3_odds_1 15 (lv' := [(5, .long ((4 : Int32).toInt64)), (4, .int 4), (3, .int ((nI o) / 2)), (0, .ref (a 0)), (1, .int k), (2, .int w)]) rfl hnL rfl rfl (v_lconst (v := 1) h pX3_odds_1 16 rfl rfl (v_lstore h pX3_odds_1 17 (lv' := [(7, .long 1), (5, .long ((4 : Int32).toInt64)), (4, .int 4), (3, .int ((nI o) / 2)), (0, .ref (a 0)), (1, .int k), (2, .int w)]) rfl hnL rfl rfl (v_iconst h pX3_odds_1 18 rfl ki_0 ?_)))))
            refine v_istore h pX3_odds_1 19 (lv' := [(9, .int 0), (7, .long 1), (5, .long ((4 : Int32).toInt64)), (4, .int 4), (3, .int ((nI o) / 2)), (0, .ref (a 0)), (1, .int k), (2, .int w)]) rfl hnL rfl rfl ?_
            refine v_lv [5, 6, 7, 2, 1, 0] (lv' := [(0, .ref (a 0)), (1, .int k), (2, .int w), (5, .long ((4 : Int32).toInt64)), (7, .long 1), (9, .int 0)]) rfl ?_
            have L13 : ∀ (m i13 : Nat), i13 ≤ (ix k) → (ix k) + 1 ≤ i13 + m → V K (cW cI cS a (E, T, Kp, P, S, F)) 92 [(0, .ref (a 0)), (1, .int k), (2, .int w), (5, .long ((4 : Int32).toInt64)), (7, .long (pwL ((4 : Int32).toInt64) i13)), (9, .int (nI i13))] [] := by
              intro m
              induction m with
              | zero => exact fun i13 h1 h2 => absurd h2 (by omega)
              | succ m ih13 =>
                intro i13 hle13 hlt13
                refine v_iload h pX3_odds_1 20 rfl 5 rfl (v_iload_n h pX3_odds_1 21 rfl 1 rfl rfl (v_top (w := .int (nI (ix k))) (congrArg Value.int e_k) ?_))
                refine v_ncmp_ge (a := i13) (b := ix k) (tgt := 111) h pX3_odds_1 22 rfl rfl (by omega) (by omega) (fun c14 => ?_) (fun c14 => ?_)
                · skip
                  obtain rfl : (ix k) = i13 := by omega
                  refine v_lload h pX3_odds_1 29 rfl 4 rfl ?_
                  exact v_lret h pX3_odds_1 30 hR hret rfl ((E, T, Kp, P, S, F)) rfl ⟨vL (by first | (simp [c1, c2, (eq_true c4), c11, c12, c14]; done) | (rw [show (inB k 0 20 && inB w 0 1) = true by simp [c1, c2, (eq_true c4), c11, c12, c14]]; show _ = odS (n - popc (setN (hiddenS E) n)) (ix k) w; rw [ho]; have e := od_tab o (by omega) (ix k) (by omega); unfold odS; first | (rw [if_pos (by assumption), ← e.1]; simp [odC, c1, c2, (eq_true c4), c11, c12, c14]; done) | (rw [if_neg (by assumption), ← e.2]; simp [odC, c1, c2, (eq_true c4), c11, c12, c14]; done))), rfl, rfl, ⟨rfl, rfl⟩, rfl, (fR_of (by simp [c1, c2, (eq_true c4), c11, c12, c14, True]))⟩
                · skip
                  refine v_lload h pX3_odds_1 23 rfl 4 rfl (v_lload h pX3_odds_1 24 rfl 3 rfl (v_lmul h pX3_odds_1 25 rfl (v_lstore h pX3_odds_1 26 (lv' := [(7, .long ((pwL ((4 : Int32).toInt64) i13) * ((4 : Int32).toInt64))), (0, .ref (a 0)), (1, .int k), (2, .int w), (5, .long ((4 : Int32).toInt64)), (9, .int (nI i13))]) rfl hnL rfl rfl (v_iinc h pX3_odds_1 27 (v := nI (i13 + 1)) (lv' := [(9, .int (nI (i13 + 1))), (7, .long ((pwL ((4 : Int32).toInt64) i13) * ((4 : Int32).toInt64))), (0, .ref (a 0)), (1, .int k), (2, .int w), (5, .long ((4 : Int32).toInt64))]) rfl 5 rfl hnL rfl rfl (nI_1 i13) (v_goto (tgt := 92) h pX3_odds_1 28 rfl rfl ?_)))))
                  refine v_lv [2, 3, 4, 5, 1, 0] (lv' := [(0, .ref (a 0)), (1, .int k), (2, .int w), (5, .long ((4 : Int32).toInt64)), (7, .long ((pwL ((4 : Int32).toInt64) i13) * ((4 : Int32).toInt64))), (9, .int (nI (i13 + 1)))]) rfl ?_
                  exact ih13 (i13 + 1) (by omega) (by omega)
            exact L13 ((ix k) + 1) 0 (by omega) (by omega)
          · skip
            refine v_iload_n h pX3_odds_1 10 rfl 1 rfl rfl (v_i2l h pX3_odds_1 11 rfl (v_goto (tgt := 84) h pX3_odds_1 12 rfl rfl (v_lstore h pX3_odds_1 15 (lv' := [(5, .long (((nI o) / 2 : Int32).toInt64)), (4, .int 4), (3, .int ((nI o) / 2)), (0, .ref (a 0)), (1, .int k), (2, .int w)]) rfl hnL rfl rfl (v_lconst (v := 1) h pX3_odds_1 16 rfl rfl (v_lstore h pX3_odds_1 17 (lv' := [(7, .long 1), (5, .long (((nI o) / 2 : Int32).toInt64)), (4, .int 4), (3, .int ((nI o) / 2)), (0, .ref (a 0)), (1, .int k), (2, .int w)]) rfl hnL rfl rfl ?_)))))
            refine v_iconst h pX3_odds_1 18 rfl ki_0 (v_istore h pX3_odds_1 19 (lv' := [(9, .int 0), (7, .long 1), (5, .long (((nI o) / 2 : Int32).toInt64)), (4, .int 4), (3, .int ((nI o) / 2)), (0, .ref (a 0)), (1, .int k), (2, .int w)]) rfl hnL rfl rfl ?_)
            refine v_lv [5, 6, 7, 2, 1, 0] (lv' := [(0, .ref (a 0)), (1, .int k), (2, .int w), (5, .long (((nI o) / 2 : Int32).toInt64)), (7, .long 1), (9, .int 0)]) rfl ?_
            have L15 : ∀ (m i15 : Nat), i15 ≤ (ix k) → (ix k) + 1 ≤ i15 + m → V K (cW cI cS a (E, T, Kp, P, S, F)) 92 [(0, .ref (a 0)), (1, .int k), (2, .int w), (5, .long (((nI o) / 2 : Int32).toInt64)), (7, .long (pwL (((nI o) / 2 : Int32).toInt64) i15)), (9, .int (nI i15))] [] := by
              intro m
              induction m with
              | zero => exact fun i15 h1 h2 => absurd h2 (by omega)
              | succ m ih15 =>
                intro i15 hle15 hlt15
                refine v_iload h pX3_odds_1 20 rfl 5 rfl (v_iload_n h pX3_odds_1 21 rfl 1 rfl rfl (v_top (w := .int (nI (ix k))) (congrArg Value.int e_k) ?_))
                refine v_ncmp_ge (a := i15) (b := ix k) (tgt := 111) h pX3_odds_1 22 rfl rfl (by omega) (by omega) (fun c16 => ?_) (fun c16 => ?_)
                · skip
                  obtain rfl : (ix k) = i15 := by omega
                  refine v_lload h pX3_odds_1 29 rfl 4 rfl ?_
                  exact v_lret h pX3_odds_1 30 hR hret rfl ((E, T, Kp, P, S, F)) rfl ⟨vL (by first | (simp [c1, c2, (eq_true c4), c11, (eq_true c12), c16]; done) | (rw [show (inB k 0 20 && inB w 0 1) = true by simp [c1, c2, (eq_true c4), c11, (eq_true c12), c16]]; show _ = odS (n - popc (setN (hiddenS E) n)) (ix k) w; rw [ho]; have e := od_tab o (by omega) (ix k) (by omega); unfold odS; first | (rw [if_pos (by assumption), ← e.1]; simp [odC, c1, c2, (eq_true c4), c11, (eq_true c12), c16]; done) | (rw [if_neg (by assumption), ← e.2]; simp [odC, c1, c2, (eq_true c4), c11, (eq_true c12), c16]; done))), rfl, rfl, ⟨rfl, rfl⟩, rfl, (fR_of (by simp [c1, c2, (eq_true c4), c11, (eq_true c12), c16, True]))⟩
                · skip
                  refine v_lload h pX3_odds_1 23 rfl 4 rfl (v_lload h pX3_odds_1 24 rfl 3 rfl (v_lmul h pX3_odds_1 25 rfl (v_lstore h pX3_odds_1 26 (lv' := [(7, .long ((pwL (((nI o) / 2 : Int32).toInt64) i15) * (((nI o) / 2 : Int32).toInt64))), (0, .ref (a 0)), (1, .int k), (2, .int w), (5, .long (((nI o) / 2 : Int32).toInt64)), (9, .int (nI i15))]) rfl hnL rfl rfl (v_iinc h pX3_odds_1 27 (v := nI (i15 + 1)) (lv' := [(9, .int (nI (i15 + 1))), (7, .long ((pwL (((nI o) / 2 : Int32).toInt64) i15) * (((nI o) / 2 : Int32).toInt64))), (0, .ref (a 0)), (1, .int k), (2, .int w), (5, .long (((nI o) / 2 : Int32).toInt64))]) rfl 5 rfl hnL rfl rfl (nI_1 i15) (v_goto (tgt := 92) h pX3_odds_1 28 rfl rfl ?_)))))
                  refine v_lv [2, 3, 4, 5, 1, 0] (lv' := [(0, .ref (a 0)), (1, .int k), (2, .int w), (5, .long (((nI o) / 2 : Int32).toInt64)), (7, .long ((pwL (((nI o) / 2 : Int32).toInt64) i15) * (((nI o) / 2 : Int32).toInt64))), (9, .int (nI (i15 + 1)))]) rfl ?_
                  exact ih15 (i15 + 1) (by omega) (by omega)
            exact L15 ((ix k) + 1) 0 (by omega) (by omega)
        · skip
          refine v_iload_n h pX3_odds_0 31 rfl 1 rfl rfl (v_iconst h pX3_odds_1 0 rfl ki_2 (v_idiv h pX3_odds_1 1 rfl (by decide) (v_istore_n h pX3_odds_1 2 (lv' := [(3, .int (((nI o) / 2) / 2)), (4, .int 4), (0, .ref (a 0)), (1, .int k), (2, .int w)]) rfl rfl hnL rfl rfl (v_iload h pX3_odds_1 3 rfl 1 rfl (v_iconst h pX3_odds_1 4 rfl ki_2 ?_)))))
          refine v_idiv h pX3_odds_1 5 rfl (by decide) ?_
          refine v_top (w := .int 2) (by decide) (v_istore h pX3_odds_1 6 (lv' := [(4, .int 2), (3, .int (((nI o) / 2) / 2)), (0, .ref (a 0)), (1, .int k), (2, .int w)]) rfl hnL rfl rfl (v_goto (tgt := 47) h pX3_odds_1 7 rfl rfl (v_iload h pX3_odds_0 24 rfl 0 rfl (v_iconst h pX3_odds_0 25 rfl ki_1 ?_))))
          refine v_ncmp_le (a := 2) (b := 1) (tgt := 72) h pX3_odds_0 26 rfl rfl (by decide) (by decide) (fun c17 => absurd c17 (by decide)) (fun c17 => ?_)
          refine v_iload_n h pX3_odds_0 27 rfl 1 rfl rfl (v_iconst h pX3_odds_0 28 rfl ki_2 (v_irem2 h pX3_odds_0 29 rfl (by decide) ?_))
          refine v_if_ne (tgt := 72) h pX3_odds_0 30 rfl rfl (fun c18 => ?_) (fun c18 => ?_)
          · skip
            refine v_iload_n h pX3_odds_1 8 rfl 4 rfl rfl ?_
            refine v_if_ne (tgt := 81) h pX3_odds_1 9 rfl rfl (fun c19 => ?_) (fun c19 => ?_)
            · skip
              refine v_iload h pX3_odds_1 13 rfl 0 rfl (v_i2l h pX3_odds_1 14 rfl (v_lstore h pX3_odds_1 15 (lv' := [(5, .long ((2 : Int32).toInt64)), (4, .int 2), (3, .int (((nI o) / 2) / 2)), (0, .ref (a 0)), (1, .int k), (2, .int w)]) rfl hnL rfl rfl (v_lconst (v := 1) h pX3_odds_1 16 rfl rfl (v_lstore h pX3_odds_1 17 (lv' := [(7, .long 1), (5, .long ((2 : Int32).toInt64)), (4, .int 2), (3, .int (((nI o) / 2) / 2)), (0, .ref (a 0)), (1, .int k), (2, .int w)]) rfl hnL rfl rfl (v_iconst h pX3_odds_1 18 rfl ki_0 ?_)))))
              refine v_istore h pX3_odds_1 19 (lv' := [(9, .int 0), (7, .long 1), (5, .long ((2 : Int32).toInt64)), (4, .int 2), (3, .int (((nI o) / 2) / 2)), (0, .ref (a 0)), (1, .int k), (2, .int w)]) rfl hnL rfl rfl ?_
              refine v_lv [5, 6, 7, 2, 1, 0] (lv' := [(0, .ref (a 0)), (1, .int k), (2, .int w), (5, .long ((2 : Int32).toInt64)), (7, .long 1), (9, .int 0)]) rfl ?_
              have L20 : ∀ (m i20 : Nat), i20 ≤ (ix k) → (ix k) + 1 ≤ i20 + m → V K (cW cI cS a (E, T, Kp, P, S, F)) 92 [(0, .ref (a 0)), (1, .int k), (2, .int w), (5, .long ((2 : Int32).toInt64)), (7, .long (pwL ((2 : Int32).toInt64) i20)), (9, .int (nI i20))] [] := by
                intro m
                induction m with
                | zero => exact fun i20 h1 h2 => absurd h2 (by omega)
                | succ m ih20 =>
                  intro i20 hle20 hlt20
                  refine v_iload h pX3_odds_1 20 rfl 5 rfl (v_iload_n h pX3_odds_1 21 rfl 1 rfl rfl (v_top (w := .int (nI (ix k))) (congrArg Value.int e_k) ?_))
                  refine v_ncmp_ge (a := i20) (b := ix k) (tgt := 111) h pX3_odds_1 22 rfl rfl (by omega) (by omega) (fun c21 => ?_) (fun c21 => ?_)
                  · skip
                    obtain rfl : (ix k) = i20 := by omega
                    refine v_lload h pX3_odds_1 29 rfl 4 rfl ?_
                    exact v_lret h pX3_odds_1 30 hR hret rfl ((E, T, Kp, P, S, F)) rfl ⟨vL (by first | (simp [c1, c2, (eq_true c4), (eq_true c11), c18, c19, c21]; done) | (rw [show (inB k 0 20 && inB w 0 1) = true by simp [c1, c2, (eq_true c4), (eq_true c11), c18, c19, c21]]; show _ = odS (n - popc (setN (hiddenS E) n)) (ix k) w; rw [ho]; have e := od_tab o (by omega) (ix k) (by omega); unfold odS; first | (rw [if_pos (by assumption), ← e.1]; simp [odC, c1, c2, (eq_true c4), (eq_true c11), c18, c19, c21]; done) | (rw [if_neg (by assumption), ← e.2]; simp [odC, c1, c2, (eq_true c4), (eq_true c11), c18, c19, c21]; done))), rfl, rfl, ⟨rfl, rfl⟩, rfl, (fR_of (by simp [c1, c2, (eq_true c4), (eq_true c11), c18, c19, c21, True]))⟩
                  · skip
                    refine v_lload h pX3_odds_1 23 rfl 4 rfl (v_lload h pX3_odds_1 24 rfl 3 rfl (v_lmul h pX3_odds_1 25 rfl (v_lstore h pX3_odds_1 26 (lv' := [(7, .long ((pwL ((2 : Int32).toInt64) i20) * ((2 : Int32).toInt64))), (0, .ref (a 0)), (1, .int k), (2, .int w), (5, .long ((2 : Int32).toInt64)), (9, .int (nI i20))]) rfl hnL rfl rfl (v_iinc h pX3_odds_1 27 (v := nI (i20 + 1)) (lv' := [(9, .int (nI (i20 + 1))), (7, .long ((pwL ((2 : Int32).toInt64) i20) * ((2 : Int32).toInt64))), (0, .ref (a 0)), (1, .int k), (2, .int w), (5, .long ((2 : Int32).toInt64))]) rfl 5 rfl hnL rfl rfl (nI_1 i20) (v_goto (tgt := 92) h pX3_odds_1 28 rfl rfl ?_)))))
                    refine v_lv [2, 3, 4, 5, 1, 0] (lv' := [(0, .ref (a 0)), (1, .int k), (2, .int w), (5, .long ((2 : Int32).toInt64)), (7, .long ((pwL ((2 : Int32).toInt64) i20) * ((2 : Int32).toInt64))), (9, .int (nI (i20 + 1)))]) rfl ?_
                    exact ih20 (i20 + 1) (by omega) (by omega)
              exact L20 ((ix k) + 1) 0 (by omega) (by omega)
            · skip
              refine v_iload_n h pX3_odds_1 10 rfl 1 rfl rfl (v_i2l h pX3_odds_1 11 rfl (v_goto (tgt := 84) h pX3_odds_1 12 rfl rfl (v_lstore h pX3_odds_1 15 (lv' := [(5, .long ((((nI o) / 2) / 2 : Int32).toInt64)), (4, .int 2), (3, .int (((nI o) / 2) / 2)), (0, .ref (a 0)), (1, .int k), (2, .int w)]) rfl hnL rfl rfl (v_lconst (v := 1) h pX3_odds_1 16 rfl rfl (v_lstore h pX3_odds_1 17 (lv' := [(7, .long 1), (5, .long ((((nI o) / 2) / 2 : Int32).toInt64)), (4, .int 2), (3, .int (((nI o) / 2) / 2)), (0, .ref (a 0)), (1, .int k), (2, .int w)]) rfl hnL rfl rfl ?_)))))
              refine v_iconst h pX3_odds_1 18 rfl ki_0 (v_istore h pX3_odds_1 19 (lv' := [(9, .int 0), (7, .long 1), (5, .long ((((nI o) / 2) / 2 : Int32).toInt64)), (4, .int 2), (3, .int (((nI o) / 2) / 2)), (0, .ref (a 0)), (1, .int k), (2, .int w)]) rfl hnL rfl rfl ?_)
              refine v_lv [5, 6, 7, 2, 1, 0] (lv' := [(0, .ref (a 0)), (1, .int k), (2, .int w), (5, .long ((((nI o) / 2) / 2 : Int32).toInt64)), (7, .long 1), (9, .int 0)]) rfl ?_
              have L22 : ∀ (m i22 : Nat), i22 ≤ (ix k) → (ix k) + 1 ≤ i22 + m → V K (cW cI cS a (E, T, Kp, P, S, F)) 92 [(0, .ref (a 0)), (1, .int k), (2, .int w), (5, .long ((((nI o) / 2) / 2 : Int32).toInt64)), (7, .long (pwL ((((nI o) / 2) / 2 : Int32).toInt64) i22)), (9, .int (nI i22))] [] := by
                intro m
                induction m with
                | zero => exact fun i22 h1 h2 => absurd h2 (by omega)
                | succ m ih22 =>
                  intro i22 hle22 hlt22
                  refine v_iload h pX3_odds_1 20 rfl 5 rfl (v_iload_n h pX3_odds_1 21 rfl 1 rfl rfl (v_top (w := .int (nI (ix k))) (congrArg Value.int e_k) ?_))
                  refine v_ncmp_ge (a := i22) (b := ix k) (tgt := 111) h pX3_odds_1 22 rfl rfl (by omega) (by omega) (fun c23 => ?_) (fun c23 => ?_)
                  · skip
                    obtain rfl : (ix k) = i22 := by omega
                    refine v_lload h pX3_odds_1 29 rfl 4 rfl ?_
                    exact v_lret h pX3_odds_1 30 hR hret rfl ((E, T, Kp, P, S, F)) rfl ⟨vL (by first | (simp [c1, c2, (eq_true c4), (eq_true c11), c18, (eq_true c19), c23]; done) | (rw [show (inB k 0 20 && inB w 0 1) = true by simp [c1, c2, (eq_true c4), (eq_true c11), c18, (eq_true c19), c23]]; show _ = odS (n - popc (setN (hiddenS E) n)) (ix k) w; rw [ho]; have e := od_tab o (by omega) (ix k) (by omega); unfold odS; first | (rw [if_pos (by assumption), ← e.1]; simp [odC, c1, c2, (eq_true c4), (eq_true c11), c18, (eq_true c19), c23]; done) | (rw [if_neg (by assumption), ← e.2]; simp [odC, c1, c2, (eq_true c4), (eq_true c11), c18, (eq_true c19), c23]; done))), rfl, rfl, ⟨rfl, rfl⟩, rfl, (fR_of (by simp [c1, c2, (eq_true c4), (eq_true c11), c18, (eq_true c19), c23, True]))⟩
                  · skip
                    refine v_lload h pX3_odds_1 23 rfl 4 rfl (v_lload h pX3_odds_1 24 rfl 3 rfl (v_lmul h pX3_odds_1 25 rfl (v_lstore h pX3_odds_1 26 (lv' := [(7, .long ((pwL ((((nI o) / 2) / 2 : Int32).toInt64) i22) * ((((nI o) / 2) / 2 : Int32).toInt64))), (0, .ref (a 0)), (1, .int k), (2, .int w), (5, .long ((((nI o) / 2) / 2 : Int32).toInt64)), (9, .int (nI i22))]) rfl hnL rfl rfl (v_iinc h pX3_odds_1 27 (v := nI (i22 + 1)) (lv' := [(9, .int (nI (i22 + 1))), (7, .long ((pwL ((((nI o) / 2) / 2 : Int32).toInt64) i22) * ((((nI o) / 2) / 2 : Int32).toInt64))), (0, .ref (a 0)), (1, .int k), (2, .int w), (5, .long ((((nI o) / 2) / 2 : Int32).toInt64))]) rfl 5 rfl hnL rfl rfl (nI_1 i22) (v_goto (tgt := 92) h pX3_odds_1 28 rfl rfl ?_)))))
                    refine v_lv [2, 3, 4, 5, 1, 0] (lv' := [(0, .ref (a 0)), (1, .int k), (2, .int w), (5, .long ((((nI o) / 2) / 2 : Int32).toInt64)), (7, .long ((pwL ((((nI o) / 2) / 2 : Int32).toInt64) i22) * ((((nI o) / 2) / 2 : Int32).toInt64))), (9, .int (nI (i22 + 1)))]) rfl ?_
                    exact ih22 (i22 + 1) (by omega) (by omega)
              exact L22 ((ix k) + 1) 0 (by omega) (by omega)
          · skip
            refine v_iload_n h pX3_odds_0 31 rfl 1 rfl rfl (v_iconst h pX3_odds_1 0 rfl ki_2 (v_idiv h pX3_odds_1 1 rfl (by decide) (v_istore_n h pX3_odds_1 2 (lv' := [(3, .int ((((nI o) / 2) / 2) / 2)), (4, .int 2), (0, .ref (a 0)), (1, .int k), (2, .int w)]) rfl rfl hnL rfl rfl (v_iload h pX3_odds_1 3 rfl 1 rfl (v_iconst h pX3_odds_1 4 rfl ki_2 ?_)))))
            refine v_idiv h pX3_odds_1 5 rfl (by decide) ?_
            refine v_top (w := .int 1) (by decide) (v_istore h pX3_odds_1 6 (lv' := [(4, .int 1), (3, .int ((((nI o) / 2) / 2) / 2)), (0, .ref (a 0)), (1, .int k), (2, .int w)]) rfl hnL rfl rfl (v_goto (tgt := 47) h pX3_odds_1 7 rfl rfl (v_iload h pX3_odds_0 24 rfl 0 rfl (v_iconst h pX3_odds_0 25 rfl ki_1 ?_))))
            refine v_ncmp_le (a := 1) (b := 1) (tgt := 72) h pX3_odds_0 26 rfl rfl (by decide) (by decide) (fun c24 => ?_) (fun c24 => absurd c24 (by decide))
            refine v_iload_n h pX3_odds_1 8 rfl 4 rfl rfl ?_
            refine v_if_ne (tgt := 81) h pX3_odds_1 9 rfl rfl (fun c25 => ?_) (fun c25 => ?_)
            · skip
              refine v_iload h pX3_odds_1 13 rfl 0 rfl (v_i2l h pX3_odds_1 14 rfl (v_lstore h pX3_odds_1 15 (lv' := [(5, .long ((1 : Int32).toInt64)), (4, .int 1), (3, .int ((((nI o) / 2) / 2) / 2)), (0, .ref (a 0)), (1, .int k), (2, .int w)]) rfl hnL rfl rfl (v_lconst (v := 1) h pX3_odds_1 16 rfl rfl (v_lstore h pX3_odds_1 17 (lv' := [(7, .long 1), (5, .long ((1 : Int32).toInt64)), (4, .int 1), (3, .int ((((nI o) / 2) / 2) / 2)), (0, .ref (a 0)), (1, .int k), (2, .int w)]) rfl hnL rfl rfl (v_iconst h pX3_odds_1 18 rfl ki_0 ?_)))))
              refine v_istore h pX3_odds_1 19 (lv' := [(9, .int 0), (7, .long 1), (5, .long ((1 : Int32).toInt64)), (4, .int 1), (3, .int ((((nI o) / 2) / 2) / 2)), (0, .ref (a 0)), (1, .int k), (2, .int w)]) rfl hnL rfl rfl ?_
              refine v_lv [5, 6, 7, 2, 1, 0] (lv' := [(0, .ref (a 0)), (1, .int k), (2, .int w), (5, .long ((1 : Int32).toInt64)), (7, .long 1), (9, .int 0)]) rfl ?_
              have L26 : ∀ (m i26 : Nat), i26 ≤ (ix k) → (ix k) + 1 ≤ i26 + m → V K (cW cI cS a (E, T, Kp, P, S, F)) 92 [(0, .ref (a 0)), (1, .int k), (2, .int w), (5, .long ((1 : Int32).toInt64)), (7, .long (pwL ((1 : Int32).toInt64) i26)), (9, .int (nI i26))] [] := by
                intro m
                induction m with
                | zero => exact fun i26 h1 h2 => absurd h2 (by omega)
                | succ m ih26 =>
                  intro i26 hle26 hlt26
                  refine v_iload h pX3_odds_1 20 rfl 5 rfl (v_iload_n h pX3_odds_1 21 rfl 1 rfl rfl (v_top (w := .int (nI (ix k))) (congrArg Value.int e_k) ?_))
                  refine v_ncmp_ge (a := i26) (b := ix k) (tgt := 111) h pX3_odds_1 22 rfl rfl (by omega) (by omega) (fun c27 => ?_) (fun c27 => ?_)
                  · skip
                    obtain rfl : (ix k) = i26 := by omega
                    refine v_lload h pX3_odds_1 29 rfl 4 rfl ?_
                    exact v_lret h pX3_odds_1 30 hR hret rfl ((E, T, Kp, P, S, F)) rfl ⟨vL (by first | (simp [c1, c2, (eq_true c4), (eq_true c11), (eq_true c18), c25, c27]; done) | (rw [show (inB k 0 20 && inB w 0 1) = true by simp [c1, c2, (eq_true c4), (eq_true c11), (eq_true c18), c25, c27]]; show _ = odS (n - popc (setN (hiddenS E) n)) (ix k) w; rw [ho]; have e := od_tab o (by omega) (ix k) (by omega); unfold odS; first | (rw [if_pos (by assumption), ← e.1]; simp [odC, c1, c2, (eq_true c4), (eq_true c11), (eq_true c18), c25, c27]; done) | (rw [if_neg (by assumption), ← e.2]; simp [odC, c1, c2, (eq_true c4), (eq_true c11), (eq_true c18), c25, c27]; done))), rfl, rfl, ⟨rfl, rfl⟩, rfl, (fR_of (by simp [c1, c2, (eq_true c4), (eq_true c11), (eq_true c18), c25, c27, True]))⟩
                  · skip
                    refine v_lload h pX3_odds_1 23 rfl 4 rfl (v_lload h pX3_odds_1 24 rfl 3 rfl (v_lmul h pX3_odds_1 25 rfl (v_lstore h pX3_odds_1 26 (lv' := [(7, .long ((pwL ((1 : Int32).toInt64) i26) * ((1 : Int32).toInt64))), (0, .ref (a 0)), (1, .int k), (2, .int w), (5, .long ((1 : Int32).toInt64)), (9, .int (nI i26))]) rfl hnL rfl rfl (v_iinc h pX3_odds_1 27 (v := nI (i26 + 1)) (lv' := [(9, .int (nI (i26 + 1))), (7, .long ((pwL ((1 : Int32).toInt64) i26) * ((1 : Int32).toInt64))), (0, .ref (a 0)), (1, .int k), (2, .int w), (5, .long ((1 : Int32).toInt64))]) rfl 5 rfl hnL rfl rfl (nI_1 i26) (v_goto (tgt := 92) h pX3_odds_1 28 rfl rfl ?_)))))
                    refine v_lv [2, 3, 4, 5, 1, 0] (lv' := [(0, .ref (a 0)), (1, .int k), (2, .int w), (5, .long ((1 : Int32).toInt64)), (7, .long ((pwL ((1 : Int32).toInt64) i26) * ((1 : Int32).toInt64))), (9, .int (nI (i26 + 1)))]) rfl ?_
                    exact ih26 (i26 + 1) (by omega) (by omega)
              exact L26 ((ix k) + 1) 0 (by omega) (by omega)
            · skip
              refine v_iload_n h pX3_odds_1 10 rfl 1 rfl rfl (v_i2l h pX3_odds_1 11 rfl (v_goto (tgt := 84) h pX3_odds_1 12 rfl rfl (v_lstore h pX3_odds_1 15 (lv' := [(5, .long (((((nI o) / 2) / 2) / 2 : Int32).toInt64)), (4, .int 1), (3, .int ((((nI o) / 2) / 2) / 2)), (0, .ref (a 0)), (1, .int k), (2, .int w)]) rfl hnL rfl rfl (v_lconst (v := 1) h pX3_odds_1 16 rfl rfl (v_lstore h pX3_odds_1 17 (lv' := [(7, .long 1), (5, .long (((((nI o) / 2) / 2) / 2 : Int32).toInt64)), (4, .int 1), (3, .int ((((nI o) / 2) / 2) / 2)), (0, .ref (a 0)), (1, .int k), (2, .int w)]) rfl hnL rfl rfl ?_)))))
              refine v_iconst h pX3_odds_1 18 rfl ki_0 (v_istore h pX3_odds_1 19 (lv' := [(9, .int 0), (7, .long 1), (5, .long (((((nI o) / 2) / 2) / 2 : Int32).toInt64)), (4, .int 1), (3, .int ((((nI o) / 2) / 2) / 2)), (0, .ref (a 0)), (1, .int k), (2, .int w)]) rfl hnL rfl rfl ?_)
              refine v_lv [5, 6, 7, 2, 1, 0] (lv' := [(0, .ref (a 0)), (1, .int k), (2, .int w), (5, .long (((((nI o) / 2) / 2) / 2 : Int32).toInt64)), (7, .long 1), (9, .int 0)]) rfl ?_
              have L28 : ∀ (m i28 : Nat), i28 ≤ (ix k) → (ix k) + 1 ≤ i28 + m → V K (cW cI cS a (E, T, Kp, P, S, F)) 92 [(0, .ref (a 0)), (1, .int k), (2, .int w), (5, .long (((((nI o) / 2) / 2) / 2 : Int32).toInt64)), (7, .long (pwL (((((nI o) / 2) / 2) / 2 : Int32).toInt64) i28)), (9, .int (nI i28))] [] := by
                intro m
                induction m with
                | zero => exact fun i28 h1 h2 => absurd h2 (by omega)
                | succ m ih28 =>
                  intro i28 hle28 hlt28
                  refine v_iload h pX3_odds_1 20 rfl 5 rfl (v_iload_n h pX3_odds_1 21 rfl 1 rfl rfl (v_top (w := .int (nI (ix k))) (congrArg Value.int e_k) ?_))
                  refine v_ncmp_ge (a := i28) (b := ix k) (tgt := 111) h pX3_odds_1 22 rfl rfl (by omega) (by omega) (fun c29 => ?_) (fun c29 => ?_)
                  · skip
                    obtain rfl : (ix k) = i28 := by omega
                    refine v_lload h pX3_odds_1 29 rfl 4 rfl ?_
                    exact v_lret h pX3_odds_1 30 hR hret rfl ((E, T, Kp, P, S, F)) rfl ⟨vL (by first | (simp [c1, c2, (eq_true c4), (eq_true c11), (eq_true c18), (eq_true c25), c29]; done) | (rw [show (inB k 0 20 && inB w 0 1) = true by simp [c1, c2, (eq_true c4), (eq_true c11), (eq_true c18), (eq_true c25), c29]]; show _ = odS (n - popc (setN (hiddenS E) n)) (ix k) w; rw [ho]; have e := od_tab o (by omega) (ix k) (by omega); unfold odS; first | (rw [if_pos (by assumption), ← e.1]; simp [odC, c1, c2, (eq_true c4), (eq_true c11), (eq_true c18), (eq_true c25), c29]; done) | (rw [if_neg (by assumption), ← e.2]; simp [odC, c1, c2, (eq_true c4), (eq_true c11), (eq_true c18), (eq_true c25), c29]; done))), rfl, rfl, ⟨rfl, rfl⟩, rfl, (fR_of (by simp [c1, c2, (eq_true c4), (eq_true c11), (eq_true c18), (eq_true c25), c29, True]))⟩
                  · skip
                    refine v_lload h pX3_odds_1 23 rfl 4 rfl (v_lload h pX3_odds_1 24 rfl 3 rfl (v_lmul h pX3_odds_1 25 rfl (v_lstore h pX3_odds_1 26 (lv' := [(7, .long ((pwL (((((nI o) / 2) / 2) / 2 : Int32).toInt64) i28) * (((((nI o) / 2) / 2) / 2 : Int32).toInt64))), (0, .ref (a 0)), (1, .int k), (2, .int w), (5, .long (((((nI o) / 2) / 2) / 2 : Int32).toInt64)), (9, .int (nI i28))]) rfl hnL rfl rfl (v_iinc h pX3_odds_1 27 (v := nI (i28 + 1)) (lv' := [(9, .int (nI (i28 + 1))), (7, .long ((pwL (((((nI o) / 2) / 2) / 2 : Int32).toInt64) i28) * (((((nI o) / 2) / 2) / 2 : Int32).toInt64))), (0, .ref (a 0)), (1, .int k), (2, .int w), (5, .long (((((nI o) / 2) / 2) / 2 : Int32).toInt64))]) rfl 5 rfl hnL rfl rfl (nI_1 i28) (v_goto (tgt := 92) h pX3_odds_1 28 rfl rfl ?_)))))
                    refine v_lv [2, 3, 4, 5, 1, 0] (lv' := [(0, .ref (a 0)), (1, .int k), (2, .int w), (5, .long (((((nI o) / 2) / 2) / 2 : Int32).toInt64)), (7, .long ((pwL (((((nI o) / 2) / 2) / 2 : Int32).toInt64) i28) * (((((nI o) / 2) / 2) / 2 : Int32).toInt64))), (9, .int (nI (i28 + 1)))]) rfl ?_
                    exact ih28 (i28 + 1) (by omega) (by omega)
              exact L28 ((ix k) + 1) 0 (by omega) (by omega)
    · skip
      refine v_aload_n h pX3_odds_0 8 rfl 0 rfl rfl (v_iconst h pX3_odds_0 9 rfl ki_0 ?_)
      refine v_callV h pX3_odds_0 10 mX3_55 (As := [.int 0]) (st := []) (kX3_finding _ _ cI cS a E T Kp P F S 0 (by decide)) v0B v0C (vEmb_rf _ _) 0 rfl rfl rfl rfl rfl rfl rfl (vDet_k ?_)
      show V K (cW cI cS a (E, T, Kp, P, S, fndC F 0)) 22 [(0, .ref (a 0)), (1, .int k), (2, .int w)] [.int ((-1000001) - (nI 0))]
      refine v_top (w := .int (-1000001)) (by decide) (v_i2l h pX3_odds_0 11 rfl ?_)
      exact v_lret h pX3_odds_0 12 hR hret rfl ((E, T, Kp, P, S, fndC F 0)) rfl ⟨vL (by first | (simp [c1, c2]; done) | (rw [show (inB k 0 20 && inB w 0 1) = true by simp [c1, c2]]; show _ = odS (n - popc (setN (hiddenS E) n)) (ix k) w; rw [ho]; have e := od_tab o (by omega) (ix k) (by omega); unfold odS; first | (rw [if_pos (by assumption), ← e.1]; simp [odC, c1, c2]; done) | (rw [if_neg (by assumption), ← e.2]; simp [odC, c1, c2]; done))), rfl, rfl, ⟨rfl, rfl⟩, rfl, (fR_of (by simp [c1, c2, True]))⟩
