set_option maxHeartbeats 300000 in
set_option maxRecDepth 100000 in
theorem kX3_sheet (l : Launch) (D : va_G) (cI cS : ClassId) (a : Nat → Nat) (E T Kp P F : Nat → Nat → Int32) (S : Nat → Nat → Nat → Int32) (n : Nat) (hW : Wf E n) (hZ : E 9 4 = 0) (hS : WfS S) (t bits sz : Int32) : vMet l D (vT cI cS) yX3_sheet cX3_sheet 5 (some .int) 2 41 (cW cI cS a) v0 [.ref (a 0), .int t, .int bits, .int sz] (E, T, Kp, P, S, F) (cPost (some (.int (cond (inB t 0 3 && bitB bits) (if sz < 0 then (-1000007) else if 40 < sz then (-1000001) else if bits = 0 then 0 else sz) ((-1000001))))) (E) (Kp) (P) (cond (inB t 0 3 && bitB bits) (if sz < 0 then S else if 40 < sz then S else st S (ix t) (becR (S (ix t)) bits sz)) (S)) (cond (inB t 0 3 && bitB bits) (if sz < 0 then fndC F 6 else if 40 < sz then fndC F 0 else F) (fndC F 0))) := by
  refine vMet_of (by decide) rfl ?_
  intro K hl hD hnL hret h hR hEx
  subst hl hD
  show V K (cW cI cS a (E, T, Kp, P, S, F)) 0 [(0, .ref (a 0)), (1, .int t), (2, .int bits), (3, .int sz)] []
  have hn8 := hW.1
  refine v_iload_n h pX3_sheet_0 0 rfl 2 rfl rfl ?_
  refine v_if_eq (tgt := 22) h pX3_sheet_0 1 rfl rfl (fun c1 => ?_) (fun c1 => ?_)
  · skip
    refine v_iconst h pX3_sheet_0 11 rfl ki_1 (v_goto (tgt := 27) h pX3_sheet_0 12 rfl rfl (v_istore h pX3_sheet_0 14 (lv' := [(4, .int 1), (0, .ref (a 0)), (1, .int t), (2, .int bits), (3, .int sz)]) rfl hnL rfl rfl (v_iload_n h pX3_sheet_0 15 rfl 2 rfl rfl ?_)))
    refine v_callS h pX3_sheet_0 16 mX3_198 (As := [.int t]) (st := []) (kX3_isSheet _ _ cI cS t) v0B v0C (vEmb_u _) rfl rfl rfl rfl rfl (vDet_k ?_)
    show V K (cW cI cS a (E, T, Kp, P, S, F)) 33 [(4, .int 1), (0, .ref (a 0)), (1, .int t), (2, .int bits), (3, .int sz)] [.int (bI (inB t 0 3))]
    refine v_bif_eq (tgt := 41) h pX3_sheet_0 17 rfl rfl (fun c2 => ?_) (fun c2 => ?_)
    · skip
      refine v_aload_n h pX3_sheet_0 20 rfl 1 rfl rfl (v_iconst h pX3_sheet_0 21 rfl ki_0 ?_)
      refine v_callV h pX3_sheet_0 22 mX3_55 (As := [.int 0]) (st := []) (kX3_finding _ _ cI cS a E T Kp P F S 0 (by decide)) v0B v0C (vEmb_rf _ _) 0 rfl rfl rfl rfl rfl rfl rfl (vDet_k ?_)
      show V K (cW cI cS a (E, T, Kp, P, S, fndC F 0)) 46 [(4, .int 1), (0, .ref (a 0)), (1, .int t), (2, .int bits), (3, .int sz)] [.int ((-1000001) - (nI 0))]
      refine v_top (w := .int (-1000001)) (by decide) ?_
      exact v_iret h pX3_sheet_0 23 hR hret rfl ((E, T, Kp, P, S, fndC F 0)) rfl ⟨vI (by first | (simp [bitB, (eq_true c1), c2, -Int32.not_lt]; done) | (rw [st_s, bec_11]; simp [bitB, (eq_true c1), c2, -Int32.not_lt])), rfl, rfl, ⟨rfl, rfl⟩, (by simp [bitB, (eq_true c1), c2, -Int32.not_lt]), (fR_of (by simp [bitB, (eq_true c1), c2, -Int32.not_lt]))⟩
    · skip
      obtain ⟨e_t, l_t⟩ := inB_t 3 rfl (by decide) c2
      refine v_iload h pX3_sheet_0 18 rfl 0 rfl ?_
      refine v_if_ne (tgt := 47) h pX3_sheet_0 19 rfl rfl (fun c3 => ?_) (fun c3 => absurd c3 (by decide))
      refine v_iload_n h pX3_sheet_0 24 rfl 4 rfl rfl ?_
      refine v_if_ge2 (tgt := 58) h pX3_sheet_0 25 rfl rfl (fun c4 => ?_) (fun c4 => ?_)
      · skip
        refine v_iload_n h pX3_sheet_0 30 rfl 4 rfl rfl (v_bipush h pX3_sheet_0 31 rfl kb_40 ?_)
        refine v_icmp_le2 (tgt := 70) h pX3_sheet_1 0 rfl rfl (fun c5 => ?_) (fun c5 => ?_)
        · skip
          refine v_aload_n h pX3_sheet_1 5 rfl 1 rfl rfl (v_get h pX3_sheet_1 6 fX3_35 0 rfl rfl rfl (v_iload_n h pX3_sheet_1 7 rfl 2 rfl rfl (v_top (w := .int (nI (ix t))) (congrArg Value.int e_t) (v_aald h pX3_sheet_1 8 (ix t) 36 1 rfl rfl rfl rfl rfl (by omega) rfl (v_iload_n h pX3_sheet_1 9 rfl 3 rfl rfl ?_)))))
          refine v_iload_n h pX3_sheet_1 10 rfl 4 rfl rfl ?_
          refine v_callV h pX3_sheet_1 11 mX3_230 (As := [.int bits, .int sz]) (st := []) (kX1_become _ _ cI cS (sh a (37 + 2 * (ix t))) (S (ix t)) bits sz) v0B v0C (emb_S (by omega)) (37 + 2 * (ix t)) rfl (cW_sh (by omega)) rfl rfl rfl rfl rfl (vDet_k ?_)
          show V K (cW cI cS a (E, T, Kp, P, st S (ix t) (becR (S (ix t)) bits sz), F)) 81 [(4, .int 1), (0, .ref (a 0)), (1, .int t), (2, .int bits), (3, .int sz)] []
          refine v_aload_n h pX3_sheet_1 12 rfl 1 rfl rfl (v_get h pX3_sheet_1 13 fX3_35 0 rfl rfl rfl (v_iload_n h pX3_sheet_1 14 rfl 2 rfl rfl (v_top (w := .int (nI (ix t))) (congrArg Value.int e_t) (v_aald h pX3_sheet_1 15 (ix t) 36 1 rfl rfl rfl rfl rfl (by omega) rfl (v_get h pX3_sheet_1 16 fX3_204 (37 + 2 * (ix t)) rfl (cW_sh (by omega)) rfl ?_)))))
          exact v_iret h pX3_sheet_1 17 hR hret rfl ((E, T, Kp, P, st S (ix t) (becR (S (ix t)) bits sz), F)) rfl ⟨vI (by first | (simp [bitB, (eq_true c1), c2, c4, c5, -Int32.not_lt]; done) | (rw [st_s, bec_11]; simp [bitB, (eq_true c1), c2, c4, c5, -Int32.not_lt])), rfl, rfl, ⟨rfl, rfl⟩, (by simp [bitB, (eq_true c1), c2, c4, c5, -Int32.not_lt]), (fR_of (by simp [bitB, (eq_true c1), c2, c4, c5, -Int32.not_lt]))⟩
        · skip
          refine v_aload_n h pX3_sheet_1 1 rfl 1 rfl rfl (v_iconst h pX3_sheet_1 2 rfl ki_0 ?_)
          refine v_callV h pX3_sheet_1 3 mX3_55 (As := [.int 0]) (st := []) (kX3_finding _ _ cI cS a E T Kp P F S 0 (by decide)) v0B v0C (vEmb_rf _ _) 0 rfl rfl rfl rfl rfl rfl rfl (vDet_k ?_)
          show V K (cW cI cS a (E, T, Kp, P, S, fndC F 0)) 69 [(4, .int 1), (0, .ref (a 0)), (1, .int t), (2, .int bits), (3, .int sz)] [.int ((-1000001) - (nI 0))]
          refine v_top (w := .int (-1000001)) (by decide) ?_
          exact v_iret h pX3_sheet_1 4 hR hret rfl ((E, T, Kp, P, S, fndC F 0)) rfl ⟨vI (by first | (simp [bitB, (eq_true c1), c2, c4, c5, -Int32.not_lt]; done) | (rw [st_s, bec_11]; simp [bitB, (eq_true c1), c2, c4, c5, -Int32.not_lt])), rfl, rfl, ⟨rfl, rfl⟩, (by simp [bitB, (eq_true c1), c2, c4, c5, -Int32.not_lt]), (fR_of (by simp [bitB, (eq_true c1), c2, c4, c5, -Int32.not_lt]))⟩
      · skip
        refine v_aload_n h pX3_sheet_0 26 rfl 1 rfl rfl (v_bipush h pX3_sheet_0 27 rfl kb_6 ?_)
        refine v_callV h pX3_sheet_0 28 mX3_55 (As := [.int 6]) (st := []) (kX3_finding _ _ cI cS a E T Kp P F S 6 (by decide)) v0B v0C (vEmb_rf _ _) 0 rfl rfl rfl rfl rfl rfl rfl (vDet_k ?_)
        show V K (cW cI cS a (E, T, Kp, P, S, fndC F 6)) 57 [(4, .int 1), (0, .ref (a 0)), (1, .int t), (2, .int bits), (3, .int sz)] [.int ((-1000001) - (nI 6))]
        refine v_top (w := .int (-1000007)) (by decide) ?_
        exact v_iret h pX3_sheet_0 29 hR hret rfl ((E, T, Kp, P, S, fndC F 6)) rfl ⟨vI (by first | (simp [bitB, (eq_true c1), c2, c4, -Int32.not_lt]; done) | (rw [st_s, bec_11]; simp [bitB, (eq_true c1), c2, c4, -Int32.not_lt])), rfl, rfl, ⟨rfl, rfl⟩, (by simp [bitB, (eq_true c1), c2, c4, -Int32.not_lt]), (fR_of (by simp [bitB, (eq_true c1), c2, c4, -Int32.not_lt]))⟩
  · skip
    refine v_iload_n h pX3_sheet_0 2 rfl 2 rfl rfl (v_bipush h pX3_sheet_0 3 rfl kb_8 ?_)
    refine v_icmp_eq (tgt := 22) h pX3_sheet_0 4 rfl rfl (fun c6 => ?_) (fun c6 => ?_)
    · skip
      refine v_iconst h pX3_sheet_0 11 rfl ki_1 (v_goto (tgt := 27) h pX3_sheet_0 12 rfl rfl (v_istore h pX3_sheet_0 14 (lv' := [(4, .int 1), (0, .ref (a 0)), (1, .int t), (2, .int bits), (3, .int sz)]) rfl hnL rfl rfl (v_iload_n h pX3_sheet_0 15 rfl 2 rfl rfl ?_)))
      refine v_callS h pX3_sheet_0 16 mX3_198 (As := [.int t]) (st := []) (kX3_isSheet _ _ cI cS t) v0B v0C (vEmb_u _) rfl rfl rfl rfl rfl (vDet_k ?_)
      show V K (cW cI cS a (E, T, Kp, P, S, F)) 33 [(4, .int 1), (0, .ref (a 0)), (1, .int t), (2, .int bits), (3, .int sz)] [.int (bI (inB t 0 3))]
      refine v_bif_eq (tgt := 41) h pX3_sheet_0 17 rfl rfl (fun c7 => ?_) (fun c7 => ?_)
      · skip
        refine v_aload_n h pX3_sheet_0 20 rfl 1 rfl rfl (v_iconst h pX3_sheet_0 21 rfl ki_0 ?_)
        refine v_callV h pX3_sheet_0 22 mX3_55 (As := [.int 0]) (st := []) (kX3_finding _ _ cI cS a E T Kp P F S 0 (by decide)) v0B v0C (vEmb_rf _ _) 0 rfl rfl rfl rfl rfl rfl rfl (vDet_k ?_)
        show V K (cW cI cS a (E, T, Kp, P, S, fndC F 0)) 46 [(4, .int 1), (0, .ref (a 0)), (1, .int t), (2, .int bits), (3, .int sz)] [.int ((-1000001) - (nI 0))]
        refine v_top (w := .int (-1000001)) (by decide) ?_
        exact v_iret h pX3_sheet_0 23 hR hret rfl ((E, T, Kp, P, S, fndC F 0)) rfl ⟨vI (by first | (simp [bitB, c1, (eq_true c6), c7, -Int32.not_lt]; done) | (rw [st_s, bec_11]; simp [bitB, c1, (eq_true c6), c7, -Int32.not_lt])), rfl, rfl, ⟨rfl, rfl⟩, (by simp [bitB, c1, (eq_true c6), c7, -Int32.not_lt]), (fR_of (by simp [bitB, c1, (eq_true c6), c7, -Int32.not_lt]))⟩
      · skip
        obtain ⟨e_t, l_t⟩ := inB_t 3 rfl (by decide) c7
        refine v_iload h pX3_sheet_0 18 rfl 0 rfl ?_
        refine v_if_ne (tgt := 47) h pX3_sheet_0 19 rfl rfl (fun c8 => ?_) (fun c8 => absurd c8 (by decide))
        refine v_iload_n h pX3_sheet_0 24 rfl 4 rfl rfl ?_
        refine v_if_ge2 (tgt := 58) h pX3_sheet_0 25 rfl rfl (fun c9 => ?_) (fun c9 => ?_)
        · skip
          refine v_iload_n h pX3_sheet_0 30 rfl 4 rfl rfl (v_bipush h pX3_sheet_0 31 rfl kb_40 ?_)
          refine v_icmp_le2 (tgt := 70) h pX3_sheet_1 0 rfl rfl (fun c10 => ?_) (fun c10 => ?_)
          · skip
            refine v_aload_n h pX3_sheet_1 5 rfl 1 rfl rfl (v_get h pX3_sheet_1 6 fX3_35 0 rfl rfl rfl (v_iload_n h pX3_sheet_1 7 rfl 2 rfl rfl (v_top (w := .int (nI (ix t))) (congrArg Value.int e_t) (v_aald h pX3_sheet_1 8 (ix t) 36 1 rfl rfl rfl rfl rfl (by omega) rfl (v_iload_n h pX3_sheet_1 9 rfl 3 rfl rfl ?_)))))
            refine v_iload_n h pX3_sheet_1 10 rfl 4 rfl rfl ?_
            refine v_callV h pX3_sheet_1 11 mX3_230 (As := [.int bits, .int sz]) (st := []) (kX1_become _ _ cI cS (sh a (37 + 2 * (ix t))) (S (ix t)) bits sz) v0B v0C (emb_S (by omega)) (37 + 2 * (ix t)) rfl (cW_sh (by omega)) rfl rfl rfl rfl rfl (vDet_k ?_)
            show V K (cW cI cS a (E, T, Kp, P, st S (ix t) (becR (S (ix t)) bits sz), F)) 81 [(4, .int 1), (0, .ref (a 0)), (1, .int t), (2, .int bits), (3, .int sz)] []
            refine v_aload_n h pX3_sheet_1 12 rfl 1 rfl rfl (v_get h pX3_sheet_1 13 fX3_35 0 rfl rfl rfl (v_iload_n h pX3_sheet_1 14 rfl 2 rfl rfl (v_top (w := .int (nI (ix t))) (congrArg Value.int e_t) (v_aald h pX3_sheet_1 15 (ix t) 36 1 rfl rfl rfl rfl rfl (by omega) rfl (v_get h pX3_sheet_1 16 fX3_204 (37 + 2 * (ix t)) rfl (cW_sh (by omega)) rfl ?_)))))
            exact v_iret h pX3_sheet_1 17 hR hret rfl ((E, T, Kp, P, st S (ix t) (becR (S (ix t)) bits sz), F)) rfl ⟨vI (by first | (simp [bitB, c1, (eq_true c6), c7, c9, c10, -Int32.not_lt]; done) | (rw [st_s, bec_11]; simp [bitB, c1, (eq_true c6), c7, c9, c10, -Int32.not_lt])), rfl, rfl, ⟨rfl, rfl⟩, (by simp [bitB, c1, (eq_true c6), c7, c9, c10, -Int32.not_lt]), (fR_of (by simp [bitB, c1, (eq_true c6), c7, c9, c10, -Int32.not_lt]))⟩
          · skip
            refine v_aload_n h pX3_sheet_1 1 rfl 1 rfl rfl (v_iconst h pX3_sheet_1 2 rfl ki_0 ?_)
            refine v_callV h pX3_sheet_1 3 mX3_55 (As := [.int 0]) (st := []) (kX3_finding _ _ cI cS a E T Kp P F S 0 (by decide)) v0B v0C (vEmb_rf _ _) 0 rfl rfl rfl rfl rfl rfl rfl (vDet_k ?_)
            show V K (cW cI cS a (E, T, Kp, P, S, fndC F 0)) 69 [(4, .int 1), (0, .ref (a 0)), (1, .int t), (2, .int bits), (3, .int sz)] [.int ((-1000001) - (nI 0))]
            refine v_top (w := .int (-1000001)) (by decide) ?_
            exact v_iret h pX3_sheet_1 4 hR hret rfl ((E, T, Kp, P, S, fndC F 0)) rfl ⟨vI (by first | (simp [bitB, c1, (eq_true c6), c7, c9, c10, -Int32.not_lt]; done) | (rw [st_s, bec_11]; simp [bitB, c1, (eq_true c6), c7, c9, c10, -Int32.not_lt])), rfl, rfl, ⟨rfl, rfl⟩, (by simp [bitB, c1, (eq_true c6), c7, c9, c10, -Int32.not_lt]), (fR_of (by simp [bitB, c1, (eq_true c6), c7, c9, c10, -Int32.not_lt]))⟩
        · skip
          refine v_aload_n h pX3_sheet_0 26 rfl 1 rfl rfl (v_bipush h pX3_sheet_0 27 rfl kb_6 ?_)
          refine v_callV h pX3_sheet_0 28 mX3_55 (As := [.int 6]) (st := []) (kX3_finding _ _ cI cS a E T Kp P F S 6 (by decide)) v0B v0C (vEmb_rf _ _) 0 rfl rfl rfl rfl rfl rfl rfl (vDet_k ?_)
          show V K (cW cI cS a (E, T, Kp, P, S, fndC F 6)) 57 [(4, .int 1), (0, .ref (a 0)), (1, .int t), (2, .int bits), (3, .int sz)] [.int ((-1000001) - (nI 6))]
          refine v_top (w := .int (-1000007)) (by decide) ?_
          exact v_iret h pX3_sheet_0 29 hR hret rfl ((E, T, Kp, P, S, fndC F 6)) rfl ⟨vI (by first | (simp [bitB, c1, (eq_true c6), c7, c9, -Int32.not_lt]; done) | (rw [st_s, bec_11]; simp [bitB, c1, (eq_true c6), c7, c9, -Int32.not_lt])), rfl, rfl, ⟨rfl, rfl⟩, (by simp [bitB, c1, (eq_true c6), c7, c9, -Int32.not_lt]), (fR_of (by simp [bitB, c1, (eq_true c6), c7, c9, -Int32.not_lt]))⟩
    · skip
      refine v_iload_n h pX3_sheet_0 5 rfl 2 rfl rfl (v_bipush h pX3_sheet_0 6 rfl kb_16 ?_)
      refine v_icmp_eq (tgt := 22) h pX3_sheet_0 7 rfl rfl (fun c11 => ?_) (fun c11 => ?_)
      · skip
        refine v_iconst h pX3_sheet_0 11 rfl ki_1 (v_goto (tgt := 27) h pX3_sheet_0 12 rfl rfl (v_istore h pX3_sheet_0 14 (lv' := [(4, .int 1), (0, .ref (a 0)), (1, .int t), (2, .int bits), (3, .int sz)]) rfl hnL rfl rfl (v_iload_n h pX3_sheet_0 15 rfl 2 rfl rfl ?_)))
        refine v_callS h pX3_sheet_0 16 mX3_198 (As := [.int t]) (st := []) (kX3_isSheet _ _ cI cS t) v0B v0C (vEmb_u _) rfl rfl rfl rfl rfl (vDet_k ?_)
        show V K (cW cI cS a (E, T, Kp, P, S, F)) 33 [(4, .int 1), (0, .ref (a 0)), (1, .int t), (2, .int bits), (3, .int sz)] [.int (bI (inB t 0 3))]
        refine v_bif_eq (tgt := 41) h pX3_sheet_0 17 rfl rfl (fun c12 => ?_) (fun c12 => ?_)
        · skip
          refine v_aload_n h pX3_sheet_0 20 rfl 1 rfl rfl (v_iconst h pX3_sheet_0 21 rfl ki_0 ?_)
          refine v_callV h pX3_sheet_0 22 mX3_55 (As := [.int 0]) (st := []) (kX3_finding _ _ cI cS a E T Kp P F S 0 (by decide)) v0B v0C (vEmb_rf _ _) 0 rfl rfl rfl rfl rfl rfl rfl (vDet_k ?_)
          show V K (cW cI cS a (E, T, Kp, P, S, fndC F 0)) 46 [(4, .int 1), (0, .ref (a 0)), (1, .int t), (2, .int bits), (3, .int sz)] [.int ((-1000001) - (nI 0))]
          refine v_top (w := .int (-1000001)) (by decide) ?_
          exact v_iret h pX3_sheet_0 23 hR hret rfl ((E, T, Kp, P, S, fndC F 0)) rfl ⟨vI (by first | (simp [bitB, c1, c6, (eq_true c11), c12, -Int32.not_lt]; done) | (rw [st_s, bec_11]; simp [bitB, c1, c6, (eq_true c11), c12, -Int32.not_lt])), rfl, rfl, ⟨rfl, rfl⟩, (by simp [bitB, c1, c6, (eq_true c11), c12, -Int32.not_lt]), (fR_of (by simp [bitB, c1, c6, (eq_true c11), c12, -Int32.not_lt]))⟩
        · skip
          obtain ⟨e_t, l_t⟩ := inB_t 3 rfl (by decide) c12
          refine v_iload h pX3_sheet_0 18 rfl 0 rfl ?_
          refine v_if_ne (tgt := 47) h pX3_sheet_0 19 rfl rfl (fun c13 => ?_) (fun c13 => absurd c13 (by decide))
          refine v_iload_n h pX3_sheet_0 24 rfl 4 rfl rfl ?_
          refine v_if_ge2 (tgt := 58) h pX3_sheet_0 25 rfl rfl (fun c14 => ?_) (fun c14 => ?_)
          · skip
            refine v_iload_n h pX3_sheet_0 30 rfl 4 rfl rfl (v_bipush h pX3_sheet_0 31 rfl kb_40 ?_)
            refine v_icmp_le2 (tgt := 70) h pX3_sheet_1 0 rfl rfl (fun c15 => ?_) (fun c15 => ?_)
            · skip
              refine v_aload_n h pX3_sheet_1 5 rfl 1 rfl rfl (v_get h pX3_sheet_1 6 fX3_35 0 rfl rfl rfl (v_iload_n h pX3_sheet_1 7 rfl 2 rfl rfl (v_top (w := .int (nI (ix t))) (congrArg Value.int e_t) (v_aald h pX3_sheet_1 8 (ix t) 36 1 rfl rfl rfl rfl rfl (by omega) rfl (v_iload_n h pX3_sheet_1 9 rfl 3 rfl rfl ?_)))))
              refine v_iload_n h pX3_sheet_1 10 rfl 4 rfl rfl ?_
              refine v_callV h pX3_sheet_1 11 mX3_230 (As := [.int bits, .int sz]) (st := []) (kX1_become _ _ cI cS (sh a (37 + 2 * (ix t))) (S (ix t)) bits sz) v0B v0C (emb_S (by omega)) (37 + 2 * (ix t)) rfl (cW_sh (by omega)) rfl rfl rfl rfl rfl (vDet_k ?_)
              show V K (cW cI cS a (E, T, Kp, P, st S (ix t) (becR (S (ix t)) bits sz), F)) 81 [(4, .int 1), (0, .ref (a 0)), (1, .int t), (2, .int bits), (3, .int sz)] []
              refine v_aload_n h pX3_sheet_1 12 rfl 1 rfl rfl (v_get h pX3_sheet_1 13 fX3_35 0 rfl rfl rfl (v_iload_n h pX3_sheet_1 14 rfl 2 rfl rfl (v_top (w := .int (nI (ix t))) (congrArg Value.int e_t) (v_aald h pX3_sheet_1 15 (ix t) 36 1 rfl rfl rfl rfl rfl (by omega) rfl (v_get h pX3_sheet_1 16 fX3_204 (37 + 2 * (ix t)) rfl (cW_sh (by omega)) rfl ?_)))))
              exact v_iret h pX3_sheet_1 17 hR hret rfl ((E, T, Kp, P, st S (ix t) (becR (S (ix t)) bits sz), F)) rfl ⟨vI (by first | (simp [bitB, c1, c6, (eq_true c11), c12, c14, c15, -Int32.not_lt]; done) | (rw [st_s, bec_11]; simp [bitB, c1, c6, (eq_true c11), c12, c14, c15, -Int32.not_lt])), rfl, rfl, ⟨rfl, rfl⟩, (by simp [bitB, c1, c6, (eq_true c11), c12, c14, c15, -Int32.not_lt]), (fR_of (by simp [bitB, c1, c6, (eq_true c11), c12, c14, c15, -Int32.not_lt]))⟩
            · skip
              refine v_aload_n h pX3_sheet_1 1 rfl 1 rfl rfl (v_iconst h pX3_sheet_1 2 rfl ki_0 ?_)
              refine v_callV h pX3_sheet_1 3 mX3_55 (As := [.int 0]) (st := []) (kX3_finding _ _ cI cS a E T Kp P F S 0 (by decide)) v0B v0C (vEmb_rf _ _) 0 rfl rfl rfl rfl rfl rfl rfl (vDet_k ?_)
              show V K (cW cI cS a (E, T, Kp, P, S, fndC F 0)) 69 [(4, .int 1), (0, .ref (a 0)), (1, .int t), (2, .int bits), (3, .int sz)] [.int ((-1000001) - (nI 0))]
              refine v_top (w := .int (-1000001)) (by decide) ?_
              exact v_iret h pX3_sheet_1 4 hR hret rfl ((E, T, Kp, P, S, fndC F 0)) rfl ⟨vI (by first | (simp [bitB, c1, c6, (eq_true c11), c12, c14, c15, -Int32.not_lt]; done) | (rw [st_s, bec_11]; simp [bitB, c1, c6, (eq_true c11), c12, c14, c15, -Int32.not_lt])), rfl, rfl, ⟨rfl, rfl⟩, (by simp [bitB, c1, c6, (eq_true c11), c12, c14, c15, -Int32.not_lt]), (fR_of (by simp [bitB, c1, c6, (eq_true c11), c12, c14, c15, -Int32.not_lt]))⟩
          · skip
            refine v_aload_n h pX3_sheet_0 26 rfl 1 rfl rfl (v_bipush h pX3_sheet_0 27 rfl kb_6 ?_)
            refine v_callV h pX3_sheet_0 28 mX3_55 (As := [.int 6]) (st := []) (kX3_finding _ _ cI cS a E T Kp P F S 6 (by decide)) v0B v0C (vEmb_rf _ _) 0 rfl rfl rfl rfl rfl rfl rfl (vDet_k ?_)
            show V K (cW cI cS a (E, T, Kp, P, S, fndC F 6)) 57 [(4, .int 1), (0, .ref (a 0)), (1, .int t), (2, .int bits), (3, .int sz)] [.int ((-1000001) - (nI 6))]
            refine v_top (w := .int (-1000007)) (by decide) ?_
            exact v_iret h pX3_sheet_0 29 hR hret rfl ((E, T, Kp, P, S, fndC F 6)) rfl ⟨vI (by first | (simp [bitB, c1, c6, (eq_true c11), c12, c14, -Int32.not_lt]; done) | (rw [st_s, bec_11]; simp [bitB, c1, c6, (eq_true c11), c12, c14, -Int32.not_lt])), rfl, rfl, ⟨rfl, rfl⟩, (by simp [bitB, c1, c6, (eq_true c11), c12, c14, -Int32.not_lt]), (fR_of (by simp [bitB, c1, c6, (eq_true c11), c12, c14, -Int32.not_lt]))⟩
      · skip
        refine v_iload_n h pX3_sheet_0 8 rfl 2 rfl rfl (v_bipush h pX3_sheet_0 9 rfl kb_32 ?_)
        refine v_icmp_ne (tgt := 26) h pX3_sheet_0 10 rfl rfl (fun c16 => ?_) (fun c16 => ?_)
        · skip
          refine v_iconst h pX3_sheet_0 13 rfl ki_0 (v_istore h pX3_sheet_0 14 (lv' := [(4, .int 0), (0, .ref (a 0)), (1, .int t), (2, .int bits), (3, .int sz)]) rfl hnL rfl rfl (v_iload_n h pX3_sheet_0 15 rfl 2 rfl rfl ?_))
          refine v_callS h pX3_sheet_0 16 mX3_198 (As := [.int t]) (st := []) (kX3_isSheet _ _ cI cS t) v0B v0C (vEmb_u _) rfl rfl rfl rfl rfl (vDet_k ?_)
          show V K (cW cI cS a (E, T, Kp, P, S, F)) 33 [(4, .int 0), (0, .ref (a 0)), (1, .int t), (2, .int bits), (3, .int sz)] [.int (bI (inB t 0 3))]
          refine v_bif_eq (tgt := 41) h pX3_sheet_0 17 rfl rfl (fun c17 => ?_) (fun c17 => ?_)
          · skip
            refine v_aload_n h pX3_sheet_0 20 rfl 1 rfl rfl (v_iconst h pX3_sheet_0 21 rfl ki_0 ?_)
            refine v_callV h pX3_sheet_0 22 mX3_55 (As := [.int 0]) (st := []) (kX3_finding _ _ cI cS a E T Kp P F S 0 (by decide)) v0B v0C (vEmb_rf _ _) 0 rfl rfl rfl rfl rfl rfl rfl (vDet_k ?_)
            show V K (cW cI cS a (E, T, Kp, P, S, fndC F 0)) 46 [(4, .int 0), (0, .ref (a 0)), (1, .int t), (2, .int bits), (3, .int sz)] [.int ((-1000001) - (nI 0))]
            refine v_top (w := .int (-1000001)) (by decide) ?_
            exact v_iret h pX3_sheet_0 23 hR hret rfl ((E, T, Kp, P, S, fndC F 0)) rfl ⟨vI (by first | (simp [bitB, c1, c6, c11, c16, c17, -Int32.not_lt]; done) | (rw [st_s, bec_11]; simp [bitB, c1, c6, c11, c16, c17, -Int32.not_lt])), rfl, rfl, ⟨rfl, rfl⟩, (by simp [bitB, c1, c6, c11, c16, c17, -Int32.not_lt]), (fR_of (by simp [bitB, c1, c6, c11, c16, c17, -Int32.not_lt]))⟩
          · skip
            obtain ⟨e_t, l_t⟩ := inB_t 3 rfl (by decide) c17
            refine v_iload h pX3_sheet_0 18 rfl 0 rfl ?_
            refine v_if_ne (tgt := 47) h pX3_sheet_0 19 rfl rfl (fun c18 => absurd c18 (by decide)) (fun c18 => ?_)
            refine v_aload_n h pX3_sheet_0 20 rfl 1 rfl rfl (v_iconst h pX3_sheet_0 21 rfl ki_0 ?_)
            refine v_callV h pX3_sheet_0 22 mX3_55 (As := [.int 0]) (st := []) (kX3_finding _ _ cI cS a E T Kp P F S 0 (by decide)) v0B v0C (vEmb_rf _ _) 0 rfl rfl rfl rfl rfl rfl rfl (vDet_k ?_)
            show V K (cW cI cS a (E, T, Kp, P, S, fndC F 0)) 46 [(4, .int 0), (0, .ref (a 0)), (1, .int t), (2, .int bits), (3, .int sz)] [.int ((-1000001) - (nI 0))]
            refine v_top (w := .int (-1000001)) (by decide) ?_
            exact v_iret h pX3_sheet_0 23 hR hret rfl ((E, T, Kp, P, S, fndC F 0)) rfl ⟨vI (by first | (simp [bitB, c1, c6, c11, c16, c17, -Int32.not_lt]; done) | (rw [st_s, bec_11]; simp [bitB, c1, c6, c11, c16, c17, -Int32.not_lt])), rfl, rfl, ⟨rfl, rfl⟩, (by simp [bitB, c1, c6, c11, c16, c17, -Int32.not_lt]), (fR_of (by simp [bitB, c1, c6, c11, c16, c17, -Int32.not_lt]))⟩
        · skip
          refine v_iconst h pX3_sheet_0 11 rfl ki_1 (v_goto (tgt := 27) h pX3_sheet_0 12 rfl rfl (v_istore h pX3_sheet_0 14 (lv' := [(4, .int 1), (0, .ref (a 0)), (1, .int t), (2, .int bits), (3, .int sz)]) rfl hnL rfl rfl (v_iload_n h pX3_sheet_0 15 rfl 2 rfl rfl ?_)))
          refine v_callS h pX3_sheet_0 16 mX3_198 (As := [.int t]) (st := []) (kX3_isSheet _ _ cI cS t) v0B v0C (vEmb_u _) rfl rfl rfl rfl rfl (vDet_k ?_)
          show V K (cW cI cS a (E, T, Kp, P, S, F)) 33 [(4, .int 1), (0, .ref (a 0)), (1, .int t), (2, .int bits), (3, .int sz)] [.int (bI (inB t 0 3))]
          refine v_bif_eq (tgt := 41) h pX3_sheet_0 17 rfl rfl (fun c19 => ?_) (fun c19 => ?_)
          · skip
            refine v_aload_n h pX3_sheet_0 20 rfl 1 rfl rfl (v_iconst h pX3_sheet_0 21 rfl ki_0 ?_)
            refine v_callV h pX3_sheet_0 22 mX3_55 (As := [.int 0]) (st := []) (kX3_finding _ _ cI cS a E T Kp P F S 0 (by decide)) v0B v0C (vEmb_rf _ _) 0 rfl rfl rfl rfl rfl rfl rfl (vDet_k ?_)
            show V K (cW cI cS a (E, T, Kp, P, S, fndC F 0)) 46 [(4, .int 1), (0, .ref (a 0)), (1, .int t), (2, .int bits), (3, .int sz)] [.int ((-1000001) - (nI 0))]
            refine v_top (w := .int (-1000001)) (by decide) ?_
            exact v_iret h pX3_sheet_0 23 hR hret rfl ((E, T, Kp, P, S, fndC F 0)) rfl ⟨vI (by first | (simp [bitB, c1, c6, c11, (eq_true c16), c19, -Int32.not_lt]; done) | (rw [st_s, bec_11]; simp [bitB, c1, c6, c11, (eq_true c16), c19, -Int32.not_lt])), rfl, rfl, ⟨rfl, rfl⟩, (by simp [bitB, c1, c6, c11, (eq_true c16), c19, -Int32.not_lt]), (fR_of (by simp [bitB, c1, c6, c11, (eq_true c16), c19, -Int32.not_lt]))⟩
          · skip
            obtain ⟨e_t, l_t⟩ := inB_t 3 rfl (by decide) c19
            refine v_iload h pX3_sheet_0 18 rfl 0 rfl ?_
            refine v_if_ne (tgt := 47) h pX3_sheet_0 19 rfl rfl (fun c20 => ?_) (fun c20 => absurd c20 (by decide))
            refine v_iload_n h pX3_sheet_0 24 rfl 4 rfl rfl ?_
            refine v_if_ge2 (tgt := 58) h pX3_sheet_0 25 rfl rfl (fun c21 => ?_) (fun c21 => ?_)
            · skip
              refine v_iload_n h pX3_sheet_0 30 rfl 4 rfl rfl (v_bipush h pX3_sheet_0 31 rfl kb_40 ?_)
              refine v_icmp_le2 (tgt := 70) h pX3_sheet_1 0 rfl rfl (fun c22 => ?_) (fun c22 => ?_)
              · skip
                refine v_aload_n h pX3_sheet_1 5 rfl 1 rfl rfl (v_get h pX3_sheet_1 6 fX3_35 0 rfl rfl rfl (v_iload_n h pX3_sheet_1 7 rfl 2 rfl rfl (v_top (w := .int (nI (ix t))) (congrArg Value.int e_t) (v_aald h pX3_sheet_1 8 (ix t) 36 1 rfl rfl rfl rfl rfl (by omega) rfl (v_iload_n h pX3_sheet_1 9 rfl 3 rfl rfl ?_)))))
                refine v_iload_n h pX3_sheet_1 10 rfl 4 rfl rfl ?_
                refine v_callV h pX3_sheet_1 11 mX3_230 (As := [.int bits, .int sz]) (st := []) (kX1_become _ _ cI cS (sh a (37 + 2 * (ix t))) (S (ix t)) bits sz) v0B v0C (emb_S (by omega)) (37 + 2 * (ix t)) rfl (cW_sh (by omega)) rfl rfl rfl rfl rfl (vDet_k ?_)
                show V K (cW cI cS a (E, T, Kp, P, st S (ix t) (becR (S (ix t)) bits sz), F)) 81 [(4, .int 1), (0, .ref (a 0)), (1, .int t), (2, .int bits), (3, .int sz)] []
                refine v_aload_n h pX3_sheet_1 12 rfl 1 rfl rfl (v_get h pX3_sheet_1 13 fX3_35 0 rfl rfl rfl (v_iload_n h pX3_sheet_1 14 rfl 2 rfl rfl (v_top (w := .int (nI (ix t))) (congrArg Value.int e_t) (v_aald h pX3_sheet_1 15 (ix t) 36 1 rfl rfl rfl rfl rfl (by omega) rfl (v_get h pX3_sheet_1 16 fX3_204 (37 + 2 * (ix t)) rfl (cW_sh (by omega)) rfl ?_)))))
                exact v_iret h pX3_sheet_1 17 hR hret rfl ((E, T, Kp, P, st S (ix t) (becR (S (ix t)) bits sz), F)) rfl ⟨vI (by first | (simp [bitB, c1, c6, c11, (eq_true c16), c19, c21, c22, -Int32.not_lt]; done) | (rw [st_s, bec_11]; simp [bitB, c1, c6, c11, (eq_true c16), c19, c21, c22, -Int32.not_lt])), rfl, rfl, ⟨rfl, rfl⟩, (by simp [bitB, c1, c6, c11, (eq_true c16), c19, c21, c22, -Int32.not_lt]), (fR_of (by simp [bitB, c1, c6, c11, (eq_true c16), c19, c21, c22, -Int32.not_lt]))⟩
              · skip
                refine v_aload_n h pX3_sheet_1 1 rfl 1 rfl rfl (v_iconst h pX3_sheet_1 2 rfl ki_0 ?_)
                refine v_callV h pX3_sheet_1 3 mX3_55 (As := [.int 0]) (st := []) (kX3_finding _ _ cI cS a E T Kp P F S 0 (by decide)) v0B v0C (vEmb_rf _ _) 0 rfl rfl rfl rfl rfl rfl rfl (vDet_k ?_)
                show V K (cW cI cS a (E, T, Kp, P, S, fndC F 0)) 69 [(4, .int 1), (0, .ref (a 0)), (1, .int t), (2, .int bits), (3, .int sz)] [.int ((-1000001) - (nI 0))]
                refine v_top (w := .int (-1000001)) (by decide) ?_
                exact v_iret h pX3_sheet_1 4 hR hret rfl ((E, T, Kp, P, S, fndC F 0)) rfl ⟨vI (by first | (simp [bitB, c1, c6, c11, (eq_true c16), c19, c21, c22, -Int32.not_lt]; done) | (rw [st_s, bec_11]; simp [bitB, c1, c6, c11, (eq_true c16), c19, c21, c22, -Int32.not_lt])), rfl, rfl, ⟨rfl, rfl⟩, (by simp [bitB, c1, c6, c11, (eq_true c16), c19, c21, c22, -Int32.not_lt]), (fR_of (by simp [bitB, c1, c6, c11, (eq_true c16), c19, c21, c22, -Int32.not_lt]))⟩
            · skip
              refine v_aload_n h pX3_sheet_0 26 rfl 1 rfl rfl (v_bipush h pX3_sheet_0 27 rfl kb_6 ?_)
              refine v_callV h pX3_sheet_0 28 mX3_55 (As := [.int 6]) (st := []) (kX3_finding _ _ cI cS a E T Kp P F S 6 (by decide)) v0B v0C (vEmb_rf _ _) 0 rfl rfl rfl rfl rfl rfl rfl (vDet_k ?_)
              show V K (cW cI cS a (E, T, Kp, P, S, fndC F 6)) 57 [(4, .int 1), (0, .ref (a 0)), (1, .int t), (2, .int bits), (3, .int sz)] [.int ((-1000001) - (nI 6))]
              refine v_top (w := .int (-1000007)) (by decide) ?_
              exact v_iret h pX3_sheet_0 29 hR hret rfl ((E, T, Kp, P, S, fndC F 6)) rfl ⟨vI (by first | (simp [bitB, c1, c6, c11, (eq_true c16), c19, c21, -Int32.not_lt]; done) | (rw [st_s, bec_11]; simp [bitB, c1, c6, c11, (eq_true c16), c19, c21, -Int32.not_lt])), rfl, rfl, ⟨rfl, rfl⟩, (by simp [bitB, c1, c6, c11, (eq_true c16), c19, c21, -Int32.not_lt]), (fR_of (by simp [bitB, c1, c6, c11, (eq_true c16), c19, c21, -Int32.not_lt]))⟩
set_option maxHeartbeats 300000 in
set_option maxRecDepth 100000 in
theorem kX3_write (l : Launch) (D : va_G) (cI cS : ClassId) (a : Nat → Nat) (E T Kp P F : Nat → Nat → Int32) (S : Nat → Nat → Nat → Int32) (n : Nat) (hW : Wf E n) (hZ : E 9 4 = 0) (hS : WfS S) (t i v : Int32) : vMet l D (vT cI cS) yX3_write cX3_write 4 (some .int) 2 41 (cW cI cS a) v0 [.ref (a 0), .int t, .int i, .int v] (E, T, Kp, P, S, F) (cPost (some (.int (if inB t 0 3 = true then (if S (ix t) 1 0 = 0 then (-1000006) else (if inB i 0 (S (ix t) 1 1 - 1) = true then 1 else (-1000001))) else (-1000001)))) (E) (Kp) (P) (if inB t 0 3 = true then (if S (ix t) 1 0 = 0 then S else (if inB i 0 (S (ix t) 1 1 - 1) = true then st S (ix t) (up (S (ix t)) 0 (ix i) (cutS (S (ix t) 1 0) v)) else S)) else S) (if inB t 0 3 = true then (if S (ix t) 1 0 = 0 then fndC F 5 else (if inB i 0 (S (ix t) 1 1 - 1) = true then F else fndC F 0)) else fndC F 0)) := by
  refine vMet_of (by decide) rfl ?_
  intro K hl hD hnL hret h hR hEx
  subst hl hD
  show V K (cW cI cS a (E, T, Kp, P, S, F)) 0 [(0, .ref (a 0)), (1, .int t), (2, .int i), (3, .int v)] []
  have hn8 := hW.1
  refine v_iload_n h pX3_write_0 0 rfl 1 rfl rfl ?_
  refine v_callS h pX3_write_0 1 mX3_198 (As := [.int t]) (st := []) (kX3_isSheet _ _ cI cS t) v0B v0C (vEmb_u _) rfl rfl rfl rfl rfl (vDet_k ?_)
  show V K (cW cI cS a (E, T, Kp, P, S, F)) 4 [(0, .ref (a 0)), (1, .int t), (2, .int i), (3, .int v)] [.int (bI (inB t 0 3))]
  refine v_bif_ne (tgt := 13) h pX3_write_0 2 rfl rfl (fun c1 => ?_) (fun c1 => ?_)
  · skip
    obtain ⟨e_t, l_t⟩ := inB_t 3 rfl (by decide) c1
    refine v_aload_n h pX3_write_0 7 rfl 0 rfl rfl (v_get h pX3_write_0 8 fX3_35 0 rfl rfl rfl (v_iload_n h pX3_write_0 9 rfl 1 rfl rfl (v_top (w := .int (nI (ix t))) (congrArg Value.int e_t) (v_aald h pX3_write_0 10 (ix t) 36 1 rfl rfl rfl rfl rfl (by omega) rfl ?_))))
    refine v_callV h pX3_write_0 11 mX3_201 (As := []) (st := []) (kX1_isMissing _ _ cI cS (sh a (37 + 2 * (ix t))) (S (ix t))) v0B v0C (emb_S (by omega)) (37 + 2 * (ix t)) rfl (cW_sh (by omega)) rfl rfl rfl rfl rfl (vDet_k ?_)
    show V K (cW cI cS a (E, T, Kp, P, st S (ix t) (S (ix t)), F)) 22 [(0, .ref (a 0)), (1, .int t), (2, .int i), (3, .int v)] [.int (bI (decide (S (ix t) 1 0 = 0)))]
    refine v_eqw (ws' := cW cI cS a (E, T, Kp, P, S, F)) (by rw [st_id]) ?_
    refine v_bif_eq (tgt := 31) h pX3_write_0 12 rfl rfl (fun c2 => ?_) (fun c2 => ?_)
    · skip
      have c2m := of_decide_eq_false c2
      refine v_iload_n h pX3_write_0 17 rfl 2 rfl rfl (v_aload_n h pX3_write_0 18 rfl 0 rfl rfl (v_get h pX3_write_0 19 fX3_35 0 rfl rfl rfl (v_iload_n h pX3_write_0 20 rfl 1 rfl rfl (v_top (w := .int (nI (ix t))) (congrArg Value.int e_t) (v_aald h pX3_write_0 21 (ix t) 36 1 rfl rfl rfl rfl rfl (by omega) rfl ?_)))))
      refine v_get h pX3_write_0 22 fX3_204 (37 + 2 * (ix t)) rfl (cW_sh (by omega)) rfl (v_iconst h pX3_write_0 23 rfl ki_1 (v_isub h pX3_write_0 24 rfl ?_))
      refine v_callS h pX3_write_0 25 mX3_51 (As := [.int i, .int ((S (ix t) 1 1) - 1)]) (st := []) (kX3_isWithin _ _ cI cS i ((S (ix t) 1 1) - 1)) v0B v0C (vEmb_u _) rfl rfl rfl rfl rfl (vDet_k ?_)
      show V K (cW cI cS a (E, T, Kp, P, S, F)) 46 [(0, .ref (a 0)), (1, .int t), (2, .int i), (3, .int v)] [.int (bI (inB i 0 ((S (ix t) 1 1) - 1)))]
      refine v_bif_ne (tgt := 55) h pX3_write_0 26 rfl rfl (fun c3 => ?_) (fun c3 => ?_)
      · skip
        have hsz := hS.sizeL (t := ix t) (by omega)
        obtain ⟨e_i, l_i⟩ := inS_t (hS _ (by omega)) c3
        refine v_aload_n h pX3_write_0 31 rfl 0 rfl rfl (v_get h pX3_write_1 0 fX3_35 0 rfl rfl rfl (v_iload_n h pX3_write_1 1 rfl 1 rfl rfl (v_top (w := .int (nI (ix t))) (congrArg Value.int e_t) (v_aald h pX3_write_1 2 (ix t) 36 1 rfl rfl rfl rfl rfl (by omega) rfl (v_iload_n h pX3_write_1 3 rfl 2 rfl rfl ?_)))))
        refine v_top (w := .int (nI (ix i))) (congrArg Value.int e_i) (v_iload_n h pX3_write_1 4 rfl 3 rfl rfl ?_)
        refine v_callV h pX3_write_1 5 mX3_234 (As := [.int (nI (ix i)), .int v]) (st := []) (kX1_put _ _ cI cS (sh a (37 + 2 * (ix t))) (S (ix t)) (ix i) (by omega) v) v0B v0C (emb_S (by omega)) (37 + 2 * (ix t)) rfl (cW_sh (by omega)) rfl rfl rfl rfl rfl (vDet_k ?_)
        show V K (cW cI cS a (E, T, Kp, P, st S (ix t) (up (S (ix t)) 0 (ix i) (cutS (S (ix t) 1 0) v)), F)) 66 [(0, .ref (a 0)), (1, .int t), (2, .int i), (3, .int v)] []
        refine v_iconst h pX3_write_1 6 rfl ki_1 ?_
        exact v_iret h pX3_write_1 7 hR hret rfl ((E, T, Kp, P, st S (ix t) (up (S (ix t)) 0 (ix i) (cutS (S (ix t) 1 0) v)), F)) rfl ⟨vI (by simp [c1, c2m, c3, -Int32.not_lt]), rfl, rfl, ⟨rfl, rfl⟩, (by simp [c1, c2m, c3, -Int32.not_lt]), (fR_of (by simp [c1, c2m, c3, -Int32.not_lt]))⟩
      · skip
        refine v_aload_n h pX3_write_0 27 rfl 0 rfl rfl (v_iconst h pX3_write_0 28 rfl ki_0 ?_)
        refine v_callV h pX3_write_0 29 mX3_55 (As := [.int 0]) (st := []) (kX3_finding _ _ cI cS a E T Kp P F S 0 (by decide)) v0B v0C (vEmb_rf _ _) 0 rfl rfl rfl rfl rfl rfl rfl (vDet_k ?_)
        show V K (cW cI cS a (E, T, Kp, P, S, fndC F 0)) 54 [(0, .ref (a 0)), (1, .int t), (2, .int i), (3, .int v)] [.int ((-1000001) - (nI 0))]
        refine v_top (w := .int (-1000001)) (by decide) ?_
        exact v_iret h pX3_write_0 30 hR hret rfl ((E, T, Kp, P, S, fndC F 0)) rfl ⟨vI (by simp [c1, c2m, c3, -Int32.not_lt]), rfl, rfl, ⟨rfl, rfl⟩, (by simp [c1, c2m, c3, -Int32.not_lt]), (fR_of (by simp [c1, c2m, c3, -Int32.not_lt]))⟩
    · skip
      have c2m := of_decide_eq_true c2
      refine v_aload_n h pX3_write_0 13 rfl 0 rfl rfl (v_iconst h pX3_write_0 14 rfl ki_5 ?_)
      refine v_callV h pX3_write_0 15 mX3_55 (As := [.int 5]) (st := []) (kX3_finding _ _ cI cS a E T Kp P F S 5 (by decide)) v0B v0C (vEmb_rf _ _) 0 rfl rfl rfl rfl rfl rfl rfl (vDet_k ?_)
      show V K (cW cI cS a (E, T, Kp, P, S, fndC F 5)) 30 [(0, .ref (a 0)), (1, .int t), (2, .int i), (3, .int v)] [.int ((-1000001) - (nI 5))]
      refine v_top (w := .int (-1000006)) (by decide) ?_
      exact v_iret h pX3_write_0 16 hR hret rfl ((E, T, Kp, P, S, fndC F 5)) rfl ⟨vI (by simp [c1, (eq_true c2m), -Int32.not_lt]), rfl, rfl, ⟨rfl, rfl⟩, (by simp [c1, (eq_true c2m), -Int32.not_lt]), (fR_of (by simp [c1, (eq_true c2m), -Int32.not_lt]))⟩
  · skip
    refine v_aload_n h pX3_write_0 3 rfl 0 rfl rfl (v_iconst h pX3_write_0 4 rfl ki_0 ?_)
    refine v_callV h pX3_write_0 5 mX3_55 (As := [.int 0]) (st := []) (kX3_finding _ _ cI cS a E T Kp P F S 0 (by decide)) v0B v0C (vEmb_rf _ _) 0 rfl rfl rfl rfl rfl rfl rfl (vDet_k ?_)
    show V K (cW cI cS a (E, T, Kp, P, S, fndC F 0)) 12 [(0, .ref (a 0)), (1, .int t), (2, .int i), (3, .int v)] [.int ((-1000001) - (nI 0))]
    refine v_top (w := .int (-1000001)) (by decide) ?_
    exact v_iret h pX3_write_0 6 hR hret rfl ((E, T, Kp, P, S, fndC F 0)) rfl ⟨vI (by simp [c1, -Int32.not_lt]), rfl, rfl, ⟨rfl, rfl⟩, (by simp [c1, -Int32.not_lt]), (fR_of (by simp [c1, -Int32.not_lt]))⟩
set_option maxHeartbeats 300000 in
set_option maxRecDepth 100000 in
theorem kX3_copy (l : Launch) (D : va_G) (cI cS : ClassId) (a : Nat → Nat) (E T Kp P F : Nat → Nat → Int32) (S : Nat → Nat → Nat → Int32) (n : Nat) (hW : Wf E n) (hZ : E 9 4 = 0) (hS : WfS S) (t p u q c : Int32) : vMet l D (vT cI cS) yX3_copy cX3_copy 8 (some .int) 2 41 (cW cI cS a) v0 [.ref (a 0), .int t, .int p, .int u, .int q, .int c] (E, T, Kp, P, S, F) (cPost (some (.int (cond (inB t 0 3 && inB u 0 3) (if S (ix t) 1 0 = 0 then (-1000006) else if S (ix u) 1 0 = 0 then (-1000006) else if S (ix t) 1 0 = S (ix u) 1 0 then (if (hasB (S (ix t) 1 1) p c && hasB (S (ix u) 1 1) q c) = true then c else (-1000001)) else (-1000003)) ((-1000001))))) (E) (Kp) (P) (cond (inB t 0 3 && inB u 0 3) (if S (ix t) 1 0 = 0 then S else if S (ix u) 1 0 = 0 then S else if S (ix t) 1 0 = S (ix u) 1 0 then (if (hasB (S (ix t) 1 1) p c && hasB (S (ix u) 1 1) q c) = true then cpyS S (ix t) (ix p) (ix u) (ix q) (ix c) else S) else S) (S)) (cond (inB t 0 3 && inB u 0 3) (if S (ix t) 1 0 = 0 then fndC F 5 else if S (ix u) 1 0 = 0 then fndC F 5 else if S (ix t) 1 0 = S (ix u) 1 0 then (if (hasB (S (ix t) 1 1) p c && hasB (S (ix u) 1 1) q c) = true then F else fndC F 0) else fndC F 2) (fndC F 0))) := by
  refine vMet_of (by decide) rfl ?_
  intro K hl hD hnL hret h hR hEx
  subst hl hD
  show V K (cW cI cS a (E, T, Kp, P, S, F)) 0 [(0, .ref (a 0)), (1, .int t), (2, .int p), (3, .int u), (4, .int q), (5, .int c)] []
  have hn8 := hW.1
  refine v_iload_n h pX3_copy_0 0 rfl 1 rfl rfl ?_
  refine v_callS h pX3_copy_0 1 mX3_198 (As := [.int t]) (st := []) (kX3_isSheet _ _ cI cS t) v0B v0C (vEmb_u _) rfl rfl rfl rfl rfl (vDet_k ?_)
  show V K (cW cI cS a (E, T, Kp, P, S, F)) 4 [(0, .ref (a 0)), (1, .int t), (2, .int p), (3, .int u), (4, .int q), (5, .int c)] [.int (bI (inB t 0 3))]
  refine v_bif_eq (tgt := 14) h pX3_copy_0 2 rfl rfl (fun c1 => ?_) (fun c1 => ?_)
  · skip
    refine v_aload_n h pX3_copy_0 6 rfl 0 rfl rfl (v_iconst h pX3_copy_0 7 rfl ki_0 ?_)
    refine v_callV h pX3_copy_0 8 mX3_55 (As := [.int 0]) (st := []) (kX3_finding _ _ cI cS a E T Kp P F S 0 (by decide)) v0B v0C (vEmb_rf _ _) 0 rfl rfl rfl rfl rfl rfl rfl (vDet_k ?_)
    show V K (cW cI cS a (E, T, Kp, P, S, fndC F 0)) 19 [(0, .ref (a 0)), (1, .int t), (2, .int p), (3, .int u), (4, .int q), (5, .int c)] [.int ((-1000001) - (nI 0))]
    refine v_top (w := .int (-1000001)) (by decide) ?_
    exact v_iret h pX3_copy_0 9 hR hret rfl ((E, T, Kp, P, S, fndC F 0)) rfl ⟨vI (by simp [c1, -Int32.not_lt]), rfl, rfl, ⟨rfl, rfl⟩, (by simp [c1, -Int32.not_lt]), (fR_of (by simp [c1, -Int32.not_lt]))⟩
  · skip
    obtain ⟨e_t, l_t⟩ := inB_t 3 rfl (by decide) c1
    refine v_iload_n h pX3_copy_0 3 rfl 3 rfl rfl ?_
    refine v_callS h pX3_copy_0 4 mX3_198 (As := [.int u]) (st := []) (kX3_isSheet _ _ cI cS u) v0B v0C (vEmb_u _) rfl rfl rfl rfl rfl (vDet_k ?_)
    show V K (cW cI cS a (E, T, Kp, P, S, F)) 11 [(0, .ref (a 0)), (1, .int t), (2, .int p), (3, .int u), (4, .int q), (5, .int c)] [.int (bI (inB u 0 3))]
    refine v_bif_ne (tgt := 20) h pX3_copy_0 5 rfl rfl (fun c2 => ?_) (fun c2 => ?_)
    · skip
      obtain ⟨e_u, l_u⟩ := inB_t 3 rfl (by decide) c2
      refine v_aload_n h pX3_copy_0 10 rfl 0 rfl rfl (v_get h pX3_copy_0 11 fX3_35 0 rfl rfl rfl (v_iload_n h pX3_copy_0 12 rfl 1 rfl rfl (v_top (w := .int (nI (ix t))) (congrArg Value.int e_t) (v_aald h pX3_copy_0 13 (ix t) 36 1 rfl rfl rfl rfl rfl (by omega) rfl (v_astore h pX3_copy_0 14 (lv' := [(6, .ref (a (37 + 2 * (ix t)))), (0, .ref (a 0)), (1, .int t), (2, .int p), (3, .int u), (4, .int q), (5, .int c)]) rfl hnL rfl rfl ?_)))))
      refine v_aload_n h pX3_copy_0 15 rfl 1 rfl rfl (v_get h pX3_copy_0 16 fX3_35 0 rfl rfl rfl (v_iload_n h pX3_copy_0 17 rfl 4 rfl rfl (v_top (w := .int (nI (ix u))) (congrArg Value.int e_u) (v_aald h pX3_copy_0 18 (ix u) 36 1 rfl rfl rfl rfl rfl (by omega) rfl (v_astore h pX3_copy_0 19 (lv' := [(7, .ref (a (37 + 2 * (ix u)))), (6, .ref (a (37 + 2 * (ix t)))), (0, .ref (a 0)), (1, .int t), (2, .int p), (3, .int u), (4, .int q), (5, .int c)]) rfl hnL rfl rfl ?_)))))
      refine v_aload h pX3_copy_0 20 rfl 1 rfl ?_
      refine v_callV h pX3_copy_0 21 mX3_201 (As := []) (st := []) (kX1_isMissing _ _ cI cS (sh a (37 + 2 * (ix t))) (S (ix t))) v0B v0C (emb_S (by omega)) (37 + 2 * (ix t)) rfl (cW_sh (by omega)) rfl rfl rfl rfl rfl (vDet_k ?_)
      show V K (cW cI cS a (E, T, Kp, P, st S (ix t) (S (ix t)), F)) 41 [(7, .ref (a (37 + 2 * (ix u)))), (6, .ref (a (37 + 2 * (ix t)))), (0, .ref (a 0)), (1, .int t), (2, .int p), (3, .int u), (4, .int q), (5, .int c)] [.int (bI (decide (S (ix t) 1 0 = 0)))]
      refine v_eqw (ws' := cW cI cS a (E, T, Kp, P, S, F)) (by rw [st_id]) ?_
      refine v_bif_ne (tgt := 52) h pX3_copy_0 22 rfl rfl (fun c3 => ?_) (fun c3 => ?_)
      · skip
        have c3m := of_decide_eq_true c3
        refine v_aload_n h pX3_copy_0 26 rfl 2 rfl rfl (v_iconst h pX3_copy_0 27 rfl ki_5 ?_)
        refine v_callV h pX3_copy_0 28 mX3_55 (As := [.int 5]) (st := []) (kX3_finding _ _ cI cS a E T Kp P F S 5 (by decide)) v0B v0C (vEmb_rf _ _) 0 rfl rfl rfl rfl rfl rfl rfl (vDet_k ?_)
        show V K (cW cI cS a (E, T, Kp, P, S, fndC F 5)) 57 [(7, .ref (a (37 + 2 * (ix u)))), (6, .ref (a (37 + 2 * (ix t)))), (0, .ref (a 0)), (1, .int t), (2, .int p), (3, .int u), (4, .int q), (5, .int c)] [.int ((-1000001) - (nI 5))]
        refine v_top (w := .int (-1000006)) (by decide) ?_
        exact v_iret h pX3_copy_0 29 hR hret rfl ((E, T, Kp, P, S, fndC F 5)) rfl ⟨vI (by simp [c1, c2, (eq_true c3m), -Int32.not_lt]), rfl, rfl, ⟨rfl, rfl⟩, (by simp [c1, c2, (eq_true c3m), -Int32.not_lt]), (fR_of (by simp [c1, c2, (eq_true c3m), -Int32.not_lt]))⟩
      · skip
        have c3m := of_decide_eq_false c3
        refine v_aload h pX3_copy_0 23 rfl 0 rfl ?_
        refine v_callV h pX3_copy_0 24 mX3_201 (As := []) (st := []) (kX1_isMissing _ _ cI cS (sh a (37 + 2 * (ix u))) (S (ix u))) v0B v0C (emb_S (by omega)) (37 + 2 * (ix u)) rfl (cW_sh (by omega)) rfl rfl rfl rfl rfl (vDet_k ?_)
        show V K (cW cI cS a (E, T, Kp, P, st S (ix u) (S (ix u)), F)) 49 [(7, .ref (a (37 + 2 * (ix u)))), (6, .ref (a (37 + 2 * (ix t)))), (0, .ref (a 0)), (1, .int t), (2, .int p), (3, .int u), (4, .int q), (5, .int c)] [.int (bI (decide (S (ix u) 1 0 = 0)))]
        refine v_eqw (ws' := cW cI cS a (E, T, Kp, P, S, F)) (by rw [st_id]) ?_
        refine v_bif_eq (tgt := 58) h pX3_copy_0 25 rfl rfl (fun c4 => ?_) (fun c4 => ?_)
        · skip
          have c4m := of_decide_eq_false c4
          refine v_aload h pX3_copy_0 30 rfl 1 rfl (v_get h pX3_copy_0 31 fX3_237 (37 + 2 * (ix t)) rfl (cW_sh (by omega)) rfl (v_aload h pX3_copy_1 0 rfl 0 rfl (v_get h pX3_copy_1 1 fX3_237 (37 + 2 * (ix u)) rfl (cW_sh (by omega)) rfl ?_)))
          refine v_icmp_eq (tgt := 77) h pX3_copy_1 2 rfl rfl (fun c5 => ?_) (fun c5 => ?_)
          · skip
            refine v_aload h pX3_copy_1 7 rfl 1 rfl (v_iload_n h pX3_copy_1 8 rfl 4 rfl rfl (v_iload h pX3_copy_1 9 rfl 7 rfl ?_))
            refine v_callV h pX3_copy_1 10 mX3_240 (As := [.int p, .int c]) (st := []) (kX1_hasNumbers _ _ cI cS (sh a (37 + 2 * (ix t))) (S (ix t)) p c) v0B v0C (emb_S (by omega)) (37 + 2 * (ix t)) rfl (cW_sh (by omega)) rfl rfl rfl rfl rfl (vDet_k ?_)
            show V K (cW cI cS a (E, T, Kp, P, st S (ix t) (S (ix t)), F)) 85 [(7, .ref (a (37 + 2 * (ix u)))), (6, .ref (a (37 + 2 * (ix t)))), (0, .ref (a 0)), (1, .int t), (2, .int p), (3, .int u), (4, .int q), (5, .int c)] [.int (bI (hasB (S (ix t) 1 1) p c))]
            refine v_eqw (ws' := cW cI cS a (E, T, Kp, P, S, F)) (by rw [st_id]) ?_
            refine v_bif_eq (tgt := 100) h pX3_copy_1 11 rfl rfl (fun c6 => ?_) (fun c6 => ?_)
            · skip
              refine v_aload_n h pX3_copy_1 17 rfl 2 rfl rfl (v_iconst h pX3_copy_1 18 rfl ki_0 ?_)
              refine v_callV h pX3_copy_1 19 mX3_55 (As := [.int 0]) (st := []) (kX3_finding _ _ cI cS a E T Kp P F S 0 (by decide)) v0B v0C (vEmb_rf _ _) 0 rfl rfl rfl rfl rfl rfl rfl (vDet_k ?_)
              show V K (cW cI cS a (E, T, Kp, P, S, fndC F 0)) 105 [(7, .ref (a (37 + 2 * (ix u)))), (6, .ref (a (37 + 2 * (ix t)))), (0, .ref (a 0)), (1, .int t), (2, .int p), (3, .int u), (4, .int q), (5, .int c)] [.int ((-1000001) - (nI 0))]
              refine v_top (w := .int (-1000001)) (by decide) ?_
              exact v_iret h pX3_copy_1 20 hR hret rfl ((E, T, Kp, P, S, fndC F 0)) rfl ⟨vI (by simp [c1, c2, c3m, c4m, (eq_true c5), c6, -Int32.not_lt]), rfl, rfl, ⟨rfl, rfl⟩, (by simp [c1, c2, c3m, c4m, (eq_true c5), c6, -Int32.not_lt]), (fR_of (by simp [c1, c2, c3m, c4m, (eq_true c5), c6, -Int32.not_lt]))⟩
            · skip
              refine v_aload h pX3_copy_1 12 rfl 0 rfl (v_iload h pX3_copy_1 13 rfl 6 rfl (v_iload h pX3_copy_1 14 rfl 7 rfl ?_))
              refine v_callV h pX3_copy_1 15 mX3_240 (As := [.int q, .int c]) (st := []) (kX1_hasNumbers _ _ cI cS (sh a (37 + 2 * (ix u))) (S (ix u)) q c) v0B v0C (emb_S (by omega)) (37 + 2 * (ix u)) rfl (cW_sh (by omega)) rfl rfl rfl rfl rfl (vDet_k ?_)
              show V K (cW cI cS a (E, T, Kp, P, st S (ix u) (S (ix u)), F)) 97 [(7, .ref (a (37 + 2 * (ix u)))), (6, .ref (a (37 + 2 * (ix t)))), (0, .ref (a 0)), (1, .int t), (2, .int p), (3, .int u), (4, .int q), (5, .int c)] [.int (bI (hasB (S (ix u) 1 1) q c))]
              refine v_eqw (ws' := cW cI cS a (E, T, Kp, P, S, F)) (by rw [st_id]) ?_
              refine v_bif_ne (tgt := 106) h pX3_copy_1 16 rfl rfl (fun c7 => ?_) (fun c7 => ?_)
              · skip
                obtain ⟨e_p, e_c, l_p⟩ := has_t (hS (ix t) (by omega)) c6
                obtain ⟨e_q, -, l_q⟩ := has_t (hS (ix u) (by omega)) c7
                have hst := hS.sizeL (t := ix t) (by omega)
                have hsu := hS.sizeL (t := ix u) (by omega)
                refine v_aload h pX3_copy_1 21 rfl 1 rfl (v_get h pX3_copy_1 22 fX3_207 (37 + 2 * (ix t)) rfl (cW_sh (by omega)) rfl (v_iload_n h pX3_copy_1 23 rfl 4 rfl rfl (v_top (w := .int (nI (ix p))) (congrArg Value.int e_p) (v_aload h pX3_copy_1 24 rfl 0 rfl (v_get h pX3_copy_1 25 fX3_207 (37 + 2 * (ix u)) rfl (cW_sh (by omega)) rfl ?_)))))
                refine v_iload h pX3_copy_1 26 rfl 6 rfl (v_top (w := .int (nI (ix q))) (congrArg Value.int e_q) (v_iload h pX3_copy_1 27 rfl 7 rfl (v_top (w := .int (nI (ix c))) (congrArg Value.int e_c) (v_copyR h pX3_copy_1 28 wm_933 wm_372 wm_373 wm_374 (38 + 2 * ix t) (38 + 2 * ix u) (ix p) (ix q) (ix c) _ rfl rfl (ws' := cW cI cS a (E, T, Kp, P, cpyS S (ix t) (ix p) (ix u) (ix q) (ix c), F)) (cW_sn2 (by omega)) (cW_sn2 (by omega)) rfl rfl rfl (by omega) (by omega) rfl rfl (fun _ _ => rfl) (cW_sw2 (by omega)) rfl (by decide +kernel) (v_iload h pX3_copy_1 29 rfl 7 rfl ?_)))))
                exact v_iret h pX3_copy_1 30 hR hret rfl ((E, T, Kp, P, cpyS S (ix t) (ix p) (ix u) (ix q) (ix c), F)) rfl ⟨vI (by simp [c1, c2, c3m, c4m, (eq_true c5), c6, c7, -Int32.not_lt]), rfl, rfl, ⟨rfl, rfl⟩, (by simp [c1, c2, c3m, c4m, (eq_true c5), c6, c7, -Int32.not_lt]), (fR_of (by simp [c1, c2, c3m, c4m, (eq_true c5), c6, c7, -Int32.not_lt]))⟩
              · skip
                refine v_aload_n h pX3_copy_1 17 rfl 2 rfl rfl (v_iconst h pX3_copy_1 18 rfl ki_0 ?_)
                refine v_callV h pX3_copy_1 19 mX3_55 (As := [.int 0]) (st := []) (kX3_finding _ _ cI cS a E T Kp P F S 0 (by decide)) v0B v0C (vEmb_rf _ _) 0 rfl rfl rfl rfl rfl rfl rfl (vDet_k ?_)
                show V K (cW cI cS a (E, T, Kp, P, S, fndC F 0)) 105 [(7, .ref (a (37 + 2 * (ix u)))), (6, .ref (a (37 + 2 * (ix t)))), (0, .ref (a 0)), (1, .int t), (2, .int p), (3, .int u), (4, .int q), (5, .int c)] [.int ((-1000001) - (nI 0))]
                refine v_top (w := .int (-1000001)) (by decide) ?_
                exact v_iret h pX3_copy_1 20 hR hret rfl ((E, T, Kp, P, S, fndC F 0)) rfl ⟨vI (by simp [c1, c2, c3m, c4m, (eq_true c5), c6, c7, -Int32.not_lt]), rfl, rfl, ⟨rfl, rfl⟩, (by simp [c1, c2, c3m, c4m, (eq_true c5), c6, c7, -Int32.not_lt]), (fR_of (by simp [c1, c2, c3m, c4m, (eq_true c5), c6, c7, -Int32.not_lt]))⟩
          · skip
            refine v_aload_n h pX3_copy_1 3 rfl 2 rfl rfl (v_iconst h pX3_copy_1 4 rfl ki_2 ?_)
            refine v_callV h pX3_copy_1 5 mX3_55 (As := [.int 2]) (st := []) (kX3_finding _ _ cI cS a E T Kp P F S 2 (by decide)) v0B v0C (vEmb_rf _ _) 0 rfl rfl rfl rfl rfl rfl rfl (vDet_k ?_)
            show V K (cW cI cS a (E, T, Kp, P, S, fndC F 2)) 76 [(7, .ref (a (37 + 2 * (ix u)))), (6, .ref (a (37 + 2 * (ix t)))), (0, .ref (a 0)), (1, .int t), (2, .int p), (3, .int u), (4, .int q), (5, .int c)] [.int ((-1000001) - (nI 2))]
            refine v_top (w := .int (-1000003)) (by decide) ?_
            exact v_iret h pX3_copy_1 6 hR hret rfl ((E, T, Kp, P, S, fndC F 2)) rfl ⟨vI (by simp [c1, c2, c3m, c4m, c5, -Int32.not_lt]), rfl, rfl, ⟨rfl, rfl⟩, (by simp [c1, c2, c3m, c4m, c5, -Int32.not_lt]), (fR_of (by simp [c1, c2, c3m, c4m, c5, -Int32.not_lt]))⟩
        · skip
          have c4m := of_decide_eq_true c4
          refine v_aload_n h pX3_copy_0 26 rfl 2 rfl rfl (v_iconst h pX3_copy_0 27 rfl ki_5 ?_)
          refine v_callV h pX3_copy_0 28 mX3_55 (As := [.int 5]) (st := []) (kX3_finding _ _ cI cS a E T Kp P F S 5 (by decide)) v0B v0C (vEmb_rf _ _) 0 rfl rfl rfl rfl rfl rfl rfl (vDet_k ?_)
          show V K (cW cI cS a (E, T, Kp, P, S, fndC F 5)) 57 [(7, .ref (a (37 + 2 * (ix u)))), (6, .ref (a (37 + 2 * (ix t)))), (0, .ref (a 0)), (1, .int t), (2, .int p), (3, .int u), (4, .int q), (5, .int c)] [.int ((-1000001) - (nI 5))]
          refine v_top (w := .int (-1000006)) (by decide) ?_
          exact v_iret h pX3_copy_0 29 hR hret rfl ((E, T, Kp, P, S, fndC F 5)) rfl ⟨vI (by simp [c1, c2, c3m, (eq_true c4m), -Int32.not_lt]), rfl, rfl, ⟨rfl, rfl⟩, (by simp [c1, c2, c3m, (eq_true c4m), -Int32.not_lt]), (fR_of (by simp [c1, c2, c3m, (eq_true c4m), -Int32.not_lt]))⟩
    · skip
      refine v_aload_n h pX3_copy_0 6 rfl 0 rfl rfl (v_iconst h pX3_copy_0 7 rfl ki_0 ?_)
      refine v_callV h pX3_copy_0 8 mX3_55 (As := [.int 0]) (st := []) (kX3_finding _ _ cI cS a E T Kp P F S 0 (by decide)) v0B v0C (vEmb_rf _ _) 0 rfl rfl rfl rfl rfl rfl rfl (vDet_k ?_)
      show V K (cW cI cS a (E, T, Kp, P, S, fndC F 0)) 19 [(0, .ref (a 0)), (1, .int t), (2, .int p), (3, .int u), (4, .int q), (5, .int c)] [.int ((-1000001) - (nI 0))]
      refine v_top (w := .int (-1000001)) (by decide) ?_
      exact v_iret h pX3_copy_0 9 hR hret rfl ((E, T, Kp, P, S, fndC F 0)) rfl ⟨vI (by simp [c1, c2, -Int32.not_lt]), rfl, rfl, ⟨rfl, rfl⟩, (by simp [c1, c2, -Int32.not_lt]), (fR_of (by simp [c1, c2, -Int32.not_lt]))⟩
set_option maxHeartbeats 300000 in
set_option maxRecDepth 100000 in
theorem kX3_load (l : Launch) (D : va_G) (cI cS : ClassId) (a : Nat → Nat) (E T Kp P F : Nat → Nat → Int32) (S : Nat → Nat → Nat → Int32) (n : Nat) (hW : Wf E n) (hZ : E 9 4 = 0) (hS : WfS S) (t : Int32) : vMet l D (vT cI cS) yX3_load cX3_load 4 (some .int) 2 41 (cW cI cS a) v0 [.ref (a 0), .int t] (E, T, Kp, P, S, F) (cPost (some (.int (if inB t 0 3 = true then (if S (ix t) 1 0 = 0 then (-1000006) else (nI (fstN (fun j => !(decide (j < ix (S (ix t) 1 1)) && inB (S (ix t) 0 j) 0 999)) 6))) else (-1000001)))) (if inB t 0 3 = true then (if S (ix t) 1 0 = 0 then E else (ldE E (S (ix t) 0) (fstN (fun j => !(decide (j < ix (S (ix t) 1 1)) && inB (S (ix t) 0 j) 0 999)) 6))) else E) (Kp) (P) (S) (if inB t 0 3 = true then (if S (ix t) 1 0 = 0 then fndC F 5 else (F)) else fndC F 0)) := by
  refine vMet_of (by decide) rfl ?_
  intro K hl hD hnL hret h hR hEx
  subst hl hD
  show V K (cW cI cS a (E, T, Kp, P, S, F)) 0 [(0, .ref (a 0)), (1, .int t)] []
  have hn8 := hW.1
  refine v_iload_n h pX3_load_0 0 rfl 1 rfl rfl ?_
  refine v_callS h pX3_load_0 1 mX3_198 (As := [.int t]) (st := []) (kX3_isSheet _ _ cI cS t) v0B v0C (vEmb_u _) rfl rfl rfl rfl rfl (vDet_k ?_)
  show V K (cW cI cS a (E, T, Kp, P, S, F)) 4 [(0, .ref (a 0)), (1, .int t)] [.int (bI (inB t 0 3))]
  refine v_bif_ne (tgt := 13) h pX3_load_0 2 rfl rfl (fun c1 => ?_) (fun c1 => ?_)
  · skip
    obtain ⟨e_t, l_t⟩ := inB_t 3 rfl (by decide) c1
    refine v_aload_n h pX3_load_0 7 rfl 0 rfl rfl (v_get h pX3_load_0 8 fX3_35 0 rfl rfl rfl (v_iload_n h pX3_load_0 9 rfl 1 rfl rfl (v_top (w := .int (nI (ix t))) (congrArg Value.int e_t) (v_aald h pX3_load_0 10 (ix t) 36 1 rfl rfl rfl rfl rfl (by omega) rfl ?_))))
    refine v_callV h pX3_load_0 11 mX3_201 (As := []) (st := []) (kX1_isMissing _ _ cI cS (sh a (37 + 2 * (ix t))) (S (ix t))) v0B v0C (emb_S (by omega)) (37 + 2 * (ix t)) rfl (cW_sh (by omega)) rfl rfl rfl rfl rfl (vDet_k ?_)
    show V K (cW cI cS a (E, T, Kp, P, st S (ix t) (S (ix t)), F)) 22 [(0, .ref (a 0)), (1, .int t)] [.int (bI (decide (S (ix t) 1 0 = 0)))]
    refine v_eqw (ws' := cW cI cS a (E, T, Kp, P, S, F)) (by rw [st_id]) ?_
    refine v_bif_eq (tgt := 31) h pX3_load_0 12 rfl rfl (fun c2 => ?_) (fun c2 => ?_)
    · skip
      have c2m := of_decide_eq_false c2
      have hsz := hS.sizeL (t := ix t) (by omega)
      refine v_bipush h pX3_load_0 17 rfl kb_6 (v_aload_n h pX3_load_0 18 rfl 0 rfl rfl (v_get h pX3_load_0 19 fX3_35 0 rfl rfl rfl (v_iload_n h pX3_load_0 20 rfl 1 rfl rfl (v_top (w := .int (nI (ix t))) (congrArg Value.int e_t) (v_aald h pX3_load_0 21 (ix t) 36 1 rfl rfl rfl rfl rfl (by omega) rfl ?_)))))
      refine v_get h pX3_load_0 22 fX3_204 (37 + 2 * (ix t)) rfl (cW_sh (by omega)) rfl (v_top (w := .int (nI (ix (S (ix t) 1 1)))) (congrArg Value.int (hS.size (by omega))) (v_mmin2 h pX3_load_0 23 wm_946 wm_193 wm_194 wm_195 rfl rfl rfl ?_))
      refine v_top (w := .int (nI (min 6 (ix (S (ix t) 1 1))))) (congrArg Value.int (mn_nI (a := 6) (by omega) (by omega))) (v_istore_n h pX3_load_0 24 (lv' := [(2, .int (nI (min 6 (ix (S (ix t) 1 1))))), (0, .ref (a 0)), (1, .int t)]) rfl rfl hnL rfl rfl (v_iconst h pX3_load_0 25 rfl ki_0 (v_istore_n h pX3_load_0 26 (lv' := [(3, .int 0), (2, .int (nI (min 6 (ix (S (ix t) 1 1))))), (0, .ref (a 0)), (1, .int t)]) rfl rfl hnL rfl rfl ?_)))
      refine v_lv [2, 3, 1, 0] (lv' := [(0, .ref (a 0)), (1, .int t), (2, .int (nI (min 6 (ix (S (ix t) 1 1))))), (3, .int 0)]) rfl ?_
      have LA : ∀ (m iA : Nat), iA ≤ (min 6 (ix (S (ix t) 1 1))) → (∀ j, j < iA → (fun j => !(decide (j < ix (S (ix t) 1 1)) && inB (S (ix t) 0 j) 0 999)) j = false) → (min 6 (ix (S (ix t) 1 1))) + 1 ≤ iA + m → V K (cW cI cS a (ldE E (S (ix t) 0) iA, T, Kp, P, S, F)) 48 [(0, .ref (a 0)), (1, .int t), (2, .int (nI (min 6 (ix (S (ix t) 1 1))))), (3, .int (nI iA))] [] := by
        intro m
        induction m with
        | zero => exact fun iA h1 hh h2 => absurd h2 (by omega)
        | succ m ihA =>
          intro iA hleA hhA hltA
          generalize hSA : ldE E (S (ix t) 0) iA = SA
          refine v_iload_n h pX3_load_0 27 rfl 3 rfl rfl (v_iload_n h pX3_load_0 28 rfl 2 rfl rfl ?_)
          refine v_ncmp_ge (a := iA) (b := min 6 (ix (S (ix t) 1 1))) (tgt := 99) h pX3_load_0 29 rfl rfl (by omega) (by omega) (fun c5 => ?_) (fun c5 => ?_)
          · skip
            refine v_iload_n h pX3_load_1 22 rfl 3 rfl rfl ?_
            exact v_iret h pX3_load_1 23 hR hret rfl ((SA, T, Kp, P, S, F)) rfl ⟨vI (by first | (simp [c1, c2m, c5, -Int32.not_lt]; done) | (rcases Nat.lt_or_ge iA 6 with z | z <;> first | (have e1 : fstN (fun j => !(decide (j < ix (S (ix t) 1 1)) && inB (S (ix t) 0 j) 0 999)) 6 = iA := fstN_eq hhA (by first | (simp [c1, c2m, c5]; done) | (have q : ¬ iA < ix (S (ix t) 1 1) := (by omega); simp [q])) (by omega); simp only [c1, c2m, c5, if_true, if_false]; rw [e1]; try (first | rfl | (simp [hSA]; done))) | (have e0 : iA = 6 := (by omega); subst e0; have e1 : fstN (fun j => !(decide (j < ix (S (ix t) 1 1)) && inB (S (ix t) 0 j) 0 999)) 6 = 6 := fstN_no hhA; simp only [c1, c2m, c5, if_true, if_false]; rw [e1]; try (first | rfl | (simp [hSA]; done))))), (by first | (simp [c1, c2m, c5, -Int32.not_lt]; done) | (rcases Nat.lt_or_ge iA 6 with z | z <;> first | (have e1 : fstN (fun j => !(decide (j < ix (S (ix t) 1 1)) && inB (S (ix t) 0 j) 0 999)) 6 = iA := fstN_eq hhA (by first | (simp [c1, c2m, c5]; done) | (have q : ¬ iA < ix (S (ix t) 1 1) := (by omega); simp [q])) (by omega); simp only [c1, c2m, c5, if_true, if_false]; rw [e1]; try (first | rfl | (simp [hSA]; done))) | (have e0 : iA = 6 := (by omega); subst e0; have e1 : fstN (fun j => !(decide (j < ix (S (ix t) 1 1)) && inB (S (ix t) 0 j) 0 999)) 6 = 6 := fstN_no hhA; simp only [c1, c2m, c5, if_true, if_false]; rw [e1]; try (first | rfl | (simp [hSA]; done))))), rfl, ⟨rfl, rfl⟩, rfl, (fR_of (by first | (simp [c1, c2m, c5, -Int32.not_lt]; done) | (rcases Nat.lt_or_ge iA 6 with z | z <;> first | (have e1 : fstN (fun j => !(decide (j < ix (S (ix t) 1 1)) && inB (S (ix t) 0 j) 0 999)) 6 = iA := fstN_eq hhA (by first | (simp [c1, c2m, c5]; done) | (have q : ¬ iA < ix (S (ix t) 1 1) := (by omega); simp [q])) (by omega); simp only [c1, c2m, c5, if_true, if_false]; rw [e1]; try (first | rfl | (simp [hSA]; done))) | (have e0 : iA = 6 := (by omega); subst e0; have e1 : fstN (fun j => !(decide (j < ix (S (ix t) 1 1)) && inB (S (ix t) 0 j) 0 999)) 6 = 6 := fstN_no hhA; simp only [c1, c2m, c5, if_true, if_false]; rw [e1]; try (first | rfl | (simp [hSA]; done))))))⟩
          · skip
            refine v_aload_n h pX3_load_0 30 rfl 0 rfl rfl (v_get h pX3_load_0 31 fX3_35 0 rfl rfl rfl (v_iload_n h pX3_load_1 0 rfl 1 rfl rfl (v_top (w := .int (nI (ix t))) (congrArg Value.int e_t) (v_aald h pX3_load_1 1 (ix t) 36 1 rfl rfl rfl rfl rfl (by omega) rfl (v_get h pX3_load_1 2 fX3_207 (37 + 2 * (ix t)) rfl (cW_sh (by omega)) rfl ?_)))))
            refine v_iload_n h pX3_load_1 3 rfl 3 rfl rfl (v_iald h pX3_load_1 4 iA (38 + 2 * (ix t)) 0 rfl (cW_sn2 (by omega)) rfl rfl rfl (by omega) (v_sipush h pX3_load_1 5 rfl ks_999 ?_))
            refine v_callS h pX3_load_1 6 mX3_51 (As := [.int (S (ix t) 0 iA), .int 999]) (st := []) (kX3_isWithin _ _ cI cS (S (ix t) 0 iA) 999) v0B v0C (vEmb_u _) rfl rfl rfl rfl rfl (vDet_k ?_)
            show V K (cW cI cS a (SA, T, Kp, P, S, F)) 70 [(0, .ref (a 0)), (1, .int t), (2, .int (nI (min 6 (ix (S (ix t) 1 1))))), (3, .int (nI iA))] [.int (bI (inB (S (ix t) 0 iA) 0 999))]
            refine v_bif_eq (tgt := 99) h pX3_load_1 7 rfl rfl (fun c6 => ?_) (fun c6 => ?_)
            · skip
              refine v_iload_n h pX3_load_1 22 rfl 3 rfl rfl ?_
              exact v_iret h pX3_load_1 23 hR hret rfl ((SA, T, Kp, P, S, F)) rfl ⟨vI (by first | (simp [c1, c2m, c5, c6, -Int32.not_lt]; done) | (rcases Nat.lt_or_ge iA 6 with z | z <;> first | (have e1 : fstN (fun j => !(decide (j < ix (S (ix t) 1 1)) && inB (S (ix t) 0 j) 0 999)) 6 = iA := fstN_eq hhA (by first | (simp [c1, c2m, c5, c6]; done) | (have q : ¬ iA < ix (S (ix t) 1 1) := (by omega); simp [q])) (by omega); simp only [c1, c2m, c5, c6, if_true, if_false]; rw [e1]; try (first | rfl | (simp [hSA]; done))) | (have e0 : iA = 6 := (by omega); subst e0; have e1 : fstN (fun j => !(decide (j < ix (S (ix t) 1 1)) && inB (S (ix t) 0 j) 0 999)) 6 = 6 := fstN_no hhA; simp only [c1, c2m, c5, c6, if_true, if_false]; rw [e1]; try (first | rfl | (simp [hSA]; done))))), (by first | (simp [c1, c2m, c5, c6, -Int32.not_lt]; done) | (rcases Nat.lt_or_ge iA 6 with z | z <;> first | (have e1 : fstN (fun j => !(decide (j < ix (S (ix t) 1 1)) && inB (S (ix t) 0 j) 0 999)) 6 = iA := fstN_eq hhA (by first | (simp [c1, c2m, c5, c6]; done) | (have q : ¬ iA < ix (S (ix t) 1 1) := (by omega); simp [q])) (by omega); simp only [c1, c2m, c5, c6, if_true, if_false]; rw [e1]; try (first | rfl | (simp [hSA]; done))) | (have e0 : iA = 6 := (by omega); subst e0; have e1 : fstN (fun j => !(decide (j < ix (S (ix t) 1 1)) && inB (S (ix t) 0 j) 0 999)) 6 = 6 := fstN_no hhA; simp only [c1, c2m, c5, c6, if_true, if_false]; rw [e1]; try (first | rfl | (simp [hSA]; done))))), rfl, ⟨rfl, rfl⟩, rfl, (fR_of (by first | (simp [c1, c2m, c5, c6, -Int32.not_lt]; done) | (rcases Nat.lt_or_ge iA 6 with z | z <;> first | (have e1 : fstN (fun j => !(decide (j < ix (S (ix t) 1 1)) && inB (S (ix t) 0 j) 0 999)) 6 = iA := fstN_eq hhA (by first | (simp [c1, c2m, c5, c6]; done) | (have q : ¬ iA < ix (S (ix t) 1 1) := (by omega); simp [q])) (by omega); simp only [c1, c2m, c5, c6, if_true, if_false]; rw [e1]; try (first | rfl | (simp [hSA]; done))) | (have e0 : iA = 6 := (by omega); subst e0; have e1 : fstN (fun j => !(decide (j < ix (S (ix t) 1 1)) && inB (S (ix t) 0 j) 0 999)) 6 = 6 := fstN_no hhA; simp only [c1, c2m, c5, c6, if_true, if_false]; rw [e1]; try (first | rfl | (simp [hSA]; done))))))⟩
            · skip
              refine v_aload_n h pX3_load_1 8 rfl 0 rfl rfl (v_get h pX3_load_1 9 fX3_10 0 rfl rfl rfl (v_get h pX3_load_1 10 fX3_59 1 rfl rfl rfl (v_iload_n h pX3_load_1 11 rfl 3 rfl rfl (v_aload_n h pX3_load_1 12 rfl 0 rfl rfl (v_get h pX3_load_1 13 fX3_35 0 rfl rfl rfl ?_)))))
              refine v_iload_n h pX3_load_1 14 rfl 1 rfl rfl (v_top (w := .int (nI (ix t))) (congrArg Value.int e_t) (v_aald h pX3_load_1 15 (ix t) 36 1 rfl rfl rfl rfl rfl (by omega) rfl (v_get h pX3_load_1 16 fX3_207 (37 + 2 * (ix t)) rfl (cW_sh (by omega)) rfl (v_iload_n h pX3_load_1 17 rfl 3 rfl rfl (v_iald h pX3_load_1 18 iA (38 + 2 * (ix t)) 0 rfl (cW_sn2 (by omega)) rfl rfl rfl (by omega) ?_)))))
              refine v_iast h pX3_load_1 19 iA 2 0 (ws' := cW cI cS a (up SA 0 iA (S (ix t) 0 iA), T, Kp, P, S, F)) rfl rfl rfl rfl rfl (by omega) cW_Es0 (v_iinc h pX3_load_1 20 (v := nI (iA + 1)) (lv' := [(3, .int (nI (iA + 1))), (0, .ref (a 0)), (1, .int t), (2, .int (nI (min 6 (ix (S (ix t) 1 1)))))]) rfl 3 rfl hnL rfl rfl (nI_1 iA) (v_goto (tgt := 48) h pX3_load_1 21 rfl rfl (v_lv [1, 2, 3, 0] (lv' := [(0, .ref (a 0)), (1, .int t), (2, .int (nI (min 6 (ix (S (ix t) 1 1))))), (3, .int (nI (iA + 1)))]) rfl (v_eqw (ws' := cW cI cS a (ldE E (S (ix t) 0) (iA + 1), T, Kp, P, S, F)) (by rw [ldE, hSA]) ?_))))
              exact ihA (iA + 1) (by omega) (fun j hj => (Nat.lt_succ_iff_lt_or_eq.mp hj).elim (hhA j) (fun e => by have q : iA < ix (S (ix t) 1 1) := (by omega); rw [e]; simp [q, c1, c2m, c6, -Int32.not_lt])) (by omega)
      exact LA ((min 6 (ix (S (ix t) 1 1))) + 1) 0 (by omega) (fun j hj => absurd hj (by omega)) (by omega)
    · skip
      have c2m := of_decide_eq_true c2
      refine v_aload_n h pX3_load_0 13 rfl 0 rfl rfl (v_iconst h pX3_load_0 14 rfl ki_5 ?_)
      refine v_callV h pX3_load_0 15 mX3_55 (As := [.int 5]) (st := []) (kX3_finding _ _ cI cS a E T Kp P F S 5 (by decide)) v0B v0C (vEmb_rf _ _) 0 rfl rfl rfl rfl rfl rfl rfl (vDet_k ?_)
      show V K (cW cI cS a (E, T, Kp, P, S, fndC F 5)) 30 [(0, .ref (a 0)), (1, .int t)] [.int ((-1000001) - (nI 5))]
      refine v_top (w := .int (-1000006)) (by decide) ?_
      exact v_iret h pX3_load_0 16 hR hret rfl ((E, T, Kp, P, S, fndC F 5)) rfl ⟨vI (by first | (simp [c1, (eq_true c2m), -Int32.not_lt]; done) | (rcases Nat.lt_or_ge iA 6 with z | z <;> first | (have e1 : fstN (fun j => !(decide (j < ix (S (ix t) 1 1)) && inB (S (ix t) 0 j) 0 999)) 6 = iA := fstN_eq hhA (by first | (simp [c1, (eq_true c2m)]; done) | (have q : ¬ iA < ix (S (ix t) 1 1) := (by omega); simp [q])) (by omega); simp only [c1, (eq_true c2m), if_true, if_false]; rw [e1]; try (first | rfl | (simp [True]; done))) | (have e0 : iA = 6 := (by omega); subst e0; have e1 : fstN (fun j => !(decide (j < ix (S (ix t) 1 1)) && inB (S (ix t) 0 j) 0 999)) 6 = 6 := fstN_no hhA; simp only [c1, (eq_true c2m), if_true, if_false]; rw [e1]; try (first | rfl | (simp [True]; done))))), (by first | (simp [c1, (eq_true c2m), -Int32.not_lt]; done) | (rcases Nat.lt_or_ge iA 6 with z | z <;> first | (have e1 : fstN (fun j => !(decide (j < ix (S (ix t) 1 1)) && inB (S (ix t) 0 j) 0 999)) 6 = iA := fstN_eq hhA (by first | (simp [c1, (eq_true c2m)]; done) | (have q : ¬ iA < ix (S (ix t) 1 1) := (by omega); simp [q])) (by omega); simp only [c1, (eq_true c2m), if_true, if_false]; rw [e1]; try (first | rfl | (simp [True]; done))) | (have e0 : iA = 6 := (by omega); subst e0; have e1 : fstN (fun j => !(decide (j < ix (S (ix t) 1 1)) && inB (S (ix t) 0 j) 0 999)) 6 = 6 := fstN_no hhA; simp only [c1, (eq_true c2m), if_true, if_false]; rw [e1]; try (first | rfl | (simp [True]; done))))), rfl, ⟨rfl, rfl⟩, rfl, (fR_of (by first | (simp [c1, (eq_true c2m), -Int32.not_lt]; done) | (rcases Nat.lt_or_ge iA 6 with z | z <;> first | (have e1 : fstN (fun j => !(decide (j < ix (S (ix t) 1 1)) && inB (S (ix t) 0 j) 0 999)) 6 = iA := fstN_eq hhA (by first | (simp [c1, (eq_true c2m)]; done) | (have q : ¬ iA < ix (S (ix t) 1 1) := (by omega); simp [q])) (by omega); simp only [c1, (eq_true c2m), if_true, if_false]; rw [e1]; try (first | rfl | (simp [True]; done))) | (have e0 : iA = 6 := (by omega); subst e0; have e1 : fstN (fun j => !(decide (j < ix (S (ix t) 1 1)) && inB (S (ix t) 0 j) 0 999)) 6 = 6 := fstN_no hhA; simp only [c1, (eq_true c2m), if_true, if_false]; rw [e1]; try (first | rfl | (simp [True]; done))))))⟩
  · skip
    refine v_aload_n h pX3_load_0 3 rfl 0 rfl rfl (v_iconst h pX3_load_0 4 rfl ki_0 ?_)
    refine v_callV h pX3_load_0 5 mX3_55 (As := [.int 0]) (st := []) (kX3_finding _ _ cI cS a E T Kp P F S 0 (by decide)) v0B v0C (vEmb_rf _ _) 0 rfl rfl rfl rfl rfl rfl rfl (vDet_k ?_)
    show V K (cW cI cS a (E, T, Kp, P, S, fndC F 0)) 12 [(0, .ref (a 0)), (1, .int t)] [.int ((-1000001) - (nI 0))]
    refine v_top (w := .int (-1000001)) (by decide) ?_
    exact v_iret h pX3_load_0 6 hR hret rfl ((E, T, Kp, P, S, fndC F 0)) rfl ⟨vI (by first | (simp [c1, -Int32.not_lt]; done) | (rcases Nat.lt_or_ge iA 6 with z | z <;> first | (have e1 : fstN (fun j => !(decide (j < ix (S (ix t) 1 1)) && inB (S (ix t) 0 j) 0 999)) 6 = iA := fstN_eq hhA (by first | (simp [c1]; done) | (have q : ¬ iA < ix (S (ix t) 1 1) := (by omega); simp [q])) (by omega); simp only [c1, if_true, if_false]; rw [e1]; try (first | rfl | (simp [True]; done))) | (have e0 : iA = 6 := (by omega); subst e0; have e1 : fstN (fun j => !(decide (j < ix (S (ix t) 1 1)) && inB (S (ix t) 0 j) 0 999)) 6 = 6 := fstN_no hhA; simp only [c1, if_true, if_false]; rw [e1]; try (first | rfl | (simp [True]; done))))), (by first | (simp [c1, -Int32.not_lt]; done) | (rcases Nat.lt_or_ge iA 6 with z | z <;> first | (have e1 : fstN (fun j => !(decide (j < ix (S (ix t) 1 1)) && inB (S (ix t) 0 j) 0 999)) 6 = iA := fstN_eq hhA (by first | (simp [c1]; done) | (have q : ¬ iA < ix (S (ix t) 1 1) := (by omega); simp [q])) (by omega); simp only [c1, if_true, if_false]; rw [e1]; try (first | rfl | (simp [True]; done))) | (have e0 : iA = 6 := (by omega); subst e0; have e1 : fstN (fun j => !(decide (j < ix (S (ix t) 1 1)) && inB (S (ix t) 0 j) 0 999)) 6 = 6 := fstN_no hhA; simp only [c1, if_true, if_false]; rw [e1]; try (first | rfl | (simp [True]; done))))), rfl, ⟨rfl, rfl⟩, rfl, (fR_of (by first | (simp [c1, -Int32.not_lt]; done) | (rcases Nat.lt_or_ge iA 6 with z | z <;> first | (have e1 : fstN (fun j => !(decide (j < ix (S (ix t) 1 1)) && inB (S (ix t) 0 j) 0 999)) 6 = iA := fstN_eq hhA (by first | (simp [c1]; done) | (have q : ¬ iA < ix (S (ix t) 1 1) := (by omega); simp [q])) (by omega); simp only [c1, if_true, if_false]; rw [e1]; try (first | rfl | (simp [True]; done))) | (have e0 : iA = 6 := (by omega); subst e0; have e1 : fstN (fun j => !(decide (j < ix (S (ix t) 1 1)) && inB (S (ix t) 0 j) 0 999)) 6 = 6 := fstN_no hhA; simp only [c1, if_true, if_false]; rw [e1]; try (first | rfl | (simp [True]; done))))))⟩
set_option maxHeartbeats 300000 in
set_option maxRecDepth 100000 in
theorem kX3_judge (l : Launch) (D : va_G) (cI cS : ClassId) (a : Nat → Nat) (E T Kp P F : Nat → Nat → Int32) (S : Nat → Nat → Nat → Int32) (n : Nat) (hW : Wf E n) (hZ : E 9 4 = 0) (hS : WfS S) (t : Int32) : vMet l D (vT cI cS) yX3_judge cX3_judge 3 (some .int) 2 42 (cW cI cS a) v0 [.ref (a 0), .int t] (E, T, Kp, P, S, F) (cPost (some (.int (if inB t 0 3 = true then (if S (ix t) 1 0 = 0 then (-1000006) else (if fstN (fun j => !(decide (j < n) && decide (S (ix t) 0 j = E 5 j))) (ix (S (ix t) 1 1)) < ix (S (ix t) 1 1) then nI (1 + fstN (fun j => !(decide (j < n) && decide (S (ix t) 0 j = E 5 j))) (ix (S (ix t) 1 1))) else 0)) else (-1000001)))) (E) (Kp) (P) (S) (if inB t 0 3 = true then (if S (ix t) 1 0 = 0 then fndC F 5 else (F)) else fndC F 0)) := by
  refine vMet_of (by decide) rfl ?_
  intro K hl hD hnL hret h hR hEx
  subst hl hD
  show V K (cW cI cS a (E, T, Kp, P, S, F)) 0 [(0, .ref (a 0)), (1, .int t)] []
  have hn8 := hW.1
  refine v_iload_n h pX3_judge_0 0 rfl 1 rfl rfl ?_
  refine v_callS h pX3_judge_0 1 mX3_198 (As := [.int t]) (st := []) (kX3_isSheet _ _ cI cS t) v0B v0C (vEmb_u _) rfl rfl rfl rfl rfl (vDet_k ?_)
  show V K (cW cI cS a (E, T, Kp, P, S, F)) 4 [(0, .ref (a 0)), (1, .int t)] [.int (bI (inB t 0 3))]
  refine v_bif_ne (tgt := 13) h pX3_judge_0 2 rfl rfl (fun c1 => ?_) (fun c1 => ?_)
  · skip
    obtain ⟨e_t, l_t⟩ := inB_t 3 rfl (by decide) c1
    refine v_aload_n h pX3_judge_0 7 rfl 0 rfl rfl (v_get h pX3_judge_0 8 fX3_35 0 rfl rfl rfl (v_iload_n h pX3_judge_0 9 rfl 1 rfl rfl (v_top (w := .int (nI (ix t))) (congrArg Value.int e_t) (v_aald h pX3_judge_0 10 (ix t) 36 1 rfl rfl rfl rfl rfl (by omega) rfl ?_))))
    refine v_callV h pX3_judge_0 11 mX3_201 (As := []) (st := []) (kX1_isMissing _ _ cI cS (sh a (37 + 2 * (ix t))) (S (ix t))) v0B v0C (emb_S (by omega)) (37 + 2 * (ix t)) rfl (cW_sh (by omega)) rfl rfl rfl rfl rfl (vDet_k ?_)
    show V K (cW cI cS a (E, T, Kp, P, st S (ix t) (S (ix t)), F)) 22 [(0, .ref (a 0)), (1, .int t)] [.int (bI (decide (S (ix t) 1 0 = 0)))]
    refine v_eqw (ws' := cW cI cS a (E, T, Kp, P, S, F)) (by rw [st_id]) ?_
    refine v_bif_eq (tgt := 31) h pX3_judge_0 12 rfl rfl (fun c2 => ?_) (fun c2 => ?_)
    · skip
      have c2m := of_decide_eq_false c2
      have hsz := hS.sizeL (t := ix t) (by omega)
      refine v_iconst h pX3_judge_0 17 rfl ki_0 (v_istore_n h pX3_judge_0 18 (lv' := [(2, .int 0), (0, .ref (a 0)), (1, .int t)]) rfl rfl hnL rfl rfl ?_)
      refine v_lv [1, 2, 0] (lv' := [(0, .ref (a 0)), (1, .int t), (2, .int 0)]) rfl ?_
      have LA : ∀ (m iA : Nat), iA ≤ ix (S (ix t) 1 1) → (∀ j, j < iA → (fun j => !(decide (j < n) && decide (S (ix t) 0 j = E 5 j))) j = false) → ix (S (ix t) 1 1) + 1 ≤ iA + m → V K (cW cI cS a (E, T, Kp, P, S, F)) 33 [(0, .ref (a 0)), (1, .int t), (2, .int (nI iA))] [] := by
        intro m
        induction m with
        | zero => exact fun iA h1 hh h2 => absurd h2 (by omega)
        | succ m ihA =>
          intro iA hleA hhA hltA
          refine v_iload_n h pX3_judge_0 19 rfl 2 rfl rfl (v_aload_n h pX3_judge_0 20 rfl 0 rfl rfl (v_get h pX3_judge_0 21 fX3_35 0 rfl rfl rfl (v_iload_n h pX3_judge_0 22 rfl 1 rfl rfl (v_top (w := .int (nI (ix t))) (congrArg Value.int e_t) (v_aald h pX3_judge_0 23 (ix t) 36 1 rfl rfl rfl rfl rfl (by omega) rfl ?_)))))
          refine v_get h pX3_judge_0 24 fX3_204 (37 + 2 * (ix t)) rfl (cW_sh (by omega)) rfl (v_top (w := .int (nI (ix (S (ix t) 1 1)))) (congrArg Value.int (hS.size (by omega))) ?_)
          refine v_ncmp_ge (a := iA) (b := ix (S (ix t) 1 1)) (tgt := 87) h pX3_judge_0 25 rfl rfl (by omega) (by omega) (fun c4 => ?_) (fun c4 => ?_)
          · skip
            refine v_iconst h pX3_judge_1 17 rfl ki_0 ?_
            exact v_iret h pX3_judge_1 18 hR hret rfl ((E, T, Kp, P, S, F)) rfl ⟨vI (by first | (simp [c1, c2m, c4, -Int32.not_lt]; done) | (have e1 : fstN (fun j => !(decide (j < n) && decide (S (ix t) 0 j = E 5 j))) (ix (S (ix t) 1 1)) = iA := fstN_eq hhA (by simp [c1, c2m, c4]) (by omega); simp only [c1, c2m, c4, if_true, if_false]; rw [e1]; first | (rw [if_pos (by omega)]; done) | (rw [if_neg (by omega)]; done)) | (have e1 : fstN (fun j => !(decide (j < n) && decide (S (ix t) 0 j = E 5 j))) (ix (S (ix t) 1 1)) = ix (S (ix t) 1 1) := fstN_no (fun j hj => hhA j (by omega)); simp only [c1, c2m, c4, if_true, if_false]; rw [e1, if_neg (by omega)])), rfl, rfl, ⟨rfl, rfl⟩, rfl, (fR_of (by simp [c1, c2m, c4, -Int32.not_lt]))⟩
          · skip
            refine v_aload_n h pX3_judge_0 26 rfl 0 rfl rfl (v_iload_n h pX3_judge_0 27 rfl 2 rfl rfl ?_)
            refine v_callV h pX3_judge_0 28 mX3_83 (As := [.int (nI iA)]) (st := []) (kX3_isOyster _ _ cI cS a E T Kp P F S n hW (nI iA)) v0B v0C (vEmb_rf _ _) 0 rfl rfl rfl rfl rfl rfl rfl (vDet_k ?_)
            show V K (cW cI cS a (E, T, Kp, P, S, F)) 51 [(0, .ref (a 0)), (1, .int t), (2, .int (nI iA))] [.int (bI (oyB (nI iA) n))]
            refine v_bif_eq (tgt := 77) h pX3_judge_0 29 rfl rfl (fun c5 => ?_) (fun c5 => ?_)
            · skip
              rw [oyB_nI (by omega) (by omega)] at c5
              have c5n := of_decide_eq_false c5
              refine v_iconst h pX3_judge_1 11 rfl ki_1 (v_iload_n h pX3_judge_1 12 rfl 2 rfl rfl (v_iaddn h pX3_judge_1 13 1 iA rfl ?_))
              exact v_iret h pX3_judge_1 14 hR hret rfl ((E, T, Kp, P, S, F)) rfl ⟨vI (by first | (simp [c1, c2m, c4, c5n, -Int32.not_lt]; done) | (have e1 : fstN (fun j => !(decide (j < n) && decide (S (ix t) 0 j = E 5 j))) (ix (S (ix t) 1 1)) = iA := fstN_eq hhA (by simp [c1, c2m, c4, c5n]) (by omega); simp only [c1, c2m, c4, c5n, if_true, if_false]; rw [e1]; first | (rw [if_pos (by omega)]; done) | (rw [if_neg (by omega)]; done)) | (have e1 : fstN (fun j => !(decide (j < n) && decide (S (ix t) 0 j = E 5 j))) (ix (S (ix t) 1 1)) = ix (S (ix t) 1 1) := fstN_no (fun j hj => hhA j (by omega)); simp only [c1, c2m, c4, c5n, if_true, if_false]; rw [e1, if_neg (by omega)])), rfl, rfl, ⟨rfl, rfl⟩, rfl, (fR_of (by simp [c1, c2m, c4, c5n, -Int32.not_lt]))⟩
            · skip
              rw [oyB_nI (by omega) (by omega)] at c5
              have c5n := of_decide_eq_true c5
              refine v_aload_n h pX3_judge_0 30 rfl 0 rfl rfl (v_get h pX3_judge_0 31 fX3_35 0 rfl rfl rfl (v_iload_n h pX3_judge_1 0 rfl 1 rfl rfl (v_top (w := .int (nI (ix t))) (congrArg Value.int e_t) (v_aald h pX3_judge_1 1 (ix t) 36 1 rfl rfl rfl rfl rfl (by omega) rfl (v_get h pX3_judge_1 2 fX3_207 (37 + 2 * (ix t)) rfl (cW_sh (by omega)) rfl ?_)))))
              refine v_iload_n h pX3_judge_1 3 rfl 2 rfl rfl (v_iald h pX3_judge_1 4 iA (38 + 2 * (ix t)) 0 rfl (cW_sn2 (by omega)) rfl rfl rfl (by omega) (v_aload_n h pX3_judge_1 5 rfl 0 rfl rfl (v_get h pX3_judge_1 6 fX3_10 0 rfl rfl rfl (v_get h pX3_judge_1 7 fX3_116 1 rfl rfl rfl (v_iload_n h pX3_judge_1 8 rfl 2 rfl rfl ?_)))))
              refine v_iald h pX3_judge_1 9 iA 7 0 rfl rfl rfl rfl rfl (by omega) ?_
              refine v_icmp_eq (tgt := 81) h pX3_judge_1 10 rfl rfl (fun c6 => ?_) (fun c6 => ?_)
              · skip
                refine v_iinc h pX3_judge_1 15 (v := nI (iA + 1)) (lv' := [(2, .int (nI (iA + 1))), (0, .ref (a 0)), (1, .int t)]) rfl 2 rfl hnL rfl rfl (nI_1 iA) (v_goto (tgt := 33) h pX3_judge_1 16 rfl rfl (v_lv [1, 2, 0] (lv' := [(0, .ref (a 0)), (1, .int t), (2, .int (nI (iA + 1)))]) rfl ?_))
                exact ihA (iA + 1) (by omega) (fun j hj => (Nat.lt_succ_iff_lt_or_eq.mp hj).elim (hhA j) (fun e => by rw [e]; simp [c1, c2m, c4, c5n, (eq_true c6), -Int32.not_lt])) (by omega)
              · skip
                refine v_iconst h pX3_judge_1 11 rfl ki_1 (v_iload_n h pX3_judge_1 12 rfl 2 rfl rfl (v_iaddn h pX3_judge_1 13 1 iA rfl ?_))
                exact v_iret h pX3_judge_1 14 hR hret rfl ((E, T, Kp, P, S, F)) rfl ⟨vI (by first | (simp [c1, c2m, c4, c5n, c6, -Int32.not_lt]; done) | (have e1 : fstN (fun j => !(decide (j < n) && decide (S (ix t) 0 j = E 5 j))) (ix (S (ix t) 1 1)) = iA := fstN_eq hhA (by simp [c1, c2m, c4, c5n, c6]) (by omega); simp only [c1, c2m, c4, c5n, c6, if_true, if_false]; rw [e1]; first | (rw [if_pos (by omega)]; done) | (rw [if_neg (by omega)]; done)) | (have e1 : fstN (fun j => !(decide (j < n) && decide (S (ix t) 0 j = E 5 j))) (ix (S (ix t) 1 1)) = ix (S (ix t) 1 1) := fstN_no (fun j hj => hhA j (by omega)); simp only [c1, c2m, c4, c5n, c6, if_true, if_false]; rw [e1, if_neg (by omega)])), rfl, rfl, ⟨rfl, rfl⟩, rfl, (fR_of (by simp [c1, c2m, c4, c5n, c6, -Int32.not_lt]))⟩
      exact LA (ix (S (ix t) 1 1) + 1) 0 (by omega) (fun j hj => absurd hj (by omega)) (by omega)
    · skip
      have c2m := of_decide_eq_true c2
      refine v_aload_n h pX3_judge_0 13 rfl 0 rfl rfl (v_iconst h pX3_judge_0 14 rfl ki_5 ?_)
      refine v_callV h pX3_judge_0 15 mX3_55 (As := [.int 5]) (st := []) (kX3_finding _ _ cI cS a E T Kp P F S 5 (by decide)) v0B v0C (vEmb_rf _ _) 0 rfl rfl rfl rfl rfl rfl rfl (vDet_k ?_)
      show V K (cW cI cS a (E, T, Kp, P, S, fndC F 5)) 30 [(0, .ref (a 0)), (1, .int t)] [.int ((-1000001) - (nI 5))]
      refine v_top (w := .int (-1000006)) (by decide) ?_
      exact v_iret h pX3_judge_0 16 hR hret rfl ((E, T, Kp, P, S, fndC F 5)) rfl ⟨vI (by first | (simp [c1, (eq_true c2m), -Int32.not_lt]; done) | (have e1 : fstN (fun j => !(decide (j < n) && decide (S (ix t) 0 j = E 5 j))) (ix (S (ix t) 1 1)) = iA := fstN_eq hhA (by simp [c1, (eq_true c2m)]) (by omega); simp only [c1, (eq_true c2m), if_true, if_false]; rw [e1]; first | (rw [if_pos (by omega)]; done) | (rw [if_neg (by omega)]; done)) | (have e1 : fstN (fun j => !(decide (j < n) && decide (S (ix t) 0 j = E 5 j))) (ix (S (ix t) 1 1)) = ix (S (ix t) 1 1) := fstN_no (fun j hj => hhA j (by omega)); simp only [c1, (eq_true c2m), if_true, if_false]; rw [e1, if_neg (by omega)])), rfl, rfl, ⟨rfl, rfl⟩, rfl, (fR_of (by simp [c1, (eq_true c2m), -Int32.not_lt]))⟩
  · skip
    refine v_aload_n h pX3_judge_0 3 rfl 0 rfl rfl (v_iconst h pX3_judge_0 4 rfl ki_0 ?_)
    refine v_callV h pX3_judge_0 5 mX3_55 (As := [.int 0]) (st := []) (kX3_finding _ _ cI cS a E T Kp P F S 0 (by decide)) v0B v0C (vEmb_rf _ _) 0 rfl rfl rfl rfl rfl rfl rfl (vDet_k ?_)
    show V K (cW cI cS a (E, T, Kp, P, S, fndC F 0)) 12 [(0, .ref (a 0)), (1, .int t)] [.int ((-1000001) - (nI 0))]
    refine v_top (w := .int (-1000001)) (by decide) ?_
    exact v_iret h pX3_judge_0 6 hR hret rfl ((E, T, Kp, P, S, fndC F 0)) rfl ⟨vI (by first | (simp [c1, -Int32.not_lt]; done) | (have e1 : fstN (fun j => !(decide (j < n) && decide (S (ix t) 0 j = E 5 j))) (ix (S (ix t) 1 1)) = iA := fstN_eq hhA (by simp [c1]) (by omega); simp only [c1, if_true, if_false]; rw [e1]; first | (rw [if_pos (by omega)]; done) | (rw [if_neg (by omega)]; done)) | (have e1 : fstN (fun j => !(decide (j < n) && decide (S (ix t) 0 j = E 5 j))) (ix (S (ix t) 1 1)) = ix (S (ix t) 1 1) := fstN_no (fun j hj => hhA j (by omega)); simp only [c1, if_true, if_false]; rw [e1, if_neg (by omega)])), rfl, rfl, ⟨rfl, rfl⟩, rfl, (fR_of (by simp [c1, -Int32.not_lt]))⟩
