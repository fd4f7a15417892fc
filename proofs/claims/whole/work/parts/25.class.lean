set_option maxHeartbeats 300000 in
set_option maxRecDepth 100000 in
theorem kJ6_bitCount_0f7a4 (l : Launch) (D : va_G) (cI cS : ClassId)   (x : Nat) (hx : x < 256) : vDet l D (vT cI cS) yJ6_bitCount_0f7a4 cJ6_bitCount_0f7a4 1 (some .int) 0 0 (fun _ : Unit => ([] : va_W)) [.int (nI x)] () (some (.int (nI (popc x)))) (()) := by
  refine vMet_of (by decide) rfl ?_
  intro K hl hD hnL hret h hR hEx
  subst hl hD
  show V K (([] : va_W)) 0 [(0, .int (nI x))] []
  refine v_iload_n h pJ6_bitCount_0f7a4_0 0 rfl 0 rfl rfl (v_iload_n h pJ6_bitCount_0f7a4_0 1 rfl 0 rfl rfl (v_iconst h pJ6_bitCount_0f7a4_0 2 rfl ki_1 (v_iushr h pJ6_bitCount_0f7a4_0 3 rfl (v_ldcw h pJ6_bitCount_0f7a4_0 4 wm_491 rfl (v_iand h pJ6_bitCount_0f7a4_0 5 rfl ?_)))))
  refine v_isub h pJ6_bitCount_0f7a4_0 6 rfl ?_
  refine v_top (w := .int (b1 (nI x))) rfl (v_istore_n h pJ6_bitCount_0f7a4_0 7 (lv' := [(0, .int (b1 (nI x)))]) rfl rfl hnL rfl rfl (v_iload_n h pJ6_bitCount_0f7a4_0 8 rfl 0 rfl rfl (v_ldcw h pJ6_bitCount_0f7a4_0 9 wm_492 rfl (v_iand h pJ6_bitCount_0f7a4_0 10 rfl (v_iload_n h pJ6_bitCount_0f7a4_0 11 rfl 0 rfl rfl ?_)))))
  refine v_iconst h pJ6_bitCount_0f7a4_0 12 rfl ki_2 (v_iushr h pJ6_bitCount_0f7a4_0 13 rfl (v_ldcw h pJ6_bitCount_0f7a4_0 14 wm_492 rfl (v_iand h pJ6_bitCount_0f7a4_0 15 rfl (v_iadd h pJ6_bitCount_0f7a4_0 16 rfl ?_))))
  refine v_top (w := .int (b2 (b1 (nI x)))) rfl (v_istore_n h pJ6_bitCount_0f7a4_0 17 (lv' := [(0, .int (b2 (b1 (nI x))))]) rfl rfl hnL rfl rfl (v_iload_n h pJ6_bitCount_0f7a4_0 18 rfl 0 rfl rfl (v_iload_n h pJ6_bitCount_0f7a4_0 19 rfl 0 rfl rfl (v_iconst h pJ6_bitCount_0f7a4_0 20 rfl ki_4 (v_iushr h pJ6_bitCount_0f7a4_0 21 rfl ?_)))))
  refine v_iadd h pJ6_bitCount_0f7a4_0 22 rfl (v_ldcw h pJ6_bitCount_0f7a4_0 23 wm_493 rfl (v_iand h pJ6_bitCount_0f7a4_0 24 rfl ?_))
  refine v_top (w := .int (b3 (b2 (b1 (nI x))))) rfl (v_istore_n h pJ6_bitCount_0f7a4_0 25 (lv' := [(0, .int (b3 (b2 (b1 (nI x)))))]) rfl rfl hnL rfl rfl (v_iload_n h pJ6_bitCount_0f7a4_0 26 rfl 0 rfl rfl (v_iload_n h pJ6_bitCount_0f7a4_0 27 rfl 0 rfl rfl (v_bipush h pJ6_bitCount_0f7a4_0 28 rfl kb_8 (v_iushr h pJ6_bitCount_0f7a4_0 29 rfl ?_)))))
  refine v_iadd h pJ6_bitCount_0f7a4_0 30 rfl ?_
  refine v_top (w := .int (b4 (b3 (b2 (b1 (nI x)))))) rfl (v_istore_n h pJ6_bitCount_0f7a4_0 31 (lv' := [(0, .int (b4 (b3 (b2 (b1 (nI x))))))]) rfl rfl hnL rfl rfl (v_iload_n h pJ6_bitCount_0f7a4_1 0 rfl 0 rfl rfl (v_iload_n h pJ6_bitCount_0f7a4_1 1 rfl 0 rfl rfl (v_bipush h pJ6_bitCount_0f7a4_1 2 rfl kb_16 (v_iushr h pJ6_bitCount_0f7a4_1 3 rfl ?_)))))
  refine v_iadd h pJ6_bitCount_0f7a4_1 4 rfl ?_
  refine v_top (w := .int (b5 (b4 (b3 (b2 (b1 (nI x))))))) rfl (v_istore_n h pJ6_bitCount_0f7a4_1 5 (lv' := [(0, .int (b5 (b4 (b3 (b2 (b1 (nI x)))))))]) rfl rfl hnL rfl rfl (v_iload_n h pJ6_bitCount_0f7a4_1 6 rfl 0 rfl rfl (v_bipush h pJ6_bitCount_0f7a4_1 7 rfl kb_63 (v_iand h pJ6_bitCount_0f7a4_1 8 rfl ?_))))
  exact v_iret h pJ6_bitCount_0f7a4_1 9 hR hret rfl (()) rfl ⟨vI (by exact bc_tab x hx), rfl⟩
set_option maxHeartbeats 300000 in
set_option maxRecDepth 100000 in
theorem kX3_bed (l : Launch) (D : va_G) (cI cS : ClassId) (a : Nat → Nat) (E T Kp P F : Nat → Nat → Int32) (S : Nat → Nat → Nat → Int32) (n : Nat) (hW : Wf E n) (hZ : E 9 4 = 0) (bd w v : Int32) : vMet l D (vT cI cS) yX3_bed cX3_bed 6 (some .int) 2 41 (cW cI cS a) v0 [.ref (a 0), .int bd, .int w, .int v] (E, T, Kp, P, S, F) (cPost (some (.int (cond (inB bd 0 5 && (inB w 0 1 && inB v 0 (if w = 0 then 999 else 9))) (E (ix w) (ix bd)) ((-1000001))))) (cond (inB bd 0 5 && (inB w 0 1 && inB v 0 (if w = 0 then 999 else 9))) (up E (ix w) (ix bd) v) (E)) (Kp) (P) (S) (cond (inB bd 0 5 && (inB w 0 1 && inB v 0 (if w = 0 then 999 else 9))) (F) (fndC F 0))) := by
  refine vMet_of (by decide) rfl ?_
  intro K hl hD hnL hret h hR hEx
  subst hl hD
  show V K (cW cI cS a (E, T, Kp, P, S, F)) 0 [(0, .ref (a 0)), (1, .int bd), (2, .int w), (3, .int v)] []
  have hn8 := hW.1
  refine v_iload_n h pX3_bed_0 0 rfl 1 rfl rfl ?_
  refine v_callS h pX3_bed_0 1 mX3_47 (As := [.int bd]) (st := []) (kX3_isBed _ _ cI cS bd) v0B v0C (vEmb_u _) rfl rfl rfl rfl rfl (vDet_k ?_)
  show V K (cW cI cS a (E, T, Kp, P, S, F)) 4 [(0, .ref (a 0)), (1, .int bd), (2, .int w), (3, .int v)] [.int (bI (inB bd 0 5))]
  refine v_bif_eq (tgt := 34) h pX3_bed_0 2 rfl rfl (fun c1 => ?_) (fun c1 => ?_)
  · skip
    refine v_aload_n h pX3_bed_0 15 rfl 0 rfl rfl (v_iconst h pX3_bed_0 16 rfl ki_0 ?_)
    refine v_callV h pX3_bed_0 17 mX3_55 (As := [.int 0]) (st := []) (kX3_finding _ _ cI cS a E T Kp P F S 0 (by decide)) v0B v0C (vEmb_rf _ _) 0 rfl rfl rfl rfl rfl rfl rfl (vDet_k ?_)
    show V K (cW cI cS a (E, T, Kp, P, S, fndC F 0)) 39 [(0, .ref (a 0)), (1, .int bd), (2, .int w), (3, .int v)] [.int ((-1000001) - (nI 0))]
    refine v_top (w := .int (-1000001)) (by decide) ?_
    exact v_iret h pX3_bed_0 18 hR hret rfl ((E, T, Kp, P, S, fndC F 0)) rfl ⟨vI (by first | (simp [c1]; done) | (simp [c1, ew])), (by first | (simp [c1]; done) | (simp [c1, ew])), rfl, ⟨rfl, rfl⟩, rfl, (fR_of (by first | (simp [c1]; done) | (simp [c1, ew])))⟩
  · skip
    obtain ⟨e_bd, l_bd⟩ := inB_t 5 rfl (by decide) c1
    refine v_iload_n h pX3_bed_0 3 rfl 2 rfl rfl (v_iconst h pX3_bed_0 4 rfl ki_1 ?_)
    refine v_callS h pX3_bed_0 5 mX3_51 (As := [.int w, .int 1]) (st := []) (kX3_isWithin _ _ cI cS w 1) v0B v0C (vEmb_u _) rfl rfl rfl rfl rfl (vDet_k ?_)
    show V K (cW cI cS a (E, T, Kp, P, S, F)) 12 [(0, .ref (a 0)), (1, .int bd), (2, .int w), (3, .int v)] [.int (bI (inB w 0 1))]
    refine v_bif_eq (tgt := 34) h pX3_bed_0 6 rfl rfl (fun c2 => ?_) (fun c2 => ?_)
    · skip
      refine v_aload_n h pX3_bed_0 15 rfl 0 rfl rfl (v_iconst h pX3_bed_0 16 rfl ki_0 ?_)
      refine v_callV h pX3_bed_0 17 mX3_55 (As := [.int 0]) (st := []) (kX3_finding _ _ cI cS a E T Kp P F S 0 (by decide)) v0B v0C (vEmb_rf _ _) 0 rfl rfl rfl rfl rfl rfl rfl (vDet_k ?_)
      show V K (cW cI cS a (E, T, Kp, P, S, fndC F 0)) 39 [(0, .ref (a 0)), (1, .int bd), (2, .int w), (3, .int v)] [.int ((-1000001) - (nI 0))]
      refine v_top (w := .int (-1000001)) (by decide) ?_
      exact v_iret h pX3_bed_0 18 hR hret rfl ((E, T, Kp, P, S, fndC F 0)) rfl ⟨vI (by first | (simp [c1, c2]; done) | (simp [c1, c2, ew])), (by first | (simp [c1, c2]; done) | (simp [c1, c2, ew])), rfl, ⟨rfl, rfl⟩, rfl, (fR_of (by first | (simp [c1, c2]; done) | (simp [c1, c2, ew])))⟩
    · skip
      obtain ⟨e_w, l_w⟩ := inB_t 1 rfl (by decide) c2
      refine v_iload_n h pX3_bed_0 7 rfl 3 rfl rfl (v_iload_n h pX3_bed_0 8 rfl 2 rfl rfl ?_)
      refine v_if_ne (tgt := 26) h pX3_bed_0 9 rfl rfl (fun c3 => ?_) (fun c3 => ?_)
      · skip
        refine v_bipush h pX3_bed_0 12 rfl kb_9 ?_
        refine v_callS h pX3_bed_0 13 mX3_51 (As := [.int v, .int 9]) (st := []) (kX3_isWithin _ _ cI cS v 9) v0B v0C (vEmb_u _) rfl rfl rfl rfl rfl (vDet_k ?_)
        show V K (cW cI cS a (E, T, Kp, P, S, F)) 31 [(0, .ref (a 0)), (1, .int bd), (2, .int w), (3, .int v)] [.int (bI (inB v 0 9))]
        refine v_bif_ne (tgt := 40) h pX3_bed_0 14 rfl rfl (fun c4 => ?_) (fun c4 => ?_)
        · skip
          refine v_iload_n h pX3_bed_0 19 rfl 2 rfl rfl ?_
          refine v_if_ne (tgt := 54) h pX3_bed_0 20 rfl rfl (fun c5 => ?_) (fun c5 => (by first | exact absurd c5 c3 | exact absurd c3 c5 | (exfalso; omega)))
          have ew : ix w = 1 := ix_1 e_w (by omega) c3
          refine v_aload_n h pX3_bed_0 25 rfl 0 rfl rfl (v_get h pX3_bed_0 26 fX3_10 0 rfl rfl rfl (v_get h pX3_bed_0 27 fX3_62 1 rfl rfl rfl (v_astore h pX3_bed_0 28 (lv' := [(4, .ref (a 3)), (0, .ref (a 0)), (1, .int bd), (2, .int w), (3, .int v)]) rfl hnL rfl rfl (v_aload h pX3_bed_0 29 rfl 0 rfl (v_iload_n h pX3_bed_0 30 rfl 2 rfl rfl ?_)))))
          refine v_top (w := .int (nI (ix bd))) (congrArg Value.int e_bd) (v_iald h pX3_bed_0 31 (ix bd) 3 0 rfl rfl rfl rfl rfl (by omega) (v_istore h pX3_bed_1 0 (lv' := [(5, .int (E 1 (ix bd))), (4, .ref (a 3)), (0, .ref (a 0)), (1, .int bd), (2, .int w), (3, .int v)]) rfl hnL rfl rfl (v_aload h pX3_bed_1 1 rfl 1 rfl (v_iload_n h pX3_bed_1 2 rfl 3 rfl rfl (v_top (w := .int (nI (ix bd))) (congrArg Value.int e_bd) ?_)))))
          refine v_iload_n h pX3_bed_1 3 rfl 5 rfl rfl (v_iast h pX3_bed_1 4 (ix bd) 3 0 (ws' := cW cI cS a (up E 1 (ix bd) v, T, Kp, P, S, F)) rfl rfl rfl rfl rfl (by omega) cW_Es1 (v_iload h pX3_bed_1 5 rfl 0 rfl ?_))
          exact v_iret h pX3_bed_1 6 hR hret rfl ((up E 1 (ix bd) v, T, Kp, P, S, F)) rfl ⟨vI (by first | (simp [c1, c2, c3, c4]; done) | (simp [c1, c2, c3, c4, ew])), (by first | (simp [c1, c2, c3, c4]; done) | (simp [c1, c2, c3, c4, ew])), rfl, ⟨rfl, rfl⟩, rfl, (fR_of (by first | (simp [c1, c2, c3, c4]; done) | (simp [c1, c2, c3, c4, ew])))⟩
        · skip
          refine v_aload_n h pX3_bed_0 15 rfl 0 rfl rfl (v_iconst h pX3_bed_0 16 rfl ki_0 ?_)
          refine v_callV h pX3_bed_0 17 mX3_55 (As := [.int 0]) (st := []) (kX3_finding _ _ cI cS a E T Kp P F S 0 (by decide)) v0B v0C (vEmb_rf _ _) 0 rfl rfl rfl rfl rfl rfl rfl (vDet_k ?_)
          show V K (cW cI cS a (E, T, Kp, P, S, fndC F 0)) 39 [(0, .ref (a 0)), (1, .int bd), (2, .int w), (3, .int v)] [.int ((-1000001) - (nI 0))]
          refine v_top (w := .int (-1000001)) (by decide) ?_
          exact v_iret h pX3_bed_0 18 hR hret rfl ((E, T, Kp, P, S, fndC F 0)) rfl ⟨vI (by first | (simp [c1, c2, c3, c4]; done) | (simp [c1, c2, c3, c4, ew])), (by first | (simp [c1, c2, c3, c4]; done) | (simp [c1, c2, c3, c4, ew])), rfl, ⟨rfl, rfl⟩, rfl, (fR_of (by first | (simp [c1, c2, c3, c4]; done) | (simp [c1, c2, c3, c4, ew])))⟩
      · skip
        refine v_sipush h pX3_bed_0 10 rfl ks_999 (v_goto (tgt := 28) h pX3_bed_0 11 rfl rfl ?_)
        refine v_callS h pX3_bed_0 13 mX3_51 (As := [.int v, .int 999]) (st := []) (kX3_isWithin _ _ cI cS v 999) v0B v0C (vEmb_u _) rfl rfl rfl rfl rfl (vDet_k ?_)
        show V K (cW cI cS a (E, T, Kp, P, S, F)) 31 [(0, .ref (a 0)), (1, .int bd), (2, .int w), (3, .int v)] [.int (bI (inB v 0 999))]
        refine v_bif_ne (tgt := 40) h pX3_bed_0 14 rfl rfl (fun c6 => ?_) (fun c6 => ?_)
        · skip
          refine v_iload_n h pX3_bed_0 19 rfl 2 rfl rfl ?_
          refine v_if_ne (tgt := 54) h pX3_bed_0 20 rfl rfl (fun c7 => (by first | exact absurd c7 c3 | exact absurd c3 c7 | (exfalso; omega))) (fun c7 => ?_)
          have ew : ix w = 0 := by rw [c3]; rfl
          refine v_aload_n h pX3_bed_0 21 rfl 0 rfl rfl (v_get h pX3_bed_0 22 fX3_10 0 rfl rfl rfl (v_get h pX3_bed_0 23 fX3_59 1 rfl rfl rfl (v_goto (tgt := 61) h pX3_bed_0 24 rfl rfl (v_astore h pX3_bed_0 28 (lv' := [(4, .ref (a 2)), (0, .ref (a 0)), (1, .int bd), (2, .int w), (3, .int v)]) rfl hnL rfl rfl (v_aload h pX3_bed_0 29 rfl 0 rfl ?_)))))
          refine v_iload_n h pX3_bed_0 30 rfl 2 rfl rfl (v_top (w := .int (nI (ix bd))) (congrArg Value.int e_bd) (v_iald h pX3_bed_0 31 (ix bd) 2 0 rfl rfl rfl rfl rfl (by omega) (v_istore h pX3_bed_1 0 (lv' := [(5, .int (E 0 (ix bd))), (4, .ref (a 2)), (0, .ref (a 0)), (1, .int bd), (2, .int w), (3, .int v)]) rfl hnL rfl rfl (v_aload h pX3_bed_1 1 rfl 1 rfl (v_iload_n h pX3_bed_1 2 rfl 3 rfl rfl ?_)))))
          refine v_top (w := .int (nI (ix bd))) (congrArg Value.int e_bd) (v_iload_n h pX3_bed_1 3 rfl 5 rfl rfl (v_iast h pX3_bed_1 4 (ix bd) 2 0 (ws' := cW cI cS a (up E 0 (ix bd) v, T, Kp, P, S, F)) rfl rfl rfl rfl rfl (by omega) cW_Es0 (v_iload h pX3_bed_1 5 rfl 0 rfl ?_)))
          exact v_iret h pX3_bed_1 6 hR hret rfl ((up E 0 (ix bd) v, T, Kp, P, S, F)) rfl ⟨vI (by first | (simp [c1, c2, (eq_true c3), c6]; done) | (simp [c1, c2, (eq_true c3), c6, ew])), (by first | (simp [c1, c2, (eq_true c3), c6]; done) | (simp [c1, c2, (eq_true c3), c6, ew])), rfl, ⟨rfl, rfl⟩, rfl, (fR_of (by first | (simp [c1, c2, (eq_true c3), c6]; done) | (simp [c1, c2, (eq_true c3), c6, ew])))⟩
        · skip
          refine v_aload_n h pX3_bed_0 15 rfl 0 rfl rfl (v_iconst h pX3_bed_0 16 rfl ki_0 ?_)
          refine v_callV h pX3_bed_0 17 mX3_55 (As := [.int 0]) (st := []) (kX3_finding _ _ cI cS a E T Kp P F S 0 (by decide)) v0B v0C (vEmb_rf _ _) 0 rfl rfl rfl rfl rfl rfl rfl (vDet_k ?_)
          show V K (cW cI cS a (E, T, Kp, P, S, fndC F 0)) 39 [(0, .ref (a 0)), (1, .int bd), (2, .int w), (3, .int v)] [.int ((-1000001) - (nI 0))]
          refine v_top (w := .int (-1000001)) (by decide) ?_
          exact v_iret h pX3_bed_0 18 hR hret rfl ((E, T, Kp, P, S, fndC F 0)) rfl ⟨vI (by first | (simp [c1, c2, (eq_true c3), c6]; done) | (simp [c1, c2, (eq_true c3), c6, ew])), (by first | (simp [c1, c2, (eq_true c3), c6]; done) | (simp [c1, c2, (eq_true c3), c6, ew])), rfl, ⟨rfl, rfl⟩, rfl, (fR_of (by first | (simp [c1, c2, (eq_true c3), c6]; done) | (simp [c1, c2, (eq_true c3), c6, ew])))⟩
set_option maxHeartbeats 300000 in
set_option maxRecDepth 100000 in
theorem kX3_bedOf (l : Launch) (D : va_G) (cI cS : ClassId) (a : Nat → Nat) (E T Kp P F : Nat → Nat → Int32) (S : Nat → Nat → Nat → Int32) (n : Nat) (hW : Wf E n) (hZ : E 9 4 = 0) (bd w : Int32) : vMet l D (vT cI cS) yX3_bedOf cX3_bedOf 3 (some .int) 2 41 (cW cI cS a) v0 [.ref (a 0), .int bd, .int w] (E, T, Kp, P, S, F) (cPost (some (.int (cond (inB bd 0 5 && inB w 0 2) (if w = 0 then E 0 (ix bd) else if w = 1 then E 1 (ix bd) else setS (fun j => decide (E 3 j = bd)) n) ((-1000001))))) (E) (Kp) (P) (S) (cond (inB bd 0 5 && inB w 0 2) (F) (fndC F 0))) := by
  refine vMet_of (by decide) rfl ?_
  intro K hl hD hnL hret h hR hEx
  subst hl hD
  show V K (cW cI cS a (E, T, Kp, P, S, F)) 0 [(0, .ref (a 0)), (1, .int bd), (2, .int w)] []
  have hn8 := hW.1
  refine v_iload_n h pX3_bedOf_0 0 rfl 1 rfl rfl ?_
  refine v_callS h pX3_bedOf_0 1 mX3_47 (As := [.int bd]) (st := []) (kX3_isBed _ _ cI cS bd) v0B v0C (vEmb_u _) rfl rfl rfl rfl rfl (vDet_k ?_)
  show V K (cW cI cS a (E, T, Kp, P, S, F)) 4 [(0, .ref (a 0)), (1, .int bd), (2, .int w)] [.int (bI (inB bd 0 5))]
  refine v_bif_eq (tgt := 15) h pX3_bedOf_0 2 rfl rfl (fun c1 => ?_) (fun c1 => ?_)
  · skip
    refine v_aload_n h pX3_bedOf_0 7 rfl 0 rfl rfl (v_iconst h pX3_bedOf_0 8 rfl ki_0 ?_)
    refine v_callV h pX3_bedOf_0 9 mX3_55 (As := [.int 0]) (st := []) (kX3_finding _ _ cI cS a E T Kp P F S 0 (by decide)) v0B v0C (vEmb_rf _ _) 0 rfl rfl rfl rfl rfl rfl rfl (vDet_k ?_)
    show V K (cW cI cS a (E, T, Kp, P, S, fndC F 0)) 20 [(0, .ref (a 0)), (1, .int bd), (2, .int w)] [.int ((-1000001) - (nI 0))]
    refine v_top (w := .int (-1000001)) (by decide) ?_
    exact v_iret h pX3_bedOf_0 10 hR hret rfl ((E, T, Kp, P, S, fndC F 0)) rfl ⟨vI (by simp [c1]), rfl, rfl, ⟨rfl, rfl⟩, rfl, (fR_of (by simp [c1, True]))⟩
  · skip
    obtain ⟨e_bd, l_bd⟩ := inB_t 5 rfl (by decide) c1
    refine v_iload_n h pX3_bedOf_0 3 rfl 2 rfl rfl (v_iconst h pX3_bedOf_0 4 rfl ki_2 ?_)
    refine v_callS h pX3_bedOf_0 5 mX3_51 (As := [.int w, .int 2]) (st := []) (kX3_isWithin _ _ cI cS w 2) v0B v0C (vEmb_u _) rfl rfl rfl rfl rfl (vDet_k ?_)
    show V K (cW cI cS a (E, T, Kp, P, S, F)) 12 [(0, .ref (a 0)), (1, .int bd), (2, .int w)] [.int (bI (inB w 0 2))]
    refine v_bif_ne (tgt := 21) h pX3_bedOf_0 6 rfl rfl (fun c2 => ?_) (fun c2 => ?_)
    · skip
      refine v_iload_n h pX3_bedOf_0 11 rfl 2 rfl rfl ?_
      by_cases c3 : w = 0
      · skip
        refine v_lookup (off := 26) (tgt := 48) h pX3_bedOf_0 12 rfl rfl (by rw [c3]; rfl) rfl (v_aload_n h pX3_bedOf_0 13 rfl 0 rfl rfl (v_get h pX3_bedOf_0 14 fX3_10 0 rfl rfl rfl (v_get h pX3_bedOf_0 15 fX3_59 1 rfl rfl rfl (v_iload_n h pX3_bedOf_0 16 rfl 1 rfl rfl (v_top (w := .int (nI (ix bd))) (congrArg Value.int e_bd) ?_)))))
        refine v_iald h pX3_bedOf_0 17 (ix bd) 2 0 rfl rfl rfl rfl rfl (by omega) ?_
        exact v_iret h pX3_bedOf_0 18 hR hret rfl ((E, T, Kp, P, S, F)) rfl ⟨vI (by simp [c1, c2, (eq_true c3)]), rfl, rfl, ⟨rfl, rfl⟩, rfl, (fR_of (by simp [c1, c2, (eq_true c3), True]))⟩
      by_cases c4 : w = 1
      · skip
        refine v_lookup (off := 36) (tgt := 58) h pX3_bedOf_0 12 rfl rfl (by rw [c4]; rfl) rfl (v_aload_n h pX3_bedOf_0 19 rfl 0 rfl rfl (v_get h pX3_bedOf_0 20 fX3_10 0 rfl rfl rfl (v_get h pX3_bedOf_0 21 fX3_62 1 rfl rfl rfl (v_iload_n h pX3_bedOf_0 22 rfl 1 rfl rfl (v_top (w := .int (nI (ix bd))) (congrArg Value.int e_bd) ?_)))))
        refine v_iald h pX3_bedOf_0 23 (ix bd) 3 0 rfl rfl rfl rfl rfl (by omega) ?_
        exact v_iret h pX3_bedOf_0 24 hR hret rfl ((E, T, Kp, P, S, F)) rfl ⟨vI (by simp [c1, c2, c3, (eq_true c4)]), rfl, rfl, ⟨rfl, rfl⟩, rfl, (fR_of (by simp [c1, c2, c3, (eq_true c4), True]))⟩
      refine v_lookup (off := 46) (tgt := 68) h pX3_bedOf_0 12 rfl rfl (lk_2 (by decide) (by decide) c3 c4) rfl (v_aload_n h pX3_bedOf_0 25 rfl 0 rfl rfl (v_get h pX3_bedOf_0 26 fX3_10 0 rfl rfl rfl (v_iload_n h pX3_bedOf_0 27 rfl 1 rfl rfl ?_)))
      refine v_callV h pX3_bedOf_0 28 mX3_65 (As := [.int bd]) (st := []) (kX0_setIn _ _ cI cS (sh a 1) E n hW bd) v0B v0C emb_E 1 rfl rfl rfl rfl rfl rfl rfl (vDet_k ?_)
      show V K (cW cI cS a (E, T, Kp, P, S, F)) 76 [(0, .ref (a 0)), (1, .int bd), (2, .int w)] [.int (setS (fun j => decide (E 3 j = bd)) n)]
      exact v_iret h pX3_bedOf_0 29 hR hret rfl ((E, T, Kp, P, S, F)) rfl ⟨vI (by simp [c1, c2, c3, c4]), rfl, rfl, ⟨rfl, rfl⟩, rfl, (fR_of (by simp [c1, c2, c3, c4, True]))⟩
    · skip
      refine v_aload_n h pX3_bedOf_0 7 rfl 0 rfl rfl (v_iconst h pX3_bedOf_0 8 rfl ki_0 ?_)
      refine v_callV h pX3_bedOf_0 9 mX3_55 (As := [.int 0]) (st := []) (kX3_finding _ _ cI cS a E T Kp P F S 0 (by decide)) v0B v0C (vEmb_rf _ _) 0 rfl rfl rfl rfl rfl rfl rfl (vDet_k ?_)
      show V K (cW cI cS a (E, T, Kp, P, S, fndC F 0)) 20 [(0, .ref (a 0)), (1, .int bd), (2, .int w)] [.int ((-1000001) - (nI 0))]
      refine v_top (w := .int (-1000001)) (by decide) ?_
      exact v_iret h pX3_bedOf_0 10 hR hret rfl ((E, T, Kp, P, S, fndC F 0)) rfl ⟨vI (by simp [c1, c2]), rfl, rfl, ⟨rfl, rfl⟩, rfl, (fR_of (by simp [c1, c2, True]))⟩
set_option maxHeartbeats 300000 in
set_option maxRecDepth 100000 in
theorem kX3_comes (l : Launch) (D : va_G) (cI cS : ClassId) (a : Nat → Nat) (E T Kp P F : Nat → Nat → Int32) (S : Nat → Nat → Nat → Int32) (n : Nat) (hW : Wf E n) (hZ : E 9 4 = 0) (v : Int32) : vMet l D (vT cI cS) yX3_comes cX3_comes 3 (some .int) 1 21 (cW cI cS a) v0 [.ref (a 0), .int v] (E, T, Kp, P, S, F) (cPost (some (.int (cond (inB v 0 99) (E 9 1) ((-1000001))))) (cond (inB v 0 99) (up E 9 1 v) (E)) (Kp) (P) (S) (cond (inB v 0 99) (F) (fndC F 0))) := by
  refine vMet_of (by decide) rfl ?_
  intro K hl hD hnL hret h hR hEx
  subst hl hD
  show V K (cW cI cS a (E, T, Kp, P, S, F)) 0 [(0, .ref (a 0)), (1, .int v)] []
  have hn8 := hW.1
  refine v_iload_n h pX3_comes_0 0 rfl 1 rfl rfl (v_bipush h pX3_comes_0 1 rfl kb_99 ?_)
  refine v_callS h pX3_comes_0 2 mX3_51 (As := [.int v, .int 99]) (st := []) (kX3_isWithin _ _ cI cS v 99) v0B v0C (vEmb_u _) rfl rfl rfl rfl rfl (vDet_k ?_)
  show V K (cW cI cS a (E, T, Kp, P, S, F)) 6 [(0, .ref (a 0)), (1, .int v)] [.int (bI (inB v 0 99))]
  refine v_bif_ne (tgt := 15) h pX3_comes_0 3 rfl rfl (fun c1 => ?_) (fun c1 => ?_)
  · skip
    refine v_aload_n h pX3_comes_0 8 rfl 0 rfl rfl (v_get h pX3_comes_0 9 fX3_10 0 rfl rfl rfl (v_get h pX3_comes_0 10 fX3_68 1 rfl rfl rfl (v_istore_n h pX3_comes_0 11 (lv' := [(2, .int (E 9 1)), (0, .ref (a 0)), (1, .int v)]) rfl rfl hnL rfl rfl (v_aload_n h pX3_comes_0 12 rfl 1 rfl rfl (v_get h pX3_comes_0 13 fX3_10 0 rfl rfl rfl ?_)))))
    refine v_iload_n h pX3_comes_0 14 rfl 2 rfl rfl (v_puti h pX3_comes_0 15 gX3_68 1 (ws' := cW cI cS a (up E 9 1 v, T, Kp, P, S, F)) rfl rfl rfl cW_Ep1 (v_iload_n h pX3_comes_0 16 rfl 0 rfl rfl ?_))
    exact v_iret h pX3_comes_0 17 hR hret rfl ((up E 9 1 v, T, Kp, P, S, F)) rfl ⟨vI (by simp [c1]), (by simp [c1, True]), rfl, ⟨rfl, rfl⟩, rfl, (fR_of (by simp [c1, True]))⟩
  · skip
    refine v_aload_n h pX3_comes_0 4 rfl 0 rfl rfl (v_iconst h pX3_comes_0 5 rfl ki_0 ?_)
    refine v_callV h pX3_comes_0 6 mX3_55 (As := [.int 0]) (st := []) (kX3_finding _ _ cI cS a E T Kp P F S 0 (by decide)) v0B v0C (vEmb_rf _ _) 0 rfl rfl rfl rfl rfl rfl rfl (vDet_k ?_)
    show V K (cW cI cS a (E, T, Kp, P, S, fndC F 0)) 14 [(0, .ref (a 0)), (1, .int v)] [.int ((-1000001) - (nI 0))]
    refine v_top (w := .int (-1000001)) (by decide) ?_
    exact v_iret h pX3_comes_0 7 hR hret rfl ((E, T, Kp, P, S, fndC F 0)) rfl ⟨vI (by simp [c1]), (by simp [c1, True]), rfl, ⟨rfl, rfl⟩, rfl, (fR_of (by simp [c1, True]))⟩
set_option maxHeartbeats 300000 in
set_option maxRecDepth 100000 in
theorem kX3_oyster (l : Launch) (D : va_G) (cI cS : ClassId) (a : Nat → Nat) (E T Kp P F : Nat → Nat → Int32) (S : Nat → Nat → Nat → Int32) (n : Nat) (hW : Wf E n) (hZ : E 9 4 = 0) (kd bd : Int32) : vMet l D (vT cI cS) yX3_oyster cX3_oyster 3 (some .int) 2 44 (cW cI cS a) v0 [.ref (a 0), .int kd, .int bd] (E, T, Kp, P, S, F) (cPost (some (.int (cond (inB kd 0 6 && inB bd 0 5) (if n = 8 then (-1000002) else nI n) ((-1000001))))) (cond (inB kd 0 6 && inB bd 0 5) (if n = 8 then E else newS E n kd bd) (E)) (Kp) (P) (S) (cond (inB kd 0 6 && inB bd 0 5) (if n = 8 then fndC F 1 else F) (fndC F 0))) := by
  refine vMet_of (by decide) rfl ?_
  intro K hl hD hnL hret h hR hEx
  subst hl hD
  show V K (cW cI cS a (E, T, Kp, P, S, F)) 0 [(0, .ref (a 0)), (1, .int kd), (2, .int bd)] []
  have hn8 := hW.1
  refine v_iload_n h pX3_oyster_0 0 rfl 1 rfl rfl ?_
  refine v_callS h pX3_oyster_0 1 mX3_72 (As := [.int kd]) (st := []) (kX3_isKind _ _ cI cS kd) v0B v0C (vEmb_u _) rfl rfl rfl rfl rfl (vDet_k ?_)
  show V K (cW cI cS a (E, T, Kp, P, S, F)) 4 [(0, .ref (a 0)), (1, .int kd), (2, .int bd)] [.int (bI (inB kd 0 6))]
  refine v_bif_eq (tgt := 14) h pX3_oyster_0 2 rfl rfl (fun c1 => ?_) (fun c1 => ?_)
  · skip
    refine v_aload_n h pX3_oyster_0 6 rfl 0 rfl rfl (v_iconst h pX3_oyster_0 7 rfl ki_0 ?_)
    refine v_callV h pX3_oyster_0 8 mX3_55 (As := [.int 0]) (st := []) (kX3_finding _ _ cI cS a E T Kp P F S 0 (by decide)) v0B v0C (vEmb_rf _ _) 0 rfl rfl rfl rfl rfl rfl rfl (vDet_k ?_)
    show V K (cW cI cS a (E, T, Kp, P, S, fndC F 0)) 19 [(0, .ref (a 0)), (1, .int kd), (2, .int bd)] [.int ((-1000001) - (nI 0))]
    refine v_top (w := .int (-1000001)) (by decide) ?_
    exact v_iret h pX3_oyster_0 9 hR hret rfl ((E, T, Kp, P, S, fndC F 0)) rfl ⟨vI (by simp [c1]), (by simp [c1, True]), rfl, ⟨rfl, rfl⟩, rfl, (fR_of (by simp [c1, True]))⟩
  · skip
    refine v_iload_n h pX3_oyster_0 3 rfl 2 rfl rfl ?_
    refine v_callS h pX3_oyster_0 4 mX3_47 (As := [.int bd]) (st := []) (kX3_isBed _ _ cI cS bd) v0B v0C (vEmb_u _) rfl rfl rfl rfl rfl (vDet_k ?_)
    show V K (cW cI cS a (E, T, Kp, P, S, F)) 11 [(0, .ref (a 0)), (1, .int kd), (2, .int bd)] [.int (bI (inB bd 0 5))]
    refine v_bif_ne (tgt := 20) h pX3_oyster_0 5 rfl rfl (fun c2 => ?_) (fun c2 => ?_)
    · skip
      refine v_aload_n h pX3_oyster_0 10 rfl 0 rfl rfl (v_get h pX3_oyster_0 11 fX3_10 0 rfl rfl rfl ?_)
      refine v_callV h pX3_oyster_0 12 mX3_75 (As := []) (st := []) (kX0_isFull _ _ cI cS (sh a 1) E n hW) v0B v0C emb_E 1 rfl rfl rfl rfl rfl rfl rfl (vDet_k ?_)
      show V K (cW cI cS a (E, T, Kp, P, S, F)) 27 [(0, .ref (a 0)), (1, .int kd), (2, .int bd)] [.int (bI (decide (8 ≤ n)))]
      refine v_bif_eq (tgt := 36) h pX3_oyster_0 13 rfl rfl (fun c3 => ?_) (fun c3 => ?_)
      · skip
        have c3n : ¬ n = 8 := by have := of_decide_eq_false c3; omega
        refine v_aload_n h pX3_oyster_0 18 rfl 0 rfl rfl (v_get h pX3_oyster_0 19 fX3_10 0 rfl rfl rfl (v_iload_n h pX3_oyster_0 20 rfl 1 rfl rfl (v_iload_n h pX3_oyster_0 21 rfl 2 rfl rfl ?_)))
        refine v_callV h pX3_oyster_0 22 mX3_79 (As := [.int kd, .int bd]) (st := []) (kX0_addOyster _ _ cI cS (sh a 1) E n hW (by omega) kd bd) v0B v0C emb_E 1 rfl rfl rfl rfl rfl rfl rfl (vDet_k ?_)
        show V K (cW cI cS a (newS E n kd bd, T, Kp, P, S, F)) 45 [(0, .ref (a 0)), (1, .int kd), (2, .int bd)] [.int (nI n)]
        exact v_iret h pX3_oyster_0 23 hR hret rfl ((newS E n kd bd, T, Kp, P, S, F)) rfl ⟨vI (by simp [c1, c2, c3, c3n]), (by simp [c1, c2, c3, c3n, True]), rfl, ⟨rfl, rfl⟩, rfl, (fR_of (by simp [c1, c2, c3, c3n, True]))⟩
      · skip
        have c3n : n = 8 := by have := of_decide_eq_true c3; omega
        refine v_aload_n h pX3_oyster_0 14 rfl 0 rfl rfl (v_iconst h pX3_oyster_0 15 rfl ki_1 ?_)
        refine v_callV h pX3_oyster_0 16 mX3_55 (As := [.int 1]) (st := []) (kX3_finding _ _ cI cS a E T Kp P F S 1 (by decide)) v0B v0C (vEmb_rf _ _) 0 rfl rfl rfl rfl rfl rfl rfl (vDet_k ?_)
        show V K (cW cI cS a (E, T, Kp, P, S, fndC F 1)) 35 [(0, .ref (a 0)), (1, .int kd), (2, .int bd)] [.int ((-1000001) - (nI 1))]
        refine v_top (w := .int (-1000002)) (by decide) ?_
        exact v_iret h pX3_oyster_0 17 hR hret rfl ((E, T, Kp, P, S, fndC F 1)) rfl ⟨vI (by simp [c1, c2, c3, (eq_true c3n)]), (by simp [c1, c2, c3, (eq_true c3n), True]), rfl, ⟨rfl, rfl⟩, rfl, (fR_of (by simp [c1, c2, c3, (eq_true c3n), True]))⟩
    · skip
      refine v_aload_n h pX3_oyster_0 6 rfl 0 rfl rfl (v_iconst h pX3_oyster_0 7 rfl ki_0 ?_)
      refine v_callV h pX3_oyster_0 8 mX3_55 (As := [.int 0]) (st := []) (kX3_finding _ _ cI cS a E T Kp P F S 0 (by decide)) v0B v0C (vEmb_rf _ _) 0 rfl rfl rfl rfl rfl rfl rfl (vDet_k ?_)
      show V K (cW cI cS a (E, T, Kp, P, S, fndC F 0)) 19 [(0, .ref (a 0)), (1, .int kd), (2, .int bd)] [.int ((-1000001) - (nI 0))]
      refine v_top (w := .int (-1000001)) (by decide) ?_
      exact v_iret h pX3_oyster_0 9 hR hret rfl ((E, T, Kp, P, S, fndC F 0)) rfl ⟨vI (by simp [c1, c2]), (by simp [c1, c2, True]), rfl, ⟨rfl, rfl⟩, rfl, (fR_of (by simp [c1, c2, True]))⟩
set_option maxHeartbeats 300000 in
set_option maxRecDepth 100000 in
theorem kX3_of (l : Launch) (D : va_G) (cI cS : ClassId) (a : Nat → Nat) (E T Kp P F : Nat → Nat → Int32) (S : Nat → Nat → Nat → Int32) (n : Nat) (hW : Wf E n) (hZ : E 9 4 = 0) (y w : Int32) : vMet l D (vT cI cS) yX3_of cX3_of 3 (some .int) 2 44 (cW cI cS a) v0 [.ref (a 0), .int y, .int w] (E, T, Kp, P, S, F) (cPost (some (.int (cond (oyB y n && inB w 0 9) (ofS E (ix y) w) ((-1000001))))) (E) (Kp) (P) (S) (cond (oyB y n && inB w 0 9) (F) (fndC F 0))) := by
  refine vMet_of (by decide) rfl ?_
  intro K hl hD hnL hret h hR hEx
  subst hl hD
  show V K (cW cI cS a (E, T, Kp, P, S, F)) 0 [(0, .ref (a 0)), (1, .int y), (2, .int w)] []
  have hn8 := hW.1
  refine v_aload_n h pX3_of_0 0 rfl 0 rfl rfl (v_iload_n h pX3_of_0 1 rfl 1 rfl rfl ?_)
  refine v_callV h pX3_of_0 2 mX3_83 (As := [.int y]) (st := []) (kX3_isOyster _ _ cI cS a E T Kp P F S n hW y) v0B v0C (vEmb_rf _ _) 0 rfl rfl rfl rfl rfl rfl rfl (vDet_k ?_)
  show V K (cW cI cS a (E, T, Kp, P, S, F)) 5 [(0, .ref (a 0)), (1, .int y), (2, .int w)] [.int (bI (oyB y n))]
  refine v_bif_eq (tgt := 17) h pX3_of_0 3 rfl rfl (fun c1 => ?_) (fun c1 => ?_)
  · skip
    refine v_aload_n h pX3_of_0 8 rfl 0 rfl rfl (v_iconst h pX3_of_0 9 rfl ki_0 ?_)
    refine v_callV h pX3_of_0 10 mX3_55 (As := [.int 0]) (st := []) (kX3_finding _ _ cI cS a E T Kp P F S 0 (by decide)) v0B v0C (vEmb_rf _ _) 0 rfl rfl rfl rfl rfl rfl rfl (vDet_k ?_)
    show V K (cW cI cS a (E, T, Kp, P, S, fndC F 0)) 22 [(0, .ref (a 0)), (1, .int y), (2, .int w)] [.int ((-1000001) - (nI 0))]
    refine v_top (w := .int (-1000001)) (by decide) ?_
    exact v_iret h pX3_of_0 11 hR hret rfl ((E, T, Kp, P, S, fndC F 0)) rfl ⟨vI (by simp [ofS, bI, c1]), rfl, rfl, ⟨rfl, rfl⟩, rfl, (fR_of (by simp [c1, True]))⟩
  · skip
    obtain ⟨e_y, l_y⟩ := oyB_t hn8 c1
    refine v_iload_n h pX3_of_0 4 rfl 2 rfl rfl (v_bipush h pX3_of_0 5 rfl kb_9 ?_)
    refine v_callS h pX3_of_0 6 mX3_51 (As := [.int w, .int 9]) (st := []) (kX3_isWithin _ _ cI cS w 9) v0B v0C (vEmb_u _) rfl rfl rfl rfl rfl (vDet_k ?_)
    show V K (cW cI cS a (E, T, Kp, P, S, F)) 14 [(0, .ref (a 0)), (1, .int y), (2, .int w)] [.int (bI (inB w 0 9))]
    refine v_bif_ne (tgt := 23) h pX3_of_0 7 rfl rfl (fun c2 => ?_) (fun c2 => ?_)
    · skip
      obtain ⟨e_w, l_w⟩ := inB_t 9 rfl (by decide) c2
      refine v_iload_n h pX3_of_0 12 rfl 2 rfl rfl ?_
      by_cases c3 : w = 6
      · skip
        refine v_tin (tgt := 56) h pX3_of_0 13 c3 rfl (by decide) (by decide) rfl rfl (v_aload_n h pX3_of_0 14 rfl 0 rfl rfl (v_get h pX3_of_0 15 fX3_10 0 rfl rfl rfl (v_iload_n h pX3_of_0 16 rfl 1 rfl rfl (v_top (w := .int (nI (ix y))) (congrArg Value.int e_y) ?_))))
        refine v_callV h pX3_of_0 17 mX3_86 (As := [.int (nI (ix y))]) (st := []) (kX0_takes _ _ cI cS (sh a 1) E (ix y) (by omega)) v0B v0C emb_E 1 rfl rfl rfl rfl rfl rfl rfl (vDet_k ?_)
        show V K (cW cI cS a (E, T, Kp, P, S, F)) 64 [(0, .ref (a 0)), (1, .int y), (2, .int w)] [.int (takesS E (ix y))]
        exact v_iret h pX3_of_0 18 hR hret rfl ((E, T, Kp, P, S, F)) rfl ⟨vI (by simp [ofS, bI, c1, c2, (eq_true c3)]), rfl, rfl, ⟨rfl, rfl⟩, rfl, (fR_of (by simp [c1, c2, (eq_true c3), True]))⟩
      by_cases c4 : w = 7
      · skip
        refine v_tin (tgt := 65) h pX3_of_0 13 c4 rfl (by decide) (by decide) rfl rfl (v_aload_n h pX3_of_0 19 rfl 0 rfl rfl (v_get h pX3_of_0 20 fX3_10 0 rfl rfl rfl (v_iload_n h pX3_of_0 21 rfl 1 rfl rfl (v_top (w := .int (nI (ix y))) (congrArg Value.int e_y) ?_))))
        refine v_callV h pX3_of_0 22 mX3_89 (As := [.int (nI (ix y))]) (st := []) (kX0_needs _ _ cI cS (sh a 1) E (ix y) (by omega) n hW) v0B v0C emb_E 1 rfl rfl rfl rfl rfl rfl rfl (vDet_k ?_)
        show V K (cW cI cS a (E, T, Kp, P, S, F)) 73 [(0, .ref (a 0)), (1, .int y), (2, .int w)] [.int (needsS E (ix y))]
        exact v_iret h pX3_of_0 23 hR hret rfl ((E, T, Kp, P, S, F)) rfl ⟨vI (by simp [ofS, bI, c1, c2, c3, (eq_true c4)]), rfl, rfl, ⟨rfl, rfl⟩, rfl, (fR_of (by simp [c1, c2, c3, (eq_true c4), True]))⟩
      by_cases c5 : w = 8
      · skip
        refine v_tin (tgt := 74) h pX3_of_0 13 c5 rfl (by decide) (by decide) rfl rfl (v_aload_n h pX3_of_0 24 rfl 0 rfl rfl (v_get h pX3_of_0 25 fX3_10 0 rfl rfl rfl (v_iload_n h pX3_of_0 26 rfl 1 rfl rfl (v_top (w := .int (nI (ix y))) (congrArg Value.int e_y) ?_))))
        refine v_callV h pX3_of_0 27 mX3_92 (As := [.int (nI (ix y))]) (st := []) (kX0_opens _ _ cI cS (sh a 1) E (ix y) (by omega) n hW) v0B v0C emb_E 1 rfl rfl rfl rfl rfl rfl rfl (vDet_k ?_)
        show V K (cW cI cS a (E, T, Kp, P, S, F)) 82 [(0, .ref (a 0)), (1, .int y), (2, .int w)] [.int (bI (opensS E (ix y)))]
        refine v_bif_eq (tgt := 89) h pX3_of_0 28 rfl rfl (fun c6 => ?_) (fun c6 => ?_)
        · skip
          refine v_iconst h pX3_of_0 31 rfl ki_0 ?_
          exact v_iret h pX3_of_1 0 hR hret rfl ((E, T, Kp, P, S, F)) rfl ⟨vI (by simp [ofS, bI, c1, c2, c3, c4, (eq_true c5), c6]), rfl, rfl, ⟨rfl, rfl⟩, rfl, (fR_of (by simp [c1, c2, c3, c4, (eq_true c5), c6, True]))⟩
        · skip
          refine v_iconst h pX3_of_0 29 rfl ki_1 (v_goto (tgt := 90) h pX3_of_0 30 rfl rfl ?_)
          exact v_iret h pX3_of_1 0 hR hret rfl ((E, T, Kp, P, S, F)) rfl ⟨vI (by simp [ofS, bI, c1, c2, c3, c4, (eq_true c5), c6]), rfl, rfl, ⟨rfl, rfl⟩, rfl, (fR_of (by simp [c1, c2, c3, c4, (eq_true c5), c6, True]))⟩
      by_cases c7 : w = 9
      · skip
        refine v_tin (tgt := 91) h pX3_of_0 13 c7 rfl (by decide) (by decide) rfl rfl (v_aload_n h pX3_of_1 1 rfl 0 rfl rfl (v_get h pX3_of_1 2 fX3_10 0 rfl rfl rfl (v_iload_n h pX3_of_1 3 rfl 1 rfl rfl (v_top (w := .int (nI (ix y))) (congrArg Value.int e_y) ?_))))
        refine v_callV h pX3_of_1 4 mX3_95 (As := [.int (nI (ix y))]) (st := []) (kX0_worthOf _ _ cI cS (sh a 1) E (ix y) (by omega)) v0B v0C emb_E 1 rfl rfl rfl rfl rfl rfl rfl (vDet_k ?_)
        show V K (cW cI cS a (E, T, Kp, P, S, F)) 99 [(0, .ref (a 0)), (1, .int y), (2, .int w)] [.int (worthS E (ix y))]
        exact v_iret h pX3_of_1 5 hR hret rfl ((E, T, Kp, P, S, F)) rfl ⟨vI (by simp [ofS, bI, c1, c2, c3, c4, c5, (eq_true c7)]), rfl, rfl, ⟨rfl, rfl⟩, rfl, (fR_of (by simp [c1, c2, c3, c4, c5, (eq_true c7), True]))⟩
      refine v_tout (tgt := 100) h pX3_of_0 13 rfl (sw_6_9 c3 c4 c5 c7) rfl ?_
      have q6 : ix w ≠ 6 := fun e => c3 (by rw [e_w, e]; rfl)
      have q7 : ix w ≠ 7 := fun e => c4 (by rw [e_w, e]; rfl)
      have q8 : ix w ≠ 8 := fun e => c5 (by rw [e_w, e]; rfl)
      have q9 : ix w ≠ 9 := fun e => c7 (by rw [e_w, e]; rfl)
      refine v_aload_n h pX3_of_1 6 rfl 0 rfl rfl (v_get h pX3_of_1 7 fX3_10 0 rfl rfl rfl (v_iload_n h pX3_of_1 8 rfl 2 rfl rfl ?_))
      refine v_callV h pX3_of_1 9 mX3_98 (As := [.int w]) (st := []) (kX0_rowOf _ _ cI cS (sh a 1) E w) v0B v0C emb_E 1 rfl rfl rfl rfl rfl rfl rfl (vDet_k ?_)
      show V K (cW cI cS a (E, T, Kp, P, S, F)) 108 [(0, .ref (a 0)), (1, .int y), (2, .int w)] [.ref (sh a 1 (rowA w))]
      refine v_top (w := .ref (a (4 + ix w))) (congrArg Value.ref (rowA_a (b := 1) e_w (by omega))) (v_iload_n h pX3_of_1 10 rfl 1 rfl rfl (v_top (w := .int (nI (ix y))) (congrArg Value.int e_y) (v_iald h pX3_of_1 11 (ix y) (4 + ix w) 0 rfl (cW_row0 (by omega)) rfl rfl rfl (by omega) ?_)))
      exact v_iret h pX3_of_1 12 hR hret rfl ((E, T, Kp, P, S, F)) rfl ⟨vI (by simp [ofS, bI, c1, c2, c3, c4, c5, c7]), rfl, rfl, ⟨rfl, rfl⟩, rfl, (fR_of (by simp [c1, c2, c3, c4, c5, c7, True]))⟩
    · skip
      refine v_aload_n h pX3_of_0 8 rfl 0 rfl rfl (v_iconst h pX3_of_0 9 rfl ki_0 ?_)
      refine v_callV h pX3_of_0 10 mX3_55 (As := [.int 0]) (st := []) (kX3_finding _ _ cI cS a E T Kp P F S 0 (by decide)) v0B v0C (vEmb_rf _ _) 0 rfl rfl rfl rfl rfl rfl rfl (vDet_k ?_)
      show V K (cW cI cS a (E, T, Kp, P, S, fndC F 0)) 22 [(0, .ref (a 0)), (1, .int y), (2, .int w)] [.int ((-1000001) - (nI 0))]
      refine v_top (w := .int (-1000001)) (by decide) ?_
      exact v_iret h pX3_of_0 11 hR hret rfl ((E, T, Kp, P, S, fndC F 0)) rfl ⟨vI (by simp [ofS, bI, c1, c2]), rfl, rfl, ⟨rfl, rfl⟩, rfl, (fR_of (by simp [c1, c2, True]))⟩
set_option maxHeartbeats 300000 in
set_option maxRecDepth 100000 in
theorem kX3_open (l : Launch) (D : va_G) (cI cS : ClassId) (a : Nat → Nat) (E T Kp P F : Nat → Nat → Int32) (S : Nat → Nat → Nat → Int32) (n : Nat) (hW : Wf E n) (hZ : E 9 4 = 0) (y : Int32) : vMet l D (vT cI cS) yX3_open cX3_open 3 (some .int) 2 44 (cW cI cS a) v0 [.ref (a 0), .int y] (E, T, Kp, P, S, F) (cPost (some (.int (cond (oyB y n) (worthS E (ix y)) ((-1000001))))) (cond (oyB y n) (clearS E (ix y)) (E)) (Kp) (P) (S) (cond (oyB y n) (F) (fndC F 0))) := by
  refine vMet_of (by decide) rfl ?_
  intro K hl hD hnL hret h hR hEx
  subst hl hD
  show V K (cW cI cS a (E, T, Kp, P, S, F)) 0 [(0, .ref (a 0)), (1, .int y)] []
  have hn8 := hW.1
  refine v_aload_n h pX3_open_0 0 rfl 0 rfl rfl (v_iload_n h pX3_open_0 1 rfl 1 rfl rfl ?_)
  refine v_callV h pX3_open_0 2 mX3_83 (As := [.int y]) (st := []) (kX3_isOyster _ _ cI cS a E T Kp P F S n hW y) v0B v0C (vEmb_rf _ _) 0 rfl rfl rfl rfl rfl rfl rfl (vDet_k ?_)
  show V K (cW cI cS a (E, T, Kp, P, S, F)) 5 [(0, .ref (a 0)), (1, .int y)] [.int (bI (oyB y n))]
  refine v_bif_ne (tgt := 14) h pX3_open_0 3 rfl rfl (fun c1 => ?_) (fun c1 => ?_)
  · skip
    obtain ⟨e_y, l_y⟩ := oyB_t hn8 c1
    refine v_aload_n h pX3_open_0 8 rfl 0 rfl rfl (v_get h pX3_open_0 9 fX3_10 0 rfl rfl rfl (v_iload_n h pX3_open_0 10 rfl 1 rfl rfl (v_top (w := .int (nI (ix y))) (congrArg Value.int e_y) ?_)))
    refine v_callV h pX3_open_0 11 mX3_95 (As := [.int (nI (ix y))]) (st := []) (kX0_worthOf _ _ cI cS (sh a 1) E (ix y) (by omega)) v0B v0C emb_E 1 rfl rfl rfl rfl rfl rfl rfl (vDet_k ?_)
    show V K (cW cI cS a (E, T, Kp, P, S, F)) 22 [(0, .ref (a 0)), (1, .int y)] [.int (worthS E (ix y))]
    refine v_istore_n h pX3_open_0 12 (lv' := [(2, .int (worthS E (ix y))), (0, .ref (a 0)), (1, .int y)]) rfl rfl hnL rfl rfl (v_aload_n h pX3_open_0 13 rfl 1 rfl rfl (v_get h pX3_open_0 14 fX3_10 0 rfl rfl rfl (v_iload_n h pX3_open_0 15 rfl 2 rfl rfl (v_top (w := .int (nI (ix y))) (congrArg Value.int e_y) ?_))))
    refine v_callV h pX3_open_0 16 mX3_105 (As := [.int (nI (ix y))]) (st := []) (kX0_clearOyster _ _ cI cS (sh a 1) E (ix y) (by omega)) v0B v0C emb_E 1 rfl rfl rfl rfl rfl rfl rfl (vDet_k ?_)
    show V K (cW cI cS a (clearS E (ix y), T, Kp, P, S, F)) 31 [(2, .int (worthS E (ix y))), (0, .ref (a 0)), (1, .int y)] []
    refine v_iload_n h pX3_open_0 17 rfl 0 rfl rfl ?_
    exact v_iret h pX3_open_0 18 hR hret rfl ((clearS E (ix y), T, Kp, P, S, F)) rfl ⟨vI (by simp [c1]), (by simp [c1, True]), rfl, ⟨rfl, rfl⟩, rfl, (fR_of (by simp [c1, True]))⟩
  · skip
    refine v_aload_n h pX3_open_0 4 rfl 0 rfl rfl (v_iconst h pX3_open_0 5 rfl ki_0 ?_)
    refine v_callV h pX3_open_0 6 mX3_55 (As := [.int 0]) (st := []) (kX3_finding _ _ cI cS a E T Kp P F S 0 (by decide)) v0B v0C (vEmb_rf _ _) 0 rfl rfl rfl rfl rfl rfl rfl (vDet_k ?_)
    show V K (cW cI cS a (E, T, Kp, P, S, fndC F 0)) 13 [(0, .ref (a 0)), (1, .int y)] [.int ((-1000001) - (nI 0))]
    refine v_top (w := .int (-1000001)) (by decide) ?_
    exact v_iret h pX3_open_0 7 hR hret rfl ((E, T, Kp, P, S, fndC F 0)) rfl ⟨vI (by simp [c1]), (by simp [c1, True]), rfl, ⟨rfl, rfl⟩, rfl, (fR_of (by simp [c1, True]))⟩
set_option maxHeartbeats 300000 in
set_option maxRecDepth 100000 in
theorem kX3_go (l : Launch) (D : va_G) (cI cS : ClassId) (a : Nat → Nat) (E T Kp P F : Nat → Nat → Int32) (S : Nat → Nat → Nat → Int32) (n : Nat) (hW : Wf E n) (hZ : E 9 4 = 0) (k : Int32) : vMet l D (vT cI cS) yX3_go cX3_go 2 (some .int) 5 104 (cW cI cS a) v0 [.ref (a 0), .int k] (E, T, Kp, P, S, F) (cPost (some (.int (cond (inB k 1 60) (if 99999 < E 9 2 + k then (-1000005) else sumS (yearsS n 0 E (ix k) 5) n) ((-1000001))))) (cond (inB k 1 60) (if 99999 < E 9 2 + k then E else yearsS n 0 E (ix k)) (E)) (Kp) (P) (S) (cond (inB k 1 60) (if 99999 < E 9 2 + k then fndC F 4 else F) (fndC F 0))) := by
  refine vMet_of (by decide) rfl ?_
  intro K hl hD hnL hret h hR hEx
  subst hl hD
  show V K (cW cI cS a (E, T, Kp, P, S, F)) 0 [(0, .ref (a 0)), (1, .int k)] []
  have hn8 := hW.1
  refine v_iload_n h pX3_go_0 0 rfl 1 rfl rfl (v_iconst h pX3_go_0 1 rfl ki_1 ?_)
  refine v_icmp_lt (tgt := 11) h pX3_go_0 2 rfl rfl (fun c1 => ?_) (fun c1 => ?_)
  · skip
    refine v_aload_n h pX3_go_0 6 rfl 0 rfl rfl (v_iconst h pX3_go_0 7 rfl ki_0 ?_)
    refine v_callV h pX3_go_0 8 mX3_55 (As := [.int 0]) (st := []) (kX3_finding _ _ cI cS a E T Kp P F S 0 (by decide)) v0B v0C (vEmb_rf _ _) 0 rfl rfl rfl rfl rfl rfl rfl (vDet_k ?_)
    show V K (cW cI cS a (E, T, Kp, P, S, fndC F 0)) 16 [(0, .ref (a 0)), (1, .int k)] [.int ((-1000001) - (nI 0))]
    refine v_top (w := .int (-1000001)) (by decide) ?_
    exact v_iret h pX3_go_0 9 hR hret rfl ((E, T, Kp, P, S, fndC F 0)) rfl ⟨vI (by simp [inB, c1, True, -Int32.not_lt]), (by simp [inB, c1, True, -Int32.not_lt]), rfl, ⟨rfl, rfl⟩, rfl, (fR_of (by simp [inB, c1, True, -Int32.not_lt]))⟩
  · skip
    refine v_iload_n h pX3_go_0 3 rfl 1 rfl rfl (v_bipush h pX3_go_0 4 rfl kb_60 ?_)
    refine v_icmp_le2 (tgt := 17) h pX3_go_0 5 rfl rfl (fun c2 => ?_) (fun c2 => ?_)
    · skip
      have hin_k : inB k 1 60 = true := by simp [inB, c1, c2, -Int32.not_lt]
      obtain ⟨e_k, l_k⟩ := inBl_t 1 60 rfl rfl (by decide) (by decide) hin_k
      refine v_aload_n h pX3_go_0 10 rfl 0 rfl rfl (v_get h pX3_go_0 11 fX3_10 0 rfl rfl rfl (v_get h pX3_go_0 12 fX3_109 1 rfl rfl rfl (v_iload_n h pX3_go_0 13 rfl 1 rfl rfl (v_iadd h pX3_go_0 14 rfl (v_ldc h pX3_go_0 15 wm_280 rfl ?_)))))
      refine v_icmp_le2 (tgt := 37) h pX3_go_0 16 rfl rfl (fun c3 => ?_) (fun c3 => ?_)
      · skip
        refine v_aload_n h pX3_go_0 21 rfl 0 rfl rfl (v_get h pX3_go_0 22 fX3_10 0 rfl rfl rfl (v_iload_n h pX3_go_0 23 rfl 1 rfl rfl (v_top (w := .int (nI (ix k))) (congrArg Value.int e_k) ?_)))
        refine v_callV h pX3_go_0 24 mX3_113 (As := [.int (nI (ix k))]) (st := []) (kX0_passYears0 _ _ cI cS (sh a 1) E n hW (ix k) (by omega) hZ) v0B v0C emb_E 1 rfl rfl rfl rfl rfl rfl rfl (vDet_k ?_)
        show V K (cW cI cS a (yearsS n 0 E (ix k), T, Kp, P, S, F)) 45 [(0, .ref (a 0)), (1, .int k)] []
        refine v_aload_n h pX3_go_0 25 rfl 0 rfl rfl (v_get h pX3_go_0 26 fX3_10 0 rfl rfl rfl (v_aload_n h pX3_go_0 27 rfl 0 rfl rfl (v_get h pX3_go_0 28 fX3_10 0 rfl rfl rfl (v_get h pX3_go_0 29 fX3_116 1 rfl rfl rfl ?_))))
        refine v_callV h pX3_go_0 30 mX3_119 (As := [.ref (a 7)]) (st := []) (kX0_sumOf _ _ cI cS (sh a 1) (yearsS n 0 E (ix k)) n (Wf_years hW 0 _) 5 (by decide) (by decide)) v0B v0C emb_E 1 rfl rfl rfl rfl rfl rfl rfl (vDet_k ?_)
        show V K (cW cI cS a (yearsS n 0 E (ix k), T, Kp, P, S, F)) 59 [(0, .ref (a 0)), (1, .int k)] [.int (sumS ((yearsS n 0 E (ix k)) 5) n)]
        exact v_iret h pX3_go_0 31 hR hret rfl ((yearsS n 0 E (ix k), T, Kp, P, S, F)) rfl ⟨vI (by simp [inB, c1, c2, c3, True, -Int32.not_lt]), (by simp [inB, c1, c2, c3, True, -Int32.not_lt]), rfl, ⟨rfl, rfl⟩, rfl, (fR_of (by simp [inB, c1, c2, c3, True, -Int32.not_lt]))⟩
      · skip
        refine v_aload_n h pX3_go_0 17 rfl 0 rfl rfl (v_iconst h pX3_go_0 18 rfl ki_4 ?_)
        refine v_callV h pX3_go_0 19 mX3_55 (As := [.int 4]) (st := []) (kX3_finding _ _ cI cS a E T Kp P F S 4 (by decide)) v0B v0C (vEmb_rf _ _) 0 rfl rfl rfl rfl rfl rfl rfl (vDet_k ?_)
        show V K (cW cI cS a (E, T, Kp, P, S, fndC F 4)) 36 [(0, .ref (a 0)), (1, .int k)] [.int ((-1000001) - (nI 4))]
        refine v_top (w := .int (-1000005)) (by decide) ?_
        exact v_iret h pX3_go_0 20 hR hret rfl ((E, T, Kp, P, S, fndC F 4)) rfl ⟨vI (by simp [inB, c1, c2, c3, True, -Int32.not_lt]), (by simp [inB, c1, c2, c3, True, -Int32.not_lt]), rfl, ⟨rfl, rfl⟩, rfl, (fR_of (by simp [inB, c1, c2, c3, True, -Int32.not_lt]))⟩
    · skip
      refine v_aload_n h pX3_go_0 6 rfl 0 rfl rfl (v_iconst h pX3_go_0 7 rfl ki_0 ?_)
      refine v_callV h pX3_go_0 8 mX3_55 (As := [.int 0]) (st := []) (kX3_finding _ _ cI cS a E T Kp P F S 0 (by decide)) v0B v0C (vEmb_rf _ _) 0 rfl rfl rfl rfl rfl rfl rfl (vDet_k ?_)
      show V K (cW cI cS a (E, T, Kp, P, S, fndC F 0)) 16 [(0, .ref (a 0)), (1, .int k)] [.int ((-1000001) - (nI 0))]
      refine v_top (w := .int (-1000001)) (by decide) ?_
      exact v_iret h pX3_go_0 9 hR hret rfl ((E, T, Kp, P, S, fndC F 0)) rfl ⟨vI (by simp [inB, c1, c2, True, -Int32.not_lt]), (by simp [inB, c1, c2, True, -Int32.not_lt]), rfl, ⟨rfl, rfl⟩, rfl, (fR_of (by simp [inB, c1, c2, True, -Int32.not_lt]))⟩
set_option maxHeartbeats 300000 in
set_option maxRecDepth 100000 in
theorem kX3_now (l : Launch) (D : va_G) (cI cS : ClassId) (a : Nat → Nat) (E T Kp P F : Nat → Nat → Int32) (S : Nat → Nat → Nat → Int32) (n : Nat) (hW : Wf E n) (hZ : E 9 4 = 0) (w : Int32) : vMet l D (vT cI cS) yX3_now cX3_now 2 (some .int) 4 78 (cW cI cS a) v0 [.ref (a 0), .int w] (E, T, Kp, P, S, F) (cPost (some (.int (nowS E n w))) (E) (Kp) (P) (S) (cond (sel7 w) (F) (fndC F 0))) := by
  refine vMet_of (by decide) rfl ?_
  intro K hl hD hnL hret h hR hEx
  subst hl hD
  show V K (cW cI cS a (E, T, Kp, P, S, F)) 0 [(0, .ref (a 0)), (1, .int w)] []
  have hn8 := hW.1
  refine v_iload_n h pX3_now_0 0 rfl 1 rfl rfl ?_
  by_cases c1 : w = 0
  · skip
    refine v_tin (tgt := 44) h pX3_now_0 1 c1 rfl (by decide) (by decide) rfl rfl (v_aload_n h pX3_now_0 2 rfl 0 rfl rfl (v_get h pX3_now_0 3 fX3_10 0 rfl rfl rfl (v_get h pX3_now_0 4 fX3_109 1 rfl rfl rfl ?_)))
    exact v_iret h pX3_now_0 5 hR hret rfl ((E, T, Kp, P, S, F)) rfl ⟨vI (by simp [nowS, (eq_true c1)]), rfl, rfl, ⟨rfl, rfl⟩, rfl, (fR_of (by simp [sel7, (eq_true c1), True]))⟩
  by_cases c2 : w = 1
  · skip
    refine v_tin (tgt := 52) h pX3_now_0 1 c2 rfl (by decide) (by decide) rfl rfl (v_aload_n h pX3_now_0 6 rfl 0 rfl rfl (v_get h pX3_now_0 7 fX3_10 0 rfl rfl rfl (v_aload_n h pX3_now_0 8 rfl 0 rfl rfl (v_get h pX3_now_0 9 fX3_10 0 rfl rfl rfl (v_get h pX3_now_0 10 fX3_116 1 rfl rfl rfl ?_)))))
    refine v_callV h pX3_now_0 11 mX3_119 (As := [.ref (a 7)]) (st := []) (kX0_sumOf _ _ cI cS (sh a 1) E n hW 5 (by decide) (by decide)) v0B v0C emb_E 1 rfl rfl rfl rfl rfl rfl rfl (vDet_k ?_)
    show V K (cW cI cS a (E, T, Kp, P, S, F)) 66 [(0, .ref (a 0)), (1, .int w)] [.int (sumS (E 5) n)]
    exact v_iret h pX3_now_0 12 hR hret rfl ((E, T, Kp, P, S, F)) rfl ⟨vI (by simp [nowS, c1, (eq_true c2)]), rfl, rfl, ⟨rfl, rfl⟩, rfl, (fR_of (by simp [sel7, c1, (eq_true c2), True]))⟩
  by_cases c3 : w = 2
  · skip
    refine v_tin (tgt := 67) h pX3_now_0 1 c3 rfl (by decide) (by decide) rfl rfl (v_aload_n h pX3_now_0 13 rfl 0 rfl rfl (v_get h pX3_now_0 14 fX3_10 0 rfl rfl rfl ?_))
    refine v_callV h pX3_now_0 15 mX3_123 (As := []) (st := []) (kX0_toldSet _ _ cI cS (sh a 1) E n hW) v0B v0C emb_E 1 rfl rfl rfl rfl rfl rfl rfl (vDet_k ?_)
    show V K (cW cI cS a (E, T, Kp, P, S, F)) 74 [(0, .ref (a 0)), (1, .int w)] [.int (setS (toldS E) n)]
    exact v_iret h pX3_now_0 16 hR hret rfl ((E, T, Kp, P, S, F)) rfl ⟨vI (by simp [nowS, c1, c2, (eq_true c3)]), rfl, rfl, ⟨rfl, rfl⟩, rfl, (fR_of (by simp [sel7, c1, c2, (eq_true c3), True]))⟩
  by_cases c4 : w = 3
  · skip
    refine v_tin (tgt := 75) h pX3_now_0 1 c4 rfl (by decide) (by decide) rfl rfl (v_aload_n h pX3_now_0 17 rfl 0 rfl rfl (v_get h pX3_now_0 18 fX3_10 0 rfl rfl rfl ?_))
    refine v_callV h pX3_now_0 19 mX3_127 (As := []) (st := []) (kX0_hiddenSet _ _ cI cS (sh a 1) E n hW) v0B v0C emb_E 1 rfl rfl rfl rfl rfl rfl rfl (vDet_k ?_)
    show V K (cW cI cS a (E, T, Kp, P, S, F)) 82 [(0, .ref (a 0)), (1, .int w)] [.int (setS (hiddenS E) n)]
    exact v_iret h pX3_now_0 20 hR hret rfl ((E, T, Kp, P, S, F)) rfl ⟨vI (by simp [nowS, c1, c2, c3, (eq_true c4)]), rfl, rfl, ⟨rfl, rfl⟩, rfl, (fR_of (by simp [sel7, c1, c2, c3, (eq_true c4), True]))⟩
  by_cases c5 : w = 4
  · skip
    refine v_tin (tgt := 83) h pX3_now_0 1 c5 rfl (by decide) (by decide) rfl rfl (v_aload_n h pX3_now_0 21 rfl 0 rfl rfl (v_get h pX3_now_0 22 fX3_10 0 rfl rfl rfl ?_))
    refine v_callV h pX3_now_0 23 mX3_130 (As := []) (st := []) (kX0_nacreTogether _ _ cI cS (sh a 1) E) v0B v0C emb_E 1 rfl rfl rfl rfl rfl rfl rfl (vDet_k ?_)
    show V K (cW cI cS a (E, T, Kp, P, S, F)) 90 [(0, .ref (a 0)), (1, .int w)] [.int (sumS (E 0) 6)]
    exact v_iret h pX3_now_0 24 hR hret rfl ((E, T, Kp, P, S, F)) rfl ⟨vI (by simp [nowS, c1, c2, c3, c4, (eq_true c5)]), rfl, rfl, ⟨rfl, rfl⟩, rfl, (fR_of (by simp [sel7, c1, c2, c3, c4, (eq_true c5), True]))⟩
  by_cases c6 : w = 5
  · skip
    refine v_tin (tgt := 91) h pX3_now_0 1 c6 rfl (by decide) (by decide) rfl rfl (v_aload_n h pX3_now_0 25 rfl 0 rfl rfl (v_get h pX3_now_0 26 fX3_10 0 rfl rfl rfl ?_))
    refine v_callV h pX3_now_0 27 mX3_133 (As := []) (st := []) (kX0_worthTogether _ _ cI cS (sh a 1) E n hW) v0B v0C emb_E 1 rfl rfl rfl rfl rfl rfl rfl (vDet_k ?_)
    show V K (cW cI cS a (E, T, Kp, P, S, F)) 98 [(0, .ref (a 0)), (1, .int w)] [.int (sumS (worthS E) n)]
    exact v_iret h pX3_now_0 28 hR hret rfl ((E, T, Kp, P, S, F)) rfl ⟨vI (by simp [nowS, c1, c2, c3, c4, c5, (eq_true c6)]), rfl, rfl, ⟨rfl, rfl⟩, rfl, (fR_of (by simp [sel7, c1, c2, c3, c4, c5, (eq_true c6), True]))⟩
  by_cases c7 : w = 6
  · skip
    refine v_tin (tgt := 99) h pX3_now_0 1 c7 rfl (by decide) (by decide) rfl rfl (v_aload_n h pX3_now_0 29 rfl 0 rfl rfl (v_get h pX3_now_0 30 fX3_10 0 rfl rfl rfl (v_aload_n h pX3_now_0 31 rfl 0 rfl rfl (v_get h pX3_now_1 0 fX3_10 0 rfl rfl rfl (v_get h pX3_now_1 1 fX3_136 1 rfl rfl rfl ?_)))))
    refine v_callV h pX3_now_1 2 mX3_119 (As := [.ref (a 9)]) (st := []) (kX0_sumOf _ _ cI cS (sh a 1) E n hW 7 (by decide) (by decide)) v0B v0C emb_E 1 rfl rfl rfl rfl rfl rfl rfl (vDet_k ?_)
    show V K (cW cI cS a (E, T, Kp, P, S, F)) 113 [(0, .ref (a 0)), (1, .int w)] [.int (sumS (E 7) n)]
    exact v_iret h pX3_now_1 3 hR hret rfl ((E, T, Kp, P, S, F)) rfl ⟨vI (by simp [nowS, c1, c2, c3, c4, c5, c6, (eq_true c7)]), rfl, rfl, ⟨rfl, rfl⟩, rfl, (fR_of (by simp [sel7, c1, c2, c3, c4, c5, c6, (eq_true c7), True]))⟩
  refine v_tout (tgt := 114) h pX3_now_0 1 rfl (sw_0_6 c1 c2 c3 c4 c5 c6 c7) rfl (v_aload_n h pX3_now_1 4 rfl 0 rfl rfl (v_iconst h pX3_now_1 5 rfl ki_0 ?_))
  refine v_callV h pX3_now_1 6 mX3_55 (As := [.int 0]) (st := []) (kX3_finding _ _ cI cS a E T Kp P F S 0 (by decide)) v0B v0C (vEmb_rf _ _) 0 rfl rfl rfl rfl rfl rfl rfl (vDet_k ?_)
  show V K (cW cI cS a (E, T, Kp, P, S, fndC F 0)) 119 [(0, .ref (a 0)), (1, .int w)] [.int ((-1000001) - (nI 0))]
  refine v_top (w := .int (-1000001)) (by decide) ?_
  exact v_iret h pX3_now_1 7 hR hret rfl ((E, T, Kp, P, S, fndC F 0)) rfl ⟨vI (by simp [nowS, c1, c2, c3, c4, c5, c6, c7]), rfl, rfl, ⟨rfl, rfl⟩, rfl, (fR_of (by simp [sel7, c1, c2, c3, c4, c5, c6, c7, True]))⟩
set_option maxHeartbeats 300000 in
set_option maxRecDepth 100000 in
theorem kX3_ahead (l : Launch) (D : va_G) (cI cS : ClassId) (a : Nat → Nat) (E T Kp P F : Nat → Nat → Int32) (S : Nat → Nat → Nat → Int32) (n : Nat) (hW : Wf E n) (hZ : E 9 4 = 0) (y w k : Int32) : vMet l D (vT cI cS) yX3_ahead cX3_ahead 5 (some .int) 5 104 (cW cI cS a) v0 [.ref (a 0), .int y, .int w, .int k] (E, T, Kp, P, S, F) (cPost (some (.int (cond (oyB y n && (w235 w && inB k 0 100)) (thenS (yearsS n 0 E (ix k)) (ix y) (ix w)) ((-1000001))))) (E) (Kp) (P) (S) (cond (oyB y n && (w235 w && inB k 0 100)) (F) (fndC F 0))) := by
  refine vMet_of (by decide) rfl ?_
  intro K hl hD hnL hret h hR hEx
  subst hl hD
  show V K (cW cI cS a (E, T, Kp, P, S, F)) 0 [(0, .ref (a 0)), (1, .int y), (2, .int w), (3, .int k)] []
  have hn8 := hW.1
  refine v_iload_n h pX3_ahead_0 0 rfl 2 rfl rfl (v_iconst h pX3_ahead_0 1 rfl ki_2 ?_)
  refine v_icmp_eq (tgt := 15) h pX3_ahead_0 2 rfl rfl (fun c1 => ?_) (fun c1 => ?_)
  · skip
    refine v_iconst h pX3_ahead_0 9 rfl ki_1 (v_goto (tgt := 20) h pX3_ahead_0 10 rfl rfl (v_istore h pX3_ahead_0 12 (lv' := [(4, .int 1), (0, .ref (a 0)), (1, .int y), (2, .int w), (3, .int k)]) rfl hnL rfl rfl (v_aload_n h pX3_ahead_0 13 rfl 1 rfl rfl (v_iload_n h pX3_ahead_0 14 rfl 2 rfl rfl ?_))))
    refine v_callV h pX3_ahead_0 15 mX3_83 (As := [.int y]) (st := []) (kX3_isOyster _ _ cI cS a E T Kp P F S n hW y) v0B v0C (vEmb_rf _ _) 0 rfl rfl rfl rfl rfl rfl rfl (vDet_k ?_)
    show V K (cW cI cS a (E, T, Kp, P, S, F)) 27 [(4, .int 1), (0, .ref (a 0)), (1, .int y), (2, .int w), (3, .int k)] [.int (bI (oyB y n))]
    refine v_bif_eq (tgt := 44) h pX3_ahead_0 16 rfl rfl (fun c2 => ?_) (fun c2 => ?_)
    · skip
      refine v_aload_n h pX3_ahead_0 23 rfl 1 rfl rfl (v_iconst h pX3_ahead_0 24 rfl ki_0 ?_)
      refine v_callV h pX3_ahead_0 25 mX3_55 (As := [.int 0]) (st := []) (kX3_finding _ _ cI cS a E T Kp P F S 0 (by decide)) v0B v0C (vEmb_rf _ _) 0 rfl rfl rfl rfl rfl rfl rfl (vDet_k ?_)
      show V K (cW cI cS a (E, T, Kp, P, S, fndC F 0)) 49 [(4, .int 1), (0, .ref (a 0)), (1, .int y), (2, .int w), (3, .int k)] [.int ((-1000001) - (nI 0))]
      refine v_top (w := .int (-1000001)) (by decide) ?_
      exact v_iret h pX3_ahead_0 26 hR hret rfl ((E, T, Kp, P, S, fndC F 0)) rfl ⟨vI (by first | (simp [w235, (eq_true c1), c2]; done) | (simp [w235, thenS, l_w, (eq_true c1), c2])), rfl, rfl, ⟨rfl, rfl⟩, rfl, (fR_of (by simp [w235, (eq_true c1), c2]))⟩
    · skip
      obtain ⟨e_y, l_y⟩ := oyB_t hn8 c2
      refine v_iload h pX3_ahead_0 17 rfl 0 rfl ?_
      refine v_if_eq (tgt := 44) h pX3_ahead_0 18 rfl rfl (fun c3 => absurd c3 (by decide)) (fun c3 => ?_)
      refine v_iload_n h pX3_ahead_0 19 rfl 4 rfl rfl (v_bipush h pX3_ahead_0 20 rfl kb_100 ?_)
      refine v_callS h pX3_ahead_0 21 mX3_51 (As := [.int k, .int 100]) (st := []) (kX3_isWithin _ _ cI cS k 100) v0B v0C (vEmb_u _) rfl rfl rfl rfl rfl (vDet_k ?_)
      show V K (cW cI cS a (E, T, Kp, P, S, F)) 41 [(4, .int 1), (0, .ref (a 0)), (1, .int y), (2, .int w), (3, .int k)] [.int (bI (inB k 0 100))]
      refine v_bif_ne (tgt := 50) h pX3_ahead_0 22 rfl rfl (fun c4 => ?_) (fun c4 => ?_)
      · skip
        obtain ⟨e_k, l_k⟩ := inB_t 100 rfl (by decide) c4
        refine v_aload_n h pX3_ahead_0 27 rfl 1 rfl rfl (v_get h pX3_ahead_0 28 fX3_16 0 rfl rfl rfl (v_aload_n h pX3_ahead_0 29 rfl 1 rfl rfl (v_get h pX3_ahead_0 30 fX3_10 0 rfl rfl rfl ?_)))
        refine v_callV h pX3_ahead_0 31 mX3_139 (As := [.ref (a 1)]) (st := []) (kX0_copyFrom _ _ cI cS (sh a 11) (sh a 1) E T) v0B v0C emb_TE 11 rfl rfl rfl rfl rfl rfl rfl (vDet_k ?_)
        show V K (cW cI cS a (E, E, Kp, P, S, F)) 61 [(4, .int 1), (0, .ref (a 0)), (1, .int y), (2, .int w), (3, .int k)] []
        refine v_aload_n h pX3_ahead_1 0 rfl 1 rfl rfl (v_get h pX3_ahead_1 1 fX3_16 0 rfl rfl rfl (v_iload_n h pX3_ahead_1 2 rfl 4 rfl rfl (v_top (w := .int (nI (ix k))) (congrArg Value.int e_k) ?_)))
        refine v_callV h pX3_ahead_1 3 mX3_113 (As := [.int (nI (ix k))]) (st := []) (kX0_passYears0 _ _ cI cS (sh a 11) E n hW (ix k) (by omega) hZ) v0B v0C emb_T 11 rfl rfl rfl rfl rfl rfl rfl (vDet_k ?_)
        show V K (cW cI cS a (E, yearsS n 0 E (ix k), Kp, P, S, F)) 69 [(4, .int 1), (0, .ref (a 0)), (1, .int y), (2, .int w), (3, .int k)] []
        refine v_aload_n h pX3_ahead_1 4 rfl 1 rfl rfl (v_get h pX3_ahead_1 5 fX3_16 0 rfl rfl rfl (v_iload_n h pX3_ahead_1 6 rfl 3 rfl rfl ?_))
        refine v_callV h pX3_ahead_1 7 mX3_98 (As := [.int w]) (st := []) (kX0_rowOf _ _ cI cS (sh a 11) (yearsS n 0 E (ix k)) w) v0B v0C emb_T 11 rfl rfl rfl rfl rfl rfl rfl (vDet_k ?_)
        show V K (cW cI cS a (E, yearsS n 0 E (ix k), Kp, P, S, F)) 77 [(4, .int 1), (0, .ref (a 0)), (1, .int y), (2, .int w), (3, .int k)] [.ref (sh a 11 (rowA w))]
        refine v_top (w := .ref (a 16)) (congrArg Value.ref (show sh a 11 (rowA w) = a 16 from by rw [c1]; rfl)) ?_
        have l_w : ix w = 2 := by rw [c1]; rfl
        refine v_iload_n h pX3_ahead_1 8 rfl 2 rfl rfl (v_top (w := .int (nI (ix y))) (congrArg Value.int e_y) (v_iald h pX3_ahead_1 9 (ix y) 16 0 rfl rfl rfl rfl rfl (by omega) ?_))
        exact v_iret h pX3_ahead_1 10 hR hret rfl ((E, yearsS n 0 E (ix k), Kp, P, S, F)) rfl ⟨vI (by first | (simp [w235, (eq_true c1), c2, c4]; done) | (simp [w235, thenS, l_w, (eq_true c1), c2, c4])), rfl, rfl, ⟨rfl, rfl⟩, rfl, (fR_of (by simp [w235, (eq_true c1), c2, c4]))⟩
      · skip
        refine v_aload_n h pX3_ahead_0 23 rfl 1 rfl rfl (v_iconst h pX3_ahead_0 24 rfl ki_0 ?_)
        refine v_callV h pX3_ahead_0 25 mX3_55 (As := [.int 0]) (st := []) (kX3_finding _ _ cI cS a E T Kp P F S 0 (by decide)) v0B v0C (vEmb_rf _ _) 0 rfl rfl rfl rfl rfl rfl rfl (vDet_k ?_)
        show V K (cW cI cS a (E, T, Kp, P, S, fndC F 0)) 49 [(4, .int 1), (0, .ref (a 0)), (1, .int y), (2, .int w), (3, .int k)] [.int ((-1000001) - (nI 0))]
        refine v_top (w := .int (-1000001)) (by decide) ?_
        exact v_iret h pX3_ahead_0 26 hR hret rfl ((E, T, Kp, P, S, fndC F 0)) rfl ⟨vI (by first | (simp [w235, (eq_true c1), c2, c4]; done) | (simp [w235, thenS, l_w, (eq_true c1), c2, c4])), rfl, rfl, ⟨rfl, rfl⟩, rfl, (fR_of (by simp [w235, (eq_true c1), c2, c4]))⟩
  · skip
    refine v_iload_n h pX3_ahead_0 3 rfl 2 rfl rfl (v_iconst h pX3_ahead_0 4 rfl ki_3 ?_)
    refine v_icmp_eq (tgt := 15) h pX3_ahead_0 5 rfl rfl (fun c5 => ?_) (fun c5 => ?_)
    · skip
      refine v_iconst h pX3_ahead_0 9 rfl ki_1 (v_goto (tgt := 20) h pX3_ahead_0 10 rfl rfl (v_istore h pX3_ahead_0 12 (lv' := [(4, .int 1), (0, .ref (a 0)), (1, .int y), (2, .int w), (3, .int k)]) rfl hnL rfl rfl (v_aload_n h pX3_ahead_0 13 rfl 1 rfl rfl (v_iload_n h pX3_ahead_0 14 rfl 2 rfl rfl ?_))))
      refine v_callV h pX3_ahead_0 15 mX3_83 (As := [.int y]) (st := []) (kX3_isOyster _ _ cI cS a E T Kp P F S n hW y) v0B v0C (vEmb_rf _ _) 0 rfl rfl rfl rfl rfl rfl rfl (vDet_k ?_)
      show V K (cW cI cS a (E, T, Kp, P, S, F)) 27 [(4, .int 1), (0, .ref (a 0)), (1, .int y), (2, .int w), (3, .int k)] [.int (bI (oyB y n))]
      refine v_bif_eq (tgt := 44) h pX3_ahead_0 16 rfl rfl (fun c6 => ?_) (fun c6 => ?_)
      · skip
        refine v_aload_n h pX3_ahead_0 23 rfl 1 rfl rfl (v_iconst h pX3_ahead_0 24 rfl ki_0 ?_)
        refine v_callV h pX3_ahead_0 25 mX3_55 (As := [.int 0]) (st := []) (kX3_finding _ _ cI cS a E T Kp P F S 0 (by decide)) v0B v0C (vEmb_rf _ _) 0 rfl rfl rfl rfl rfl rfl rfl (vDet_k ?_)
        show V K (cW cI cS a (E, T, Kp, P, S, fndC F 0)) 49 [(4, .int 1), (0, .ref (a 0)), (1, .int y), (2, .int w), (3, .int k)] [.int ((-1000001) - (nI 0))]
        refine v_top (w := .int (-1000001)) (by decide) ?_
        exact v_iret h pX3_ahead_0 26 hR hret rfl ((E, T, Kp, P, S, fndC F 0)) rfl ⟨vI (by first | (simp [w235, c1, (eq_true c5), c6]; done) | (simp [w235, thenS, l_w, c1, (eq_true c5), c6])), rfl, rfl, ⟨rfl, rfl⟩, rfl, (fR_of (by simp [w235, c1, (eq_true c5), c6]))⟩
      · skip
        obtain ⟨e_y, l_y⟩ := oyB_t hn8 c6
        refine v_iload h pX3_ahead_0 17 rfl 0 rfl ?_
        refine v_if_eq (tgt := 44) h pX3_ahead_0 18 rfl rfl (fun c7 => absurd c7 (by decide)) (fun c7 => ?_)
        refine v_iload_n h pX3_ahead_0 19 rfl 4 rfl rfl (v_bipush h pX3_ahead_0 20 rfl kb_100 ?_)
        refine v_callS h pX3_ahead_0 21 mX3_51 (As := [.int k, .int 100]) (st := []) (kX3_isWithin _ _ cI cS k 100) v0B v0C (vEmb_u _) rfl rfl rfl rfl rfl (vDet_k ?_)
        show V K (cW cI cS a (E, T, Kp, P, S, F)) 41 [(4, .int 1), (0, .ref (a 0)), (1, .int y), (2, .int w), (3, .int k)] [.int (bI (inB k 0 100))]
        refine v_bif_ne (tgt := 50) h pX3_ahead_0 22 rfl rfl (fun c8 => ?_) (fun c8 => ?_)
        · skip
          obtain ⟨e_k, l_k⟩ := inB_t 100 rfl (by decide) c8
          refine v_aload_n h pX3_ahead_0 27 rfl 1 rfl rfl (v_get h pX3_ahead_0 28 fX3_16 0 rfl rfl rfl (v_aload_n h pX3_ahead_0 29 rfl 1 rfl rfl (v_get h pX3_ahead_0 30 fX3_10 0 rfl rfl rfl ?_)))
          refine v_callV h pX3_ahead_0 31 mX3_139 (As := [.ref (a 1)]) (st := []) (kX0_copyFrom _ _ cI cS (sh a 11) (sh a 1) E T) v0B v0C emb_TE 11 rfl rfl rfl rfl rfl rfl rfl (vDet_k ?_)
          show V K (cW cI cS a (E, E, Kp, P, S, F)) 61 [(4, .int 1), (0, .ref (a 0)), (1, .int y), (2, .int w), (3, .int k)] []
          refine v_aload_n h pX3_ahead_1 0 rfl 1 rfl rfl (v_get h pX3_ahead_1 1 fX3_16 0 rfl rfl rfl (v_iload_n h pX3_ahead_1 2 rfl 4 rfl rfl (v_top (w := .int (nI (ix k))) (congrArg Value.int e_k) ?_)))
          refine v_callV h pX3_ahead_1 3 mX3_113 (As := [.int (nI (ix k))]) (st := []) (kX0_passYears0 _ _ cI cS (sh a 11) E n hW (ix k) (by omega) hZ) v0B v0C emb_T 11 rfl rfl rfl rfl rfl rfl rfl (vDet_k ?_)
          show V K (cW cI cS a (E, yearsS n 0 E (ix k), Kp, P, S, F)) 69 [(4, .int 1), (0, .ref (a 0)), (1, .int y), (2, .int w), (3, .int k)] []
          refine v_aload_n h pX3_ahead_1 4 rfl 1 rfl rfl (v_get h pX3_ahead_1 5 fX3_16 0 rfl rfl rfl (v_iload_n h pX3_ahead_1 6 rfl 3 rfl rfl ?_))
          refine v_callV h pX3_ahead_1 7 mX3_98 (As := [.int w]) (st := []) (kX0_rowOf _ _ cI cS (sh a 11) (yearsS n 0 E (ix k)) w) v0B v0C emb_T 11 rfl rfl rfl rfl rfl rfl rfl (vDet_k ?_)
          show V K (cW cI cS a (E, yearsS n 0 E (ix k), Kp, P, S, F)) 77 [(4, .int 1), (0, .ref (a 0)), (1, .int y), (2, .int w), (3, .int k)] [.ref (sh a 11 (rowA w))]
          refine v_top (w := .ref (a 17)) (congrArg Value.ref (show sh a 11 (rowA w) = a 17 from by rw [c5]; rfl)) ?_
          have l_w : ix w = 3 := by rw [c5]; rfl
          refine v_iload_n h pX3_ahead_1 8 rfl 2 rfl rfl (v_top (w := .int (nI (ix y))) (congrArg Value.int e_y) (v_iald h pX3_ahead_1 9 (ix y) 17 0 rfl rfl rfl rfl rfl (by omega) ?_))
          exact v_iret h pX3_ahead_1 10 hR hret rfl ((E, yearsS n 0 E (ix k), Kp, P, S, F)) rfl ⟨vI (by first | (simp [w235, c1, (eq_true c5), c6, c8]; done) | (simp [w235, thenS, l_w, c1, (eq_true c5), c6, c8])), rfl, rfl, ⟨rfl, rfl⟩, rfl, (fR_of (by simp [w235, c1, (eq_true c5), c6, c8]))⟩
        · skip
          refine v_aload_n h pX3_ahead_0 23 rfl 1 rfl rfl (v_iconst h pX3_ahead_0 24 rfl ki_0 ?_)
          refine v_callV h pX3_ahead_0 25 mX3_55 (As := [.int 0]) (st := []) (kX3_finding _ _ cI cS a E T Kp P F S 0 (by decide)) v0B v0C (vEmb_rf _ _) 0 rfl rfl rfl rfl rfl rfl rfl (vDet_k ?_)
          show V K (cW cI cS a (E, T, Kp, P, S, fndC F 0)) 49 [(4, .int 1), (0, .ref (a 0)), (1, .int y), (2, .int w), (3, .int k)] [.int ((-1000001) - (nI 0))]
          refine v_top (w := .int (-1000001)) (by decide) ?_
          exact v_iret h pX3_ahead_0 26 hR hret rfl ((E, T, Kp, P, S, fndC F 0)) rfl ⟨vI (by first | (simp [w235, c1, (eq_true c5), c6, c8]; done) | (simp [w235, thenS, l_w, c1, (eq_true c5), c6, c8])), rfl, rfl, ⟨rfl, rfl⟩, rfl, (fR_of (by simp [w235, c1, (eq_true c5), c6, c8]))⟩
    · skip
      refine v_iload_n h pX3_ahead_0 6 rfl 2 rfl rfl (v_iconst h pX3_ahead_0 7 rfl ki_5 ?_)
      refine v_icmp_ne (tgt := 19) h pX3_ahead_0 8 rfl rfl (fun c9 => ?_) (fun c9 => ?_)
      · skip
        refine v_iconst h pX3_ahead_0 11 rfl ki_0 (v_istore h pX3_ahead_0 12 (lv' := [(4, .int 0), (0, .ref (a 0)), (1, .int y), (2, .int w), (3, .int k)]) rfl hnL rfl rfl (v_aload_n h pX3_ahead_0 13 rfl 1 rfl rfl (v_iload_n h pX3_ahead_0 14 rfl 2 rfl rfl ?_)))
        refine v_callV h pX3_ahead_0 15 mX3_83 (As := [.int y]) (st := []) (kX3_isOyster _ _ cI cS a E T Kp P F S n hW y) v0B v0C (vEmb_rf _ _) 0 rfl rfl rfl rfl rfl rfl rfl (vDet_k ?_)
        show V K (cW cI cS a (E, T, Kp, P, S, F)) 27 [(4, .int 0), (0, .ref (a 0)), (1, .int y), (2, .int w), (3, .int k)] [.int (bI (oyB y n))]
        refine v_bif_eq (tgt := 44) h pX3_ahead_0 16 rfl rfl (fun c10 => ?_) (fun c10 => ?_)
        · skip
          refine v_aload_n h pX3_ahead_0 23 rfl 1 rfl rfl (v_iconst h pX3_ahead_0 24 rfl ki_0 ?_)
          refine v_callV h pX3_ahead_0 25 mX3_55 (As := [.int 0]) (st := []) (kX3_finding _ _ cI cS a E T Kp P F S 0 (by decide)) v0B v0C (vEmb_rf _ _) 0 rfl rfl rfl rfl rfl rfl rfl (vDet_k ?_)
          show V K (cW cI cS a (E, T, Kp, P, S, fndC F 0)) 49 [(4, .int 0), (0, .ref (a 0)), (1, .int y), (2, .int w), (3, .int k)] [.int ((-1000001) - (nI 0))]
          refine v_top (w := .int (-1000001)) (by decide) ?_
          exact v_iret h pX3_ahead_0 26 hR hret rfl ((E, T, Kp, P, S, fndC F 0)) rfl ⟨vI (by first | (simp [w235, c1, c5, c9, c10]; done) | (simp [w235, thenS, l_w, c1, c5, c9, c10])), rfl, rfl, ⟨rfl, rfl⟩, rfl, (fR_of (by simp [w235, c1, c5, c9, c10]))⟩
        · skip
          obtain ⟨e_y, l_y⟩ := oyB_t hn8 c10
          refine v_iload h pX3_ahead_0 17 rfl 0 rfl ?_
          refine v_if_eq (tgt := 44) h pX3_ahead_0 18 rfl rfl (fun c11 => ?_) (fun c11 => absurd c11 (by decide))
          refine v_aload_n h pX3_ahead_0 23 rfl 1 rfl rfl (v_iconst h pX3_ahead_0 24 rfl ki_0 ?_)
          refine v_callV h pX3_ahead_0 25 mX3_55 (As := [.int 0]) (st := []) (kX3_finding _ _ cI cS a E T Kp P F S 0 (by decide)) v0B v0C (vEmb_rf _ _) 0 rfl rfl rfl rfl rfl rfl rfl (vDet_k ?_)
          show V K (cW cI cS a (E, T, Kp, P, S, fndC F 0)) 49 [(4, .int 0), (0, .ref (a 0)), (1, .int y), (2, .int w), (3, .int k)] [.int ((-1000001) - (nI 0))]
          refine v_top (w := .int (-1000001)) (by decide) ?_
          exact v_iret h pX3_ahead_0 26 hR hret rfl ((E, T, Kp, P, S, fndC F 0)) rfl ⟨vI (by first | (simp [w235, c1, c5, c9, c10]; done) | (simp [w235, thenS, l_w, c1, c5, c9, c10])), rfl, rfl, ⟨rfl, rfl⟩, rfl, (fR_of (by simp [w235, c1, c5, c9, c10]))⟩
      · skip
        refine v_iconst h pX3_ahead_0 9 rfl ki_1 (v_goto (tgt := 20) h pX3_ahead_0 10 rfl rfl (v_istore h pX3_ahead_0 12 (lv' := [(4, .int 1), (0, .ref (a 0)), (1, .int y), (2, .int w), (3, .int k)]) rfl hnL rfl rfl (v_aload_n h pX3_ahead_0 13 rfl 1 rfl rfl (v_iload_n h pX3_ahead_0 14 rfl 2 rfl rfl ?_))))
        refine v_callV h pX3_ahead_0 15 mX3_83 (As := [.int y]) (st := []) (kX3_isOyster _ _ cI cS a E T Kp P F S n hW y) v0B v0C (vEmb_rf _ _) 0 rfl rfl rfl rfl rfl rfl rfl (vDet_k ?_)
        show V K (cW cI cS a (E, T, Kp, P, S, F)) 27 [(4, .int 1), (0, .ref (a 0)), (1, .int y), (2, .int w), (3, .int k)] [.int (bI (oyB y n))]
        refine v_bif_eq (tgt := 44) h pX3_ahead_0 16 rfl rfl (fun c12 => ?_) (fun c12 => ?_)
        · skip
          refine v_aload_n h pX3_ahead_0 23 rfl 1 rfl rfl (v_iconst h pX3_ahead_0 24 rfl ki_0 ?_)
          refine v_callV h pX3_ahead_0 25 mX3_55 (As := [.int 0]) (st := []) (kX3_finding _ _ cI cS a E T Kp P F S 0 (by decide)) v0B v0C (vEmb_rf _ _) 0 rfl rfl rfl rfl rfl rfl rfl (vDet_k ?_)
          show V K (cW cI cS a (E, T, Kp, P, S, fndC F 0)) 49 [(4, .int 1), (0, .ref (a 0)), (1, .int y), (2, .int w), (3, .int k)] [.int ((-1000001) - (nI 0))]
          refine v_top (w := .int (-1000001)) (by decide) ?_
          exact v_iret h pX3_ahead_0 26 hR hret rfl ((E, T, Kp, P, S, fndC F 0)) rfl ⟨vI (by first | (simp [w235, c1, c5, (eq_true c9), c12]; done) | (simp [w235, thenS, l_w, c1, c5, (eq_true c9), c12])), rfl, rfl, ⟨rfl, rfl⟩, rfl, (fR_of (by simp [w235, c1, c5, (eq_true c9), c12]))⟩
        · skip
          obtain ⟨e_y, l_y⟩ := oyB_t hn8 c12
          refine v_iload h pX3_ahead_0 17 rfl 0 rfl ?_
          refine v_if_eq (tgt := 44) h pX3_ahead_0 18 rfl rfl (fun c13 => absurd c13 (by decide)) (fun c13 => ?_)
          refine v_iload_n h pX3_ahead_0 19 rfl 4 rfl rfl (v_bipush h pX3_ahead_0 20 rfl kb_100 ?_)
          refine v_callS h pX3_ahead_0 21 mX3_51 (As := [.int k, .int 100]) (st := []) (kX3_isWithin _ _ cI cS k 100) v0B v0C (vEmb_u _) rfl rfl rfl rfl rfl (vDet_k ?_)
          show V K (cW cI cS a (E, T, Kp, P, S, F)) 41 [(4, .int 1), (0, .ref (a 0)), (1, .int y), (2, .int w), (3, .int k)] [.int (bI (inB k 0 100))]
          refine v_bif_ne (tgt := 50) h pX3_ahead_0 22 rfl rfl (fun c14 => ?_) (fun c14 => ?_)
          · skip
            obtain ⟨e_k, l_k⟩ := inB_t 100 rfl (by decide) c14
            refine v_aload_n h pX3_ahead_0 27 rfl 1 rfl rfl (v_get h pX3_ahead_0 28 fX3_16 0 rfl rfl rfl (v_aload_n h pX3_ahead_0 29 rfl 1 rfl rfl (v_get h pX3_ahead_0 30 fX3_10 0 rfl rfl rfl ?_)))
            refine v_callV h pX3_ahead_0 31 mX3_139 (As := [.ref (a 1)]) (st := []) (kX0_copyFrom _ _ cI cS (sh a 11) (sh a 1) E T) v0B v0C emb_TE 11 rfl rfl rfl rfl rfl rfl rfl (vDet_k ?_)
            show V K (cW cI cS a (E, E, Kp, P, S, F)) 61 [(4, .int 1), (0, .ref (a 0)), (1, .int y), (2, .int w), (3, .int k)] []
            refine v_aload_n h pX3_ahead_1 0 rfl 1 rfl rfl (v_get h pX3_ahead_1 1 fX3_16 0 rfl rfl rfl (v_iload_n h pX3_ahead_1 2 rfl 4 rfl rfl (v_top (w := .int (nI (ix k))) (congrArg Value.int e_k) ?_)))
            refine v_callV h pX3_ahead_1 3 mX3_113 (As := [.int (nI (ix k))]) (st := []) (kX0_passYears0 _ _ cI cS (sh a 11) E n hW (ix k) (by omega) hZ) v0B v0C emb_T 11 rfl rfl rfl rfl rfl rfl rfl (vDet_k ?_)
            show V K (cW cI cS a (E, yearsS n 0 E (ix k), Kp, P, S, F)) 69 [(4, .int 1), (0, .ref (a 0)), (1, .int y), (2, .int w), (3, .int k)] []
            refine v_aload_n h pX3_ahead_1 4 rfl 1 rfl rfl (v_get h pX3_ahead_1 5 fX3_16 0 rfl rfl rfl (v_iload_n h pX3_ahead_1 6 rfl 3 rfl rfl ?_))
            refine v_callV h pX3_ahead_1 7 mX3_98 (As := [.int w]) (st := []) (kX0_rowOf _ _ cI cS (sh a 11) (yearsS n 0 E (ix k)) w) v0B v0C emb_T 11 rfl rfl rfl rfl rfl rfl rfl (vDet_k ?_)
            show V K (cW cI cS a (E, yearsS n 0 E (ix k), Kp, P, S, F)) 77 [(4, .int 1), (0, .ref (a 0)), (1, .int y), (2, .int w), (3, .int k)] [.ref (sh a 11 (rowA w))]
            refine v_top (w := .ref (a 19)) (congrArg Value.ref (show sh a 11 (rowA w) = a 19 from by rw [c9]; rfl)) ?_
            have l_w : ix w = 5 := by rw [c9]; rfl
            refine v_iload_n h pX3_ahead_1 8 rfl 2 rfl rfl (v_top (w := .int (nI (ix y))) (congrArg Value.int e_y) (v_iald h pX3_ahead_1 9 (ix y) 19 0 rfl rfl rfl rfl rfl (by omega) ?_))
            exact v_iret h pX3_ahead_1 10 hR hret rfl ((E, yearsS n 0 E (ix k), Kp, P, S, F)) rfl ⟨vI (by first | (simp [w235, c1, c5, (eq_true c9), c12, c14]; done) | (simp [w235, thenS, l_w, c1, c5, (eq_true c9), c12, c14])), rfl, rfl, ⟨rfl, rfl⟩, rfl, (fR_of (by simp [w235, c1, c5, (eq_true c9), c12, c14]))⟩
          · skip
            refine v_aload_n h pX3_ahead_0 23 rfl 1 rfl rfl (v_iconst h pX3_ahead_0 24 rfl ki_0 ?_)
            refine v_callV h pX3_ahead_0 25 mX3_55 (As := [.int 0]) (st := []) (kX3_finding _ _ cI cS a E T Kp P F S 0 (by decide)) v0B v0C (vEmb_rf _ _) 0 rfl rfl rfl rfl rfl rfl rfl (vDet_k ?_)
            show V K (cW cI cS a (E, T, Kp, P, S, fndC F 0)) 49 [(4, .int 1), (0, .ref (a 0)), (1, .int y), (2, .int w), (3, .int k)] [.int ((-1000001) - (nI 0))]
            refine v_top (w := .int (-1000001)) (by decide) ?_
            exact v_iret h pX3_ahead_0 26 hR hret rfl ((E, T, Kp, P, S, fndC F 0)) rfl ⟨vI (by first | (simp [w235, c1, c5, (eq_true c9), c12, c14]; done) | (simp [w235, thenS, l_w, c1, c5, (eq_true c9), c12, c14])), rfl, rfl, ⟨rfl, rfl⟩, rfl, (fR_of (by simp [w235, c1, c5, (eq_true c9), c12, c14]))⟩
set_option maxHeartbeats 300000 in
set_option maxRecDepth 100000 in
theorem kX3_worth (l : Launch) (D : va_G) (cI cS : ClassId) (a : Nat → Nat) (E T Kp P F : Nat → Nat → Int32) (S : Nat → Nat → Nat → Int32) (n : Nat) (hW : Wf E n) (hZ : E 9 4 = 0) (y k : Int32) : vMet l D (vT cI cS) yX3_worth cX3_worth 3 (some .int) 5 104 (cW cI cS a) v0 [.ref (a 0), .int y, .int k] (E, T, Kp, P, S, F) (cPost (some (.int (cond (oyB y n && inB k 0 100) (worthS (yearsS n 0 E (ix k)) (ix y)) ((-1000001))))) (E) (Kp) (P) (S) (cond (oyB y n && inB k 0 100) (F) (fndC F 0))) := by
  refine vMet_of (by decide) rfl ?_
  intro K hl hD hnL hret h hR hEx
  subst hl hD
  show V K (cW cI cS a (E, T, Kp, P, S, F)) 0 [(0, .ref (a 0)), (1, .int y), (2, .int k)] []
  have hn8 := hW.1
  refine v_aload_n h pX3_worth_0 0 rfl 0 rfl rfl (v_iload_n h pX3_worth_0 1 rfl 1 rfl rfl ?_)
  refine v_callV h pX3_worth_0 2 mX3_83 (As := [.int y]) (st := []) (kX3_isOyster _ _ cI cS a E T Kp P F S n hW y) v0B v0C (vEmb_rf _ _) 0 rfl rfl rfl rfl rfl rfl rfl (vDet_k ?_)
  show V K (cW cI cS a (E, T, Kp, P, S, F)) 5 [(0, .ref (a 0)), (1, .int y), (2, .int k)] [.int (bI (oyB y n))]
  refine v_bif_eq (tgt := 17) h pX3_worth_0 3 rfl rfl (fun c1 => ?_) (fun c1 => ?_)
  · skip
    refine v_aload_n h pX3_worth_0 8 rfl 0 rfl rfl (v_iconst h pX3_worth_0 9 rfl ki_0 ?_)
    refine v_callV h pX3_worth_0 10 mX3_55 (As := [.int 0]) (st := []) (kX3_finding _ _ cI cS a E T Kp P F S 0 (by decide)) v0B v0C (vEmb_rf _ _) 0 rfl rfl rfl rfl rfl rfl rfl (vDet_k ?_)
    show V K (cW cI cS a (E, T, Kp, P, S, fndC F 0)) 22 [(0, .ref (a 0)), (1, .int y), (2, .int k)] [.int ((-1000001) - (nI 0))]
    refine v_top (w := .int (-1000001)) (by decide) ?_
    exact v_iret h pX3_worth_0 11 hR hret rfl ((E, T, Kp, P, S, fndC F 0)) rfl ⟨vI (by simp [c1]), rfl, rfl, ⟨rfl, rfl⟩, rfl, (fR_of (by simp [c1, True]))⟩
  · skip
    obtain ⟨e_y, l_y⟩ := oyB_t hn8 c1
    refine v_iload_n h pX3_worth_0 4 rfl 2 rfl rfl (v_bipush h pX3_worth_0 5 rfl kb_100 ?_)
    refine v_callS h pX3_worth_0 6 mX3_51 (As := [.int k, .int 100]) (st := []) (kX3_isWithin _ _ cI cS k 100) v0B v0C (vEmb_u _) rfl rfl rfl rfl rfl (vDet_k ?_)
    show V K (cW cI cS a (E, T, Kp, P, S, F)) 14 [(0, .ref (a 0)), (1, .int y), (2, .int k)] [.int (bI (inB k 0 100))]
    refine v_bif_ne (tgt := 23) h pX3_worth_0 7 rfl rfl (fun c2 => ?_) (fun c2 => ?_)
    · skip
      obtain ⟨e_k, l_k⟩ := inB_t 100 rfl (by decide) c2
      refine v_aload_n h pX3_worth_0 12 rfl 0 rfl rfl (v_get h pX3_worth_0 13 fX3_16 0 rfl rfl rfl (v_aload_n h pX3_worth_0 14 rfl 0 rfl rfl (v_get h pX3_worth_0 15 fX3_10 0 rfl rfl rfl ?_)))
      refine v_callV h pX3_worth_0 16 mX3_139 (As := [.ref (a 1)]) (st := []) (kX0_copyFrom _ _ cI cS (sh a 11) (sh a 1) E T) v0B v0C emb_TE 11 rfl rfl rfl rfl rfl rfl rfl (vDet_k ?_)
      show V K (cW cI cS a (E, E, Kp, P, S, F)) 34 [(0, .ref (a 0)), (1, .int y), (2, .int k)] []
      refine v_aload_n h pX3_worth_0 17 rfl 0 rfl rfl (v_get h pX3_worth_0 18 fX3_16 0 rfl rfl rfl (v_iload_n h pX3_worth_0 19 rfl 2 rfl rfl (v_top (w := .int (nI (ix k))) (congrArg Value.int e_k) ?_)))
      refine v_callV h pX3_worth_0 20 mX3_113 (As := [.int (nI (ix k))]) (st := []) (kX0_passYears0 _ _ cI cS (sh a 11) E n hW (ix k) (by omega) hZ) v0B v0C emb_T 11 rfl rfl rfl rfl rfl rfl rfl (vDet_k ?_)
      show V K (cW cI cS a (E, yearsS n 0 E (ix k), Kp, P, S, F)) 42 [(0, .ref (a 0)), (1, .int y), (2, .int k)] []
      refine v_aload_n h pX3_worth_0 21 rfl 0 rfl rfl (v_get h pX3_worth_0 22 fX3_16 0 rfl rfl rfl (v_iload_n h pX3_worth_0 23 rfl 1 rfl rfl (v_top (w := .int (nI (ix y))) (congrArg Value.int e_y) ?_)))
      refine v_callV h pX3_worth_0 24 mX3_95 (As := [.int (nI (ix y))]) (st := []) (kX0_worthOf _ _ cI cS (sh a 11) (yearsS n 0 E (ix k)) (ix y) (by omega)) v0B v0C emb_T 11 rfl rfl rfl rfl rfl rfl rfl (vDet_k ?_)
      show V K (cW cI cS a (E, yearsS n 0 E (ix k), Kp, P, S, F)) 50 [(0, .ref (a 0)), (1, .int y), (2, .int k)] [.int (worthS (yearsS n 0 E (ix k)) (ix y))]
      exact v_iret h pX3_worth_0 25 hR hret rfl ((E, yearsS n 0 E (ix k), Kp, P, S, F)) rfl ⟨vI (by simp [c1, c2]), rfl, rfl, ⟨rfl, rfl⟩, rfl, (fR_of (by simp [c1, c2, True]))⟩
    · skip
      refine v_aload_n h pX3_worth_0 8 rfl 0 rfl rfl (v_iconst h pX3_worth_0 9 rfl ki_0 ?_)
      refine v_callV h pX3_worth_0 10 mX3_55 (As := [.int 0]) (st := []) (kX3_finding _ _ cI cS a E T Kp P F S 0 (by decide)) v0B v0C (vEmb_rf _ _) 0 rfl rfl rfl rfl rfl rfl rfl (vDet_k ?_)
      show V K (cW cI cS a (E, T, Kp, P, S, fndC F 0)) 22 [(0, .ref (a 0)), (1, .int y), (2, .int k)] [.int ((-1000001) - (nI 0))]
      refine v_top (w := .int (-1000001)) (by decide) ?_
      exact v_iret h pX3_worth_0 11 hR hret rfl ((E, T, Kp, P, S, fndC F 0)) rfl ⟨vI (by simp [c1, c2]), rfl, rfl, ⟨rfl, rfl⟩, rfl, (fR_of (by simp [c1, c2, True]))⟩
set_option maxHeartbeats 300000 in
set_option maxRecDepth 100000 in
theorem kX3_hidden (l : Launch) (D : va_G) (cI cS : ClassId) (a : Nat → Nat) (E T Kp P F : Nat → Nat → Int32) (S : Nat → Nat → Nat → Int32) (n : Nat) (hW : Wf E n) (hZ : E 9 4 = 0) (y : Int32) : vMet l D (vT cI cS) yX3_hidden cX3_hidden 3 (some .int) 4 82 (cW cI cS a) v0 [.ref (a 0), .int y] (E, T, Kp, P, S, F) (cPost (some (.int (cond (oyB y n) (if fstN (fun j => hiddenS (yearsS n 0 E j) (ix y)) 201 < 201 then nI (fstN (fun j => hiddenS (yearsS n 0 E j) (ix y)) 201) else (-1000004)) ((-1000001))))) (E) (Kp) (P) (S) (cond (oyB y n) (if fstN (fun j => hiddenS (yearsS n 0 E j) (ix y)) 201 < 201 then F else fndC F 3) (fndC F 0))) := by
  refine vMet_of (by decide) rfl ?_
  intro K hl hD hnL hret h hR hEx
  subst hl hD
  show V K (cW cI cS a (E, T, Kp, P, S, F)) 0 [(0, .ref (a 0)), (1, .int y)] []
  have hn8 := hW.1
  refine v_aload_n h pX3_hidden_0 0 rfl 0 rfl rfl (v_iload_n h pX3_hidden_0 1 rfl 1 rfl rfl ?_)
  refine v_callV h pX3_hidden_0 2 mX3_83 (As := [.int y]) (st := []) (kX3_isOyster _ _ cI cS a E T Kp P F S n hW y) v0B v0C (vEmb_rf _ _) 0 rfl rfl rfl rfl rfl rfl rfl (vDet_k ?_)
  show V K (cW cI cS a (E, T, Kp, P, S, F)) 5 [(0, .ref (a 0)), (1, .int y)] [.int (bI (oyB y n))]
  refine v_bif_ne (tgt := 14) h pX3_hidden_0 3 rfl rfl (fun c1 => ?_) (fun c1 => ?_)
  · skip
    obtain ⟨e_y, l_y⟩ := oyB_t hn8 c1
    refine v_aload_n h pX3_hidden_0 8 rfl 0 rfl rfl (v_get h pX3_hidden_0 9 fX3_16 0 rfl rfl rfl (v_aload_n h pX3_hidden_0 10 rfl 0 rfl rfl (v_get h pX3_hidden_0 11 fX3_10 0 rfl rfl rfl ?_)))
    refine v_callV h pX3_hidden_0 12 mX3_139 (As := [.ref (a 1)]) (st := []) (kX0_copyFrom _ _ cI cS (sh a 11) (sh a 1) E T) v0B v0C emb_TE 11 rfl rfl rfl rfl rfl rfl rfl (vDet_k ?_)
    show V K (cW cI cS a (E, E, Kp, P, S, F)) 25 [(0, .ref (a 0)), (1, .int y)] []
    refine v_iconst h pX3_hidden_0 13 rfl ki_0 (v_istore_n h pX3_hidden_0 14 (lv' := [(2, .int 0), (0, .ref (a 0)), (1, .int y)]) rfl rfl hnL rfl rfl ?_)
    refine v_lv [1, 2, 0] (lv' := [(0, .ref (a 0)), (1, .int y), (2, .int 0)]) rfl ?_
    have LA : ∀ (m iA : Nat), iA ≤ 201 → (∀ j, j < iA → hiddenS (yearsS n 0 E j) (ix y) = false) → 201 + 1 ≤ iA + m → V K (cW cI cS a (E, yearsS n 0 E iA, Kp, P, S, F)) 27 [(0, .ref (a 0)), (1, .int y), (2, .int (nI iA))] [] := by
      intro m
      induction m with
      | zero => exact fun iA h1 hh h2 => absurd h2 (by omega)
      | succ m ihA =>
        intro iA hleA hhA hltA
        have hWSA : Wf (yearsS n 0 E iA) n := (Wf_years hW 0 iA)
        generalize hSA : yearsS n 0 E iA = SA at hWSA ⊢
        have hZA : SA 9 4 = 0 := by rw [← hSA]; exact (yearsS_94 _ _ _ _).trans hZ
        refine v_iload_n h pX3_hidden_0 15 rfl 2 rfl rfl (v_sipush h pX3_hidden_0 16 rfl ks_200 ?_)
        refine v_ncmp_gt (a := iA) (b := 200) (tgt := 60) h pX3_hidden_0 17 rfl rfl (by omega) (by omega) (fun c4 => ?_) (fun c4 => ?_)
        · skip
          refine v_aload_n h pX3_hidden_0 30 rfl 0 rfl rfl (v_iconst h pX3_hidden_0 31 rfl ki_3 ?_)
          refine v_callV h pX3_hidden_1 0 mX3_55 (As := [.int 3]) (st := []) (kX3_finding _ _ cI cS a E SA Kp P F S 3 (by decide)) v0B v0C (vEmb_rf _ _) 0 rfl rfl rfl rfl rfl rfl rfl (vDet_k ?_)
          show V K (cW cI cS a (E, SA, Kp, P, S, fndC F 3)) 65 [(0, .ref (a 0)), (1, .int y), (2, .int (nI iA))] [.int ((-1000001) - (nI 3))]
          refine v_top (w := .int (-1000004)) (by decide) ?_
          exact v_iret h pX3_hidden_1 1 hR hret rfl ((E, SA, Kp, P, S, fndC F 3)) rfl ⟨vI (by first | (simp [c1, c4, hSA]; done) | (simp only [c1, cond_true]; rw [show fstN (fun j => hiddenS (yearsS n 0 E j) (ix y)) 201 = iA from fstN_eq hhA (by rw [hSA]; assumption) (by omega), if_pos (by omega)]) | (simp only [c1, cond_true]; rw [show fstN (fun j => hiddenS (yearsS n 0 E j) (ix y)) 201 = 201 from fstN_no (fun j hj => hhA j (by omega)), if_neg (by omega)]; try (first | rfl | (simp [hSA]; done)))), rfl, rfl, ⟨rfl, rfl⟩, rfl, (fR_of (by first | (simp [c1, c4, hSA]; done) | (simp only [c1, cond_true]; rw [show fstN (fun j => hiddenS (yearsS n 0 E j) (ix y)) 201 = iA from fstN_eq hhA (by rw [hSA]; assumption) (by omega), if_pos (by omega)]) | (simp only [c1, cond_true]; rw [show fstN (fun j => hiddenS (yearsS n 0 E j) (ix y)) 201 = 201 from fstN_no (fun j hj => hhA j (by omega)), if_neg (by omega)]; try (first | rfl | (simp [hSA]; done)))))⟩
        · skip
          refine v_aload_n h pX3_hidden_0 18 rfl 0 rfl rfl (v_get h pX3_hidden_0 19 fX3_16 0 rfl rfl rfl (v_iload_n h pX3_hidden_0 20 rfl 1 rfl rfl (v_top (w := .int (nI (ix y))) (congrArg Value.int e_y) ?_)))
          refine v_callV h pX3_hidden_0 21 mX3_143 (As := [.int (nI (ix y))]) (st := []) (kX0_isHidden _ _ cI cS (sh a 11) SA (ix y) (by omega) n hWSA) v0B v0C emb_T 11 rfl rfl rfl rfl rfl rfl rfl (vDet_k ?_)
          show V K (cW cI cS a (E, SA, Kp, P, S, F)) 42 [(0, .ref (a 0)), (1, .int y), (2, .int (nI iA))] [.int (bI (hiddenS SA (ix y)))]
          refine v_bif_eq (tgt := 47) h pX3_hidden_0 22 rfl rfl (fun c5 => ?_) (fun c5 => ?_)
          · skip
            refine v_aload_n h pX3_hidden_0 25 rfl 0 rfl rfl (v_get h pX3_hidden_0 26 fX3_16 0 rfl rfl rfl ?_)
            refine v_callV h pX3_hidden_0 27 mX3_146 (As := []) (st := []) (kX0_passYear0 _ _ cI cS (sh a 11) SA n hWSA hZA) v0B v0C emb_T 11 rfl rfl rfl rfl rfl rfl rfl (vDet_k ?_)
            show V K (cW cI cS a (E, yearS n 0 SA, Kp, P, S, F)) 54 [(0, .ref (a 0)), (1, .int y), (2, .int (nI iA))] []
            refine v_iinc h pX3_hidden_0 28 (v := nI (iA + 1)) (lv' := [(2, .int (nI (iA + 1))), (0, .ref (a 0)), (1, .int y)]) rfl 2 rfl hnL rfl rfl (nI_1 iA) (v_goto (tgt := 27) h pX3_hidden_0 29 rfl rfl (v_lv [1, 2, 0] (lv' := [(0, .ref (a 0)), (1, .int y), (2, .int (nI (iA + 1)))]) rfl (v_eqw (ws' := cW cI cS a (E, yearsS n 0 E (iA + 1), Kp, P, S, F)) (by rw [yearsS, hSA]) ?_)))
            exact ihA (iA + 1) (by omega) (fun j hj => (Nat.lt_succ_iff_lt_or_eq.mp hj).elim (hhA j) (fun e => by rw [e, hSA]; exact c5)) (by omega)
          · skip
            refine v_iload_n h pX3_hidden_0 23 rfl 2 rfl rfl ?_
            exact v_iret h pX3_hidden_0 24 hR hret rfl ((E, SA, Kp, P, S, F)) rfl ⟨vI (by first | (simp [c1, c4, c5, hSA]; done) | (simp only [c1, cond_true]; rw [show fstN (fun j => hiddenS (yearsS n 0 E j) (ix y)) 201 = iA from fstN_eq hhA (by rw [hSA]; assumption) (by omega), if_pos (by omega)]) | (simp only [c1, cond_true]; rw [show fstN (fun j => hiddenS (yearsS n 0 E j) (ix y)) 201 = 201 from fstN_no (fun j hj => hhA j (by omega)), if_neg (by omega)]; try (first | rfl | (simp [hSA]; done)))), rfl, rfl, ⟨rfl, rfl⟩, rfl, (fR_of (by first | (simp [c1, c4, c5, hSA]; done) | (simp only [c1, cond_true]; rw [show fstN (fun j => hiddenS (yearsS n 0 E j) (ix y)) 201 = iA from fstN_eq hhA (by rw [hSA]; assumption) (by omega), if_pos (by omega)]) | (simp only [c1, cond_true]; rw [show fstN (fun j => hiddenS (yearsS n 0 E j) (ix y)) 201 = 201 from fstN_no (fun j hj => hhA j (by omega)), if_neg (by omega)]; try (first | rfl | (simp [hSA]; done)))))⟩
    exact LA (201 + 1) 0 (by omega) (fun j hj => absurd hj (by omega)) (by omega)
  · skip
    refine v_aload_n h pX3_hidden_0 4 rfl 0 rfl rfl (v_iconst h pX3_hidden_0 5 rfl ki_0 ?_)
    refine v_callV h pX3_hidden_0 6 mX3_55 (As := [.int 0]) (st := []) (kX3_finding _ _ cI cS a E T Kp P F S 0 (by decide)) v0B v0C (vEmb_rf _ _) 0 rfl rfl rfl rfl rfl rfl rfl (vDet_k ?_)
    show V K (cW cI cS a (E, T, Kp, P, S, fndC F 0)) 13 [(0, .ref (a 0)), (1, .int y)] [.int ((-1000001) - (nI 0))]
    refine v_top (w := .int (-1000001)) (by decide) ?_
    exact v_iret h pX3_hidden_0 7 hR hret rfl ((E, T, Kp, P, S, fndC F 0)) rfl ⟨vI (by first | (simp [c1, True]; done) | (simp only [c1, cond_true]; rw [show fstN (fun j => hiddenS (yearsS n 0 E j) (ix y)) 201 = iA from fstN_eq hhA (by rw [hSA]; assumption) (by omega), if_pos (by omega)]) | (simp only [c1, cond_true]; rw [show fstN (fun j => hiddenS (yearsS n 0 E j) (ix y)) 201 = 201 from fstN_no (fun j hj => hhA j (by omega)), if_neg (by omega)]; try (first | rfl | (simp [True]; done)))), rfl, rfl, ⟨rfl, rfl⟩, rfl, (fR_of (by first | (simp [c1, True]; done) | (simp only [c1, cond_true]; rw [show fstN (fun j => hiddenS (yearsS n 0 E j) (ix y)) 201 = iA from fstN_eq hhA (by rw [hSA]; assumption) (by omega), if_pos (by omega)]) | (simp only [c1, cond_true]; rw [show fstN (fun j => hiddenS (yearsS n 0 E j) (ix y)) 201 = 201 from fstN_no (fun j hj => hhA j (by omega)), if_neg (by omega)]; try (first | rfl | (simp [True]; done)))))⟩
set_option maxHeartbeats 300000 in
set_option maxRecDepth 100000 in
theorem kX3_told (l : Launch) (D : va_G) (cI cS : ClassId) (a : Nat → Nat) (E T Kp P F : Nat → Nat → Int32) (S : Nat → Nat → Nat → Int32) (n : Nat) (hW : Wf E n) (hZ : E 9 4 = 0) (y : Int32) : vMet l D (vT cI cS) yX3_told cX3_told 3 (some .int) 4 82 (cW cI cS a) v0 [.ref (a 0), .int y] (E, T, Kp, P, S, F) (cPost (some (.int (cond (oyB y n) (if fstN (fun j => toldS (yearsS n 0 E j) (ix y)) 201 < 201 then nI (fstN (fun j => toldS (yearsS n 0 E j) (ix y)) 201) else (-1000004)) ((-1000001))))) (E) (Kp) (P) (S) (cond (oyB y n) (if fstN (fun j => toldS (yearsS n 0 E j) (ix y)) 201 < 201 then F else fndC F 3) (fndC F 0))) := by
  refine vMet_of (by decide) rfl ?_
  intro K hl hD hnL hret h hR hEx
  subst hl hD
  show V K (cW cI cS a (E, T, Kp, P, S, F)) 0 [(0, .ref (a 0)), (1, .int y)] []
  have hn8 := hW.1
  refine v_aload_n h pX3_told_0 0 rfl 0 rfl rfl (v_iload_n h pX3_told_0 1 rfl 1 rfl rfl ?_)
  refine v_callV h pX3_told_0 2 mX3_83 (As := [.int y]) (st := []) (kX3_isOyster _ _ cI cS a E T Kp P F S n hW y) v0B v0C (vEmb_rf _ _) 0 rfl rfl rfl rfl rfl rfl rfl (vDet_k ?_)
  show V K (cW cI cS a (E, T, Kp, P, S, F)) 5 [(0, .ref (a 0)), (1, .int y)] [.int (bI (oyB y n))]
  refine v_bif_ne (tgt := 14) h pX3_told_0 3 rfl rfl (fun c1 => ?_) (fun c1 => ?_)
  · skip
    obtain ⟨e_y, l_y⟩ := oyB_t hn8 c1
    refine v_aload_n h pX3_told_0 8 rfl 0 rfl rfl (v_get h pX3_told_0 9 fX3_16 0 rfl rfl rfl (v_aload_n h pX3_told_0 10 rfl 0 rfl rfl (v_get h pX3_told_0 11 fX3_10 0 rfl rfl rfl ?_)))
    refine v_callV h pX3_told_0 12 mX3_139 (As := [.ref (a 1)]) (st := []) (kX0_copyFrom _ _ cI cS (sh a 11) (sh a 1) E T) v0B v0C emb_TE 11 rfl rfl rfl rfl rfl rfl rfl (vDet_k ?_)
    show V K (cW cI cS a (E, E, Kp, P, S, F)) 25 [(0, .ref (a 0)), (1, .int y)] []
    refine v_iconst h pX3_told_0 13 rfl ki_0 (v_istore_n h pX3_told_0 14 (lv' := [(2, .int 0), (0, .ref (a 0)), (1, .int y)]) rfl rfl hnL rfl rfl ?_)
    refine v_lv [1, 2, 0] (lv' := [(0, .ref (a 0)), (1, .int y), (2, .int 0)]) rfl ?_
    have LA : ∀ (m iA : Nat), iA ≤ 201 → (∀ j, j < iA → toldS (yearsS n 0 E j) (ix y) = false) → 201 + 1 ≤ iA + m → V K (cW cI cS a (E, yearsS n 0 E iA, Kp, P, S, F)) 27 [(0, .ref (a 0)), (1, .int y), (2, .int (nI iA))] [] := by
      intro m
      induction m with
      | zero => exact fun iA h1 hh h2 => absurd h2 (by omega)
      | succ m ihA =>
        intro iA hleA hhA hltA
        have hWSA : Wf (yearsS n 0 E iA) n := (Wf_years hW 0 iA)
        generalize hSA : yearsS n 0 E iA = SA at hWSA ⊢
        have hZA : SA 9 4 = 0 := by rw [← hSA]; exact (yearsS_94 _ _ _ _).trans hZ
        refine v_iload_n h pX3_told_0 15 rfl 2 rfl rfl (v_sipush h pX3_told_0 16 rfl ks_200 ?_)
        refine v_ncmp_gt (a := iA) (b := 200) (tgt := 60) h pX3_told_0 17 rfl rfl (by omega) (by omega) (fun c4 => ?_) (fun c4 => ?_)
        · skip
          refine v_aload_n h pX3_told_0 30 rfl 0 rfl rfl (v_iconst h pX3_told_0 31 rfl ki_3 ?_)
          refine v_callV h pX3_told_1 0 mX3_55 (As := [.int 3]) (st := []) (kX3_finding _ _ cI cS a E SA Kp P F S 3 (by decide)) v0B v0C (vEmb_rf _ _) 0 rfl rfl rfl rfl rfl rfl rfl (vDet_k ?_)
          show V K (cW cI cS a (E, SA, Kp, P, S, fndC F 3)) 65 [(0, .ref (a 0)), (1, .int y), (2, .int (nI iA))] [.int ((-1000001) - (nI 3))]
          refine v_top (w := .int (-1000004)) (by decide) ?_
          exact v_iret h pX3_told_1 1 hR hret rfl ((E, SA, Kp, P, S, fndC F 3)) rfl ⟨vI (by first | (simp [c1, c4, hSA]; done) | (simp only [c1, cond_true]; rw [show fstN (fun j => toldS (yearsS n 0 E j) (ix y)) 201 = iA from fstN_eq hhA (by rw [hSA]; assumption) (by omega), if_pos (by omega)]) | (simp only [c1, cond_true]; rw [show fstN (fun j => toldS (yearsS n 0 E j) (ix y)) 201 = 201 from fstN_no (fun j hj => hhA j (by omega)), if_neg (by omega)]; try (first | rfl | (simp [hSA]; done)))), rfl, rfl, ⟨rfl, rfl⟩, rfl, (fR_of (by first | (simp [c1, c4, hSA]; done) | (simp only [c1, cond_true]; rw [show fstN (fun j => toldS (yearsS n 0 E j) (ix y)) 201 = iA from fstN_eq hhA (by rw [hSA]; assumption) (by omega), if_pos (by omega)]) | (simp only [c1, cond_true]; rw [show fstN (fun j => toldS (yearsS n 0 E j) (ix y)) 201 = 201 from fstN_no (fun j hj => hhA j (by omega)), if_neg (by omega)]; try (first | rfl | (simp [hSA]; done)))))⟩
        · skip
          refine v_aload_n h pX3_told_0 18 rfl 0 rfl rfl (v_get h pX3_told_0 19 fX3_16 0 rfl rfl rfl (v_iload_n h pX3_told_0 20 rfl 1 rfl rfl (v_top (w := .int (nI (ix y))) (congrArg Value.int e_y) ?_)))
          refine v_callV h pX3_told_0 21 mX3_149 (As := [.int (nI (ix y))]) (st := []) (kX0_isTold _ _ cI cS (sh a 11) SA (ix y) (by omega)) v0B v0C emb_T 11 rfl rfl rfl rfl rfl rfl rfl (vDet_k ?_)
          show V K (cW cI cS a (E, SA, Kp, P, S, F)) 42 [(0, .ref (a 0)), (1, .int y), (2, .int (nI iA))] [.int (bI (toldS SA (ix y)))]
          refine v_bif_eq (tgt := 47) h pX3_told_0 22 rfl rfl (fun c5 => ?_) (fun c5 => ?_)
          · skip
            refine v_aload_n h pX3_told_0 25 rfl 0 rfl rfl (v_get h pX3_told_0 26 fX3_16 0 rfl rfl rfl ?_)
            refine v_callV h pX3_told_0 27 mX3_146 (As := []) (st := []) (kX0_passYear0 _ _ cI cS (sh a 11) SA n hWSA hZA) v0B v0C emb_T 11 rfl rfl rfl rfl rfl rfl rfl (vDet_k ?_)
            show V K (cW cI cS a (E, yearS n 0 SA, Kp, P, S, F)) 54 [(0, .ref (a 0)), (1, .int y), (2, .int (nI iA))] []
            refine v_iinc h pX3_told_0 28 (v := nI (iA + 1)) (lv' := [(2, .int (nI (iA + 1))), (0, .ref (a 0)), (1, .int y)]) rfl 2 rfl hnL rfl rfl (nI_1 iA) (v_goto (tgt := 27) h pX3_told_0 29 rfl rfl (v_lv [1, 2, 0] (lv' := [(0, .ref (a 0)), (1, .int y), (2, .int (nI (iA + 1)))]) rfl (v_eqw (ws' := cW cI cS a (E, yearsS n 0 E (iA + 1), Kp, P, S, F)) (by rw [yearsS, hSA]) ?_)))
            exact ihA (iA + 1) (by omega) (fun j hj => (Nat.lt_succ_iff_lt_or_eq.mp hj).elim (hhA j) (fun e => by rw [e, hSA]; exact c5)) (by omega)
          · skip
            refine v_iload_n h pX3_told_0 23 rfl 2 rfl rfl ?_
            exact v_iret h pX3_told_0 24 hR hret rfl ((E, SA, Kp, P, S, F)) rfl ⟨vI (by first | (simp [c1, c4, c5, hSA]; done) | (simp only [c1, cond_true]; rw [show fstN (fun j => toldS (yearsS n 0 E j) (ix y)) 201 = iA from fstN_eq hhA (by rw [hSA]; assumption) (by omega), if_pos (by omega)]) | (simp only [c1, cond_true]; rw [show fstN (fun j => toldS (yearsS n 0 E j) (ix y)) 201 = 201 from fstN_no (fun j hj => hhA j (by omega)), if_neg (by omega)]; try (first | rfl | (simp [hSA]; done)))), rfl, rfl, ⟨rfl, rfl⟩, rfl, (fR_of (by first | (simp [c1, c4, c5, hSA]; done) | (simp only [c1, cond_true]; rw [show fstN (fun j => toldS (yearsS n 0 E j) (ix y)) 201 = iA from fstN_eq hhA (by rw [hSA]; assumption) (by omega), if_pos (by omega)]) | (simp only [c1, cond_true]; rw [show fstN (fun j => toldS (yearsS n 0 E j) (ix y)) 201 = 201 from fstN_no (fun j hj => hhA j (by omega)), if_neg (by omega)]; try (first | rfl | (simp [hSA]; done)))))⟩
    exact LA (201 + 1) 0 (by omega) (fun j hj => absurd hj (by omega)) (by omega)
  · skip
    refine v_aload_n h pX3_told_0 4 rfl 0 rfl rfl (v_iconst h pX3_told_0 5 rfl ki_0 ?_)
    refine v_callV h pX3_told_0 6 mX3_55 (As := [.int 0]) (st := []) (kX3_finding _ _ cI cS a E T Kp P F S 0 (by decide)) v0B v0C (vEmb_rf _ _) 0 rfl rfl rfl rfl rfl rfl rfl (vDet_k ?_)
    show V K (cW cI cS a (E, T, Kp, P, S, fndC F 0)) 13 [(0, .ref (a 0)), (1, .int y)] [.int ((-1000001) - (nI 0))]
    refine v_top (w := .int (-1000001)) (by decide) ?_
    exact v_iret h pX3_told_0 7 hR hret rfl ((E, T, Kp, P, S, fndC F 0)) rfl ⟨vI (by first | (simp [c1, True]; done) | (simp only [c1, cond_true]; rw [show fstN (fun j => toldS (yearsS n 0 E j) (ix y)) 201 = iA from fstN_eq hhA (by rw [hSA]; assumption) (by omega), if_pos (by omega)]) | (simp only [c1, cond_true]; rw [show fstN (fun j => toldS (yearsS n 0 E j) (ix y)) 201 = 201 from fstN_no (fun j hj => hhA j (by omega)), if_neg (by omega)]; try (first | rfl | (simp [True]; done)))), rfl, rfl, ⟨rfl, rfl⟩, rfl, (fR_of (by first | (simp [c1, True]; done) | (simp only [c1, cond_true]; rw [show fstN (fun j => toldS (yearsS n 0 E j) (ix y)) 201 = iA from fstN_eq hhA (by rw [hSA]; assumption) (by omega), if_pos (by omega)]) | (simp only [c1, cond_true]; rw [show fstN (fun j => toldS (yearsS n 0 E j) (ix y)) 201 = 201 from fstN_no (fun j hj => hhA j (by omega)), if_neg (by omega)]; try (first | rfl | (simp [True]; done)))))⟩
set_option maxHeartbeats 300000 in
set_option maxRecDepth 100000 in
theorem kX3_dive (l : Launch) (D : va_G) (cI cS : ClassId) (a : Nat → Nat) (E T Kp P F : Nat → Nat → Int32) (S : Nat → Nat → Nat → Int32) (n : Nat) (hW : Wf E n) (hZ : E 9 4 = 0) (y : Int32) : vMet l D (vT cI cS) yX3_dive cX3_dive 6 (some .int) 4 82 (cW cI cS a) v0 [.ref (a 0), .int y] (E, T, Kp, P, S, F) (cPost (some (.int (cond (oyB y n) (nI (bstS (fun j => worthS (yearsS n 0 E j) (ix y)) 61)) ((-1000001))))) (E) (Kp) (P) (S) (cond (oyB y n) (F) (fndC F 0))) := by
  refine vMet_of (by decide) rfl ?_
  intro K hl hD hnL hret h hR hEx
  subst hl hD
  show V K (cW cI cS a (E, T, Kp, P, S, F)) 0 [(0, .ref (a 0)), (1, .int y)] []
  have hn8 := hW.1
  refine v_aload_n h pX3_dive_0 0 rfl 0 rfl rfl (v_iload_n h pX3_dive_0 1 rfl 1 rfl rfl ?_)
  refine v_callV h pX3_dive_0 2 mX3_83 (As := [.int y]) (st := []) (kX3_isOyster _ _ cI cS a E T Kp P F S n hW y) v0B v0C (vEmb_rf _ _) 0 rfl rfl rfl rfl rfl rfl rfl (vDet_k ?_)
  show V K (cW cI cS a (E, T, Kp, P, S, F)) 5 [(0, .ref (a 0)), (1, .int y)] [.int (bI (oyB y n))]
  refine v_bif_ne (tgt := 14) h pX3_dive_0 3 rfl rfl (fun c1 => ?_) (fun c1 => ?_)
  · skip
    obtain ⟨e_y, l_y⟩ := oyB_t hn8 c1
    refine v_aload_n h pX3_dive_0 8 rfl 0 rfl rfl (v_get h pX3_dive_0 9 fX3_16 0 rfl rfl rfl (v_aload_n h pX3_dive_0 10 rfl 0 rfl rfl (v_get h pX3_dive_0 11 fX3_10 0 rfl rfl rfl ?_)))
    refine v_callV h pX3_dive_0 12 mX3_139 (As := [.ref (a 1)]) (st := []) (kX0_copyFrom _ _ cI cS (sh a 11) (sh a 1) E T) v0B v0C emb_TE 11 rfl rfl rfl rfl rfl rfl rfl (vDet_k ?_)
    show V K (cW cI cS a (E, E, Kp, P, S, F)) 25 [(0, .ref (a 0)), (1, .int y)] []
    refine v_iconst h pX3_dive_0 13 rfl ki_0 (v_istore_n h pX3_dive_0 14 (lv' := [(2, .int 0), (0, .ref (a 0)), (1, .int y)]) rfl rfl hnL rfl rfl (v_aload_n h pX3_dive_0 15 rfl 1 rfl rfl (v_get h pX3_dive_0 16 fX3_16 0 rfl rfl rfl (v_iload_n h pX3_dive_0 17 rfl 2 rfl rfl (v_top (w := .int (nI (ix y))) (congrArg Value.int e_y) ?_)))))
    refine v_callV h pX3_dive_0 18 mX3_95 (As := [.int (nI (ix y))]) (st := []) (kX0_worthOf _ _ cI cS (sh a 11) E (ix y) (by omega)) v0B v0C emb_T 11 rfl rfl rfl rfl rfl rfl rfl (vDet_k ?_)
    show V K (cW cI cS a (E, E, Kp, P, S, F)) 35 [(2, .int 0), (0, .ref (a 0)), (1, .int y)] [.int (worthS E (ix y))]
    refine v_istore_n h pX3_dive_0 19 (lv' := [(3, .int (worthS E (ix y))), (2, .int 0), (0, .ref (a 0)), (1, .int y)]) rfl rfl hnL rfl rfl (v_iconst h pX3_dive_0 20 rfl ki_1 (v_istore h pX3_dive_0 21 (lv' := [(4, .int 1), (3, .int (worthS E (ix y))), (2, .int 0), (0, .ref (a 0)), (1, .int y)]) rfl hnL rfl rfl ?_))
    refine v_lv [3, 4, 2, 1, 0] (lv' := [(0, .ref (a 0)), (1, .int y), (2, .int 0), (3, .int (worthS E (ix y))), (4, .int 1)]) rfl ?_
    refine v_eql (lv' := [(0, .ref (a 0)), (1, .int y), (2, .int (nI (bstS (fun j => worthS (yearsS n 0 E j) (ix y)) (0 + 1)))), (3, .int (mstS (fun j => worthS (yearsS n 0 E j) (ix y)) (0 + 1))), (4, .int 1)]) (by rw [bst_1, mst_1 (f := fun j => worthS (yearsS n 0 E j) (ix y)) (worthS_nn hW (by omega))]; rfl) ?_
    refine v_eqw (ws' := cW cI cS a (E, yearsS n 0 E 0, Kp, P, S, F)) rfl ?_
    have LA : ∀ (m iA : Nat), iA ≤ 60 → (True) → 60 + 1 ≤ iA + m → V K (cW cI cS a (E, yearsS n 0 E iA, Kp, P, S, F)) 39 [(0, .ref (a 0)), (1, .int y), (2, .int (nI (bstS (fun j => worthS (yearsS n 0 E j) (ix y)) (iA + 1)))), (3, .int (mstS (fun j => worthS (yearsS n 0 E j) (ix y)) (iA + 1))), (4, .int (nI (iA + 1)))] [] := by
      intro m
      induction m with
      | zero => exact fun iA h1 hh h2 => absurd h2 (by omega)
      | succ m ihA =>
        intro iA hleA hhA hltA
        have hWSA : Wf (yearsS n 0 E iA) n := (Wf_years hW 0 iA)
        generalize hSA : yearsS n 0 E iA = SA at hWSA ⊢
        have hZA : SA 9 4 = 0 := by rw [← hSA]; exact (yearsS_94 _ _ _ _).trans hZ
        refine v_iload h pX3_dive_0 22 rfl 4 rfl (v_bipush h pX3_dive_0 23 rfl kb_60 ?_)
        refine v_ncmp_gt (a := iA + 1) (b := 60) (tgt := 81) h pX3_dive_0 24 rfl rfl (by omega) (by omega) (fun c4 => ?_) (fun c4 => ?_)
        · skip
          obtain rfl : 60 = iA := by omega
          refine v_iload_n h pX3_dive_1 10 rfl 2 rfl rfl ?_
          exact v_iret h pX3_dive_1 11 hR hret rfl ((E, SA, Kp, P, S, F)) rfl ⟨vI (by simp [c1, c4]), rfl, rfl, ⟨rfl, rfl⟩, rfl, (fR_of (by simp [c1, c4, hSA]))⟩
        · skip
          refine v_aload_n h pX3_dive_0 25 rfl 0 rfl rfl (v_get h pX3_dive_0 26 fX3_16 0 rfl rfl rfl ?_)
          refine v_callV h pX3_dive_0 27 mX3_146 (As := []) (st := []) (kX0_passYear0 _ _ cI cS (sh a 11) SA n hWSA hZA) v0B v0C emb_T 11 rfl rfl rfl rfl rfl rfl rfl (vDet_k ?_)
          show V K (cW cI cS a (E, yearS n 0 SA, Kp, P, S, F)) 53 [(0, .ref (a 0)), (1, .int y), (2, .int (nI (bstS (fun j => worthS (yearsS n 0 E j) (ix y)) (iA + 1)))), (3, .int (mstS (fun j => worthS (yearsS n 0 E j) (ix y)) (iA + 1))), (4, .int (nI (iA + 1)))] []
          refine v_aload_n h pX3_dive_0 28 rfl 0 rfl rfl (v_get h pX3_dive_0 29 fX3_16 0 rfl rfl rfl (v_iload_n h pX3_dive_0 30 rfl 1 rfl rfl (v_top (w := .int (nI (ix y))) (congrArg Value.int e_y) ?_)))
          refine v_callV h pX3_dive_0 31 mX3_95 (As := [.int (nI (ix y))]) (st := []) (kX0_worthOf _ _ cI cS (sh a 11) (yearS n 0 SA) (ix y) (by omega)) v0B v0C emb_T 11 rfl rfl rfl rfl rfl rfl rfl (vDet_k ?_)
          show V K (cW cI cS a (E, yearS n 0 SA, Kp, P, S, F)) 61 [(0, .ref (a 0)), (1, .int y), (2, .int (nI (bstS (fun j => worthS (yearsS n 0 E j) (ix y)) (iA + 1)))), (3, .int (mstS (fun j => worthS (yearsS n 0 E j) (ix y)) (iA + 1))), (4, .int (nI (iA + 1)))] [.int (worthS (yearS n 0 SA) (ix y))]
          refine v_istore h pX3_dive_1 0 (lv' := [(5, .int (worthS (yearS n 0 SA) (ix y))), (0, .ref (a 0)), (1, .int y), (2, .int (nI (bstS (fun j => worthS (yearsS n 0 E j) (ix y)) (iA + 1)))), (3, .int (mstS (fun j => worthS (yearsS n 0 E j) (ix y)) (iA + 1))), (4, .int (nI (iA + 1)))]) rfl hnL rfl rfl (v_iload h pX3_dive_1 1 rfl 0 rfl (v_iload_n h pX3_dive_1 2 rfl 4 rfl rfl ?_))
          refine v_icmp_le2 (tgt := 75) h pX3_dive_1 3 rfl rfl (fun c5 => ?_) (fun c5 => ?_)
          · skip
            refine v_iinc h pX3_dive_1 8 (v := nI (iA + 1 + 1)) (lv' := [(4, .int (nI (iA + 1 + 1))), (5, .int (worthS (yearS n 0 SA) (ix y))), (0, .ref (a 0)), (1, .int y), (2, .int (nI (bstS (fun j => worthS (yearsS n 0 E j) (ix y)) (iA + 1)))), (3, .int (mstS (fun j => worthS (yearsS n 0 E j) (ix y)) (iA + 1)))]) rfl 5 rfl hnL rfl rfl (nI_1 (iA + 1)) (v_goto (tgt := 39) h pX3_dive_1 9 rfl rfl ?_)
            refine v_lv [2, 3, 4, 5, 0] (lv' := [(0, .ref (a 0)), (1, .int y), (2, .int (nI (bstS (fun j => worthS (yearsS n 0 E j) (ix y)) (iA + 1)))), (3, .int (mstS (fun j => worthS (yearsS n 0 E j) (ix y)) (iA + 1))), (4, .int (nI (iA + 1 + 1)))]) rfl ?_
            have cd : ¬ mstS (fun j => worthS (yearsS n 0 E j) (ix y)) (iA + 1) < worthS (yearsS n 0 E (iA + 1)) (ix y) := by rw [yearsS, hSA]; exact c5
            have em : mstS (fun j => worthS (yearsS n 0 E j) (ix y)) (iA + 1) = mstS (fun j => worthS (yearsS n 0 E j) (ix y)) (iA + 1 + 1) := mst_f (f := fun j => worthS (yearsS n 0 E j) (ix y)) cd
            have eb : (nI (bstS (fun j => worthS (yearsS n 0 E j) (ix y)) (iA + 1)) : Int32) = nI (bstS (fun j => worthS (yearsS n 0 E j) (ix y)) (iA + 1 + 1)) := congrArg nI (bst_f (f := fun j => worthS (yearsS n 0 E j) (ix y)) cd)
            refine v_eql (lv' := [(0, .ref (a 0)), (1, .int y), (2, .int (nI (bstS (fun j => worthS (yearsS n 0 E j) (ix y)) (iA + 1 + 1)))), (3, .int (mstS (fun j => worthS (yearsS n 0 E j) (ix y)) (iA + 1 + 1))), (4, .int (nI (iA + 1 + 1)))]) (by rw [em, eb]) ?_
            refine v_eqw (ws' := cW cI cS a (E, yearsS n 0 E (iA + 1), Kp, P, S, F)) (by rw [yearsS, hSA]) ?_
            exact ihA (iA + 1) (by omega) (trivial) (by omega)
          · skip
            refine v_iload h pX3_dive_1 4 rfl 0 rfl (v_istore_n h pX3_dive_1 5 (lv' := [(3, .int (worthS (yearS n 0 SA) (ix y))), (5, .int (worthS (yearS n 0 SA) (ix y))), (0, .ref (a 0)), (1, .int y), (2, .int (nI (bstS (fun j => worthS (yearsS n 0 E j) (ix y)) (iA + 1)))), (4, .int (nI (iA + 1)))]) rfl rfl hnL rfl rfl (v_iload h pX3_dive_1 6 rfl 5 rfl (v_istore_n h pX3_dive_1 7 (lv' := [(2, .int (nI (iA + 1))), (3, .int (worthS (yearS n 0 SA) (ix y))), (5, .int (worthS (yearS n 0 SA) (ix y))), (0, .ref (a 0)), (1, .int y), (4, .int (nI (iA + 1)))]) rfl rfl hnL rfl rfl (v_iinc h pX3_dive_1 8 (v := nI (iA + 1 + 1)) (lv' := [(4, .int (nI (iA + 1 + 1))), (2, .int (nI (iA + 1))), (3, .int (worthS (yearS n 0 SA) (ix y))), (5, .int (worthS (yearS n 0 SA) (ix y))), (0, .ref (a 0)), (1, .int y)]) rfl 5 rfl hnL rfl rfl (nI_1 (iA + 1)) (v_goto (tgt := 39) h pX3_dive_1 9 rfl rfl ?_)))))
            refine v_lv [4, 5, 1, 2, 0] (lv' := [(0, .ref (a 0)), (1, .int y), (2, .int (nI (iA + 1))), (3, .int (worthS (yearS n 0 SA) (ix y))), (4, .int (nI (iA + 1 + 1)))]) rfl ?_
            have cd : mstS (fun j => worthS (yearsS n 0 E j) (ix y)) (iA + 1) < worthS (yearsS n 0 E (iA + 1)) (ix y) := by rw [yearsS, hSA]; exact c5
            have em : worthS (yearS n 0 SA) (ix y) = mstS (fun j => worthS (yearsS n 0 E j) (ix y)) (iA + 1 + 1) := (show worthS (yearS n 0 SA) (ix y) = worthS (yearsS n 0 E (iA + 1)) (ix y) by rw [yearsS, hSA]).trans (mst_t (f := fun j => worthS (yearsS n 0 E j) (ix y)) cd)
            have eb : (nI (iA + 1) : Int32) = nI (bstS (fun j => worthS (yearsS n 0 E j) (ix y)) (iA + 1 + 1)) := congrArg nI (bst_t (f := fun j => worthS (yearsS n 0 E j) (ix y)) cd)
            refine v_eql (lv' := [(0, .ref (a 0)), (1, .int y), (2, .int (nI (bstS (fun j => worthS (yearsS n 0 E j) (ix y)) (iA + 1 + 1)))), (3, .int (mstS (fun j => worthS (yearsS n 0 E j) (ix y)) (iA + 1 + 1))), (4, .int (nI (iA + 1 + 1)))]) (by rw [em, eb]) ?_
            refine v_eqw (ws' := cW cI cS a (E, yearsS n 0 E (iA + 1), Kp, P, S, F)) (by rw [yearsS, hSA]) ?_
            exact ihA (iA + 1) (by omega) (trivial) (by omega)
    exact LA (60 + 1) 0 (by omega) trivial (by omega)
  · skip
    refine v_aload_n h pX3_dive_0 4 rfl 0 rfl rfl (v_iconst h pX3_dive_0 5 rfl ki_0 ?_)
    refine v_callV h pX3_dive_0 6 mX3_55 (As := [.int 0]) (st := []) (kX3_finding _ _ cI cS a E T Kp P F S 0 (by decide)) v0B v0C (vEmb_rf _ _) 0 rfl rfl rfl rfl rfl rfl rfl (vDet_k ?_)
    show V K (cW cI cS a (E, T, Kp, P, S, fndC F 0)) 13 [(0, .ref (a 0)), (1, .int y)] [.int ((-1000001) - (nI 0))]
    refine v_top (w := .int (-1000001)) (by decide) ?_
    exact v_iret h pX3_dive_0 7 hR hret rfl ((E, T, Kp, P, S, fndC F 0)) rfl ⟨vI (by simp [c1]), rfl, rfl, ⟨rfl, rfl⟩, rfl, (fR_of (by simp [c1, True]))⟩
set_option maxHeartbeats 300000 in
set_option maxRecDepth 100000 in
theorem kX3_sow (l : Launch) (D : va_G) (cI cS : ClassId) (a : Nat → Nat) (E T Kp P F : Nat → Nat → Int32) (S : Nat → Nat → Nat → Int32) (n : Nat) (hW : Wf E n) (hZ : E 9 4 = 0) (y k : Int32) : vMet l D (vT cI cS) yX3_sow cX3_sow 6 (some .int) 5 104 (cW cI cS a) v0 [.ref (a 0), .int y, .int k] (E, T, Kp, P, S, F) (cPost (some (.int (cond (oyB y n && inB k 0 40) (nI (bstS (fun v => yearsS n 0 (up E 3 (ix y) (nI v)) (ix k) 5 (ix y)) 6)) ((-1000001))))) (E) (Kp) (P) (S) (cond (oyB y n && inB k 0 40) (F) (fndC F 0))) := by
  refine vMet_of (by decide) rfl ?_
  intro K hl hD hnL hret h hR hEx
  subst hl hD
  show V K (cW cI cS a (E, T, Kp, P, S, F)) 0 [(0, .ref (a 0)), (1, .int y), (2, .int k)] []
  have hn8 := hW.1
  refine v_aload_n h pX3_sow_0 0 rfl 0 rfl rfl (v_iload_n h pX3_sow_0 1 rfl 1 rfl rfl ?_)
  refine v_callV h pX3_sow_0 2 mX3_83 (As := [.int y]) (st := []) (kX3_isOyster _ _ cI cS a E T Kp P F S n hW y) v0B v0C (vEmb_rf _ _) 0 rfl rfl rfl rfl rfl rfl rfl (vDet_k ?_)
  show V K (cW cI cS a (E, T, Kp, P, S, F)) 5 [(0, .ref (a 0)), (1, .int y), (2, .int k)] [.int (bI (oyB y n))]
  refine v_bif_eq (tgt := 17) h pX3_sow_0 3 rfl rfl (fun c1 => ?_) (fun c1 => ?_)
  · skip
    refine v_aload_n h pX3_sow_0 8 rfl 0 rfl rfl (v_iconst h pX3_sow_0 9 rfl ki_0 ?_)
    refine v_callV h pX3_sow_0 10 mX3_55 (As := [.int 0]) (st := []) (kX3_finding _ _ cI cS a E T Kp P F S 0 (by decide)) v0B v0C (vEmb_rf _ _) 0 rfl rfl rfl rfl rfl rfl rfl (vDet_k ?_)
    show V K (cW cI cS a (E, T, Kp, P, S, fndC F 0)) 22 [(0, .ref (a 0)), (1, .int y), (2, .int k)] [.int ((-1000001) - (nI 0))]
    refine v_top (w := .int (-1000001)) (by decide) ?_
    exact v_iret h pX3_sow_0 11 hR hret rfl ((E, T, Kp, P, S, fndC F 0)) rfl ⟨vI (by simp [c1]), rfl, rfl, ⟨rfl, rfl⟩, rfl, (fR_of (by simp [c1, True]))⟩
  · skip
    obtain ⟨e_y, l_y⟩ := oyB_t hn8 c1
    refine v_iload_n h pX3_sow_0 4 rfl 2 rfl rfl (v_bipush h pX3_sow_0 5 rfl kb_40 ?_)
    refine v_callS h pX3_sow_0 6 mX3_51 (As := [.int k, .int 40]) (st := []) (kX3_isWithin _ _ cI cS k 40) v0B v0C (vEmb_u _) rfl rfl rfl rfl rfl (vDet_k ?_)
    show V K (cW cI cS a (E, T, Kp, P, S, F)) 14 [(0, .ref (a 0)), (1, .int y), (2, .int k)] [.int (bI (inB k 0 40))]
    refine v_bif_ne (tgt := 23) h pX3_sow_0 7 rfl rfl (fun c2 => ?_) (fun c2 => ?_)
    · skip
      obtain ⟨e_k, l_k⟩ := inB_t 40 rfl (by decide) c2
      refine v_iconst h pX3_sow_0 12 rfl ki_0 (v_istore_n h pX3_sow_0 13 (lv' := [(3, .int 0), (0, .ref (a 0)), (1, .int y), (2, .int k)]) rfl rfl hnL rfl rfl (v_iconst h pX3_sow_0 14 rfl ki_m1 (v_istore h pX3_sow_0 15 (lv' := [(4, .int (-1)), (3, .int 0), (0, .ref (a 0)), (1, .int y), (2, .int k)]) rfl hnL rfl rfl (v_iconst h pX3_sow_0 16 rfl ki_0 (v_istore h pX3_sow_0 17 (lv' := [(5, .int 0), (4, .int (-1)), (3, .int 0), (0, .ref (a 0)), (1, .int y), (2, .int k)]) rfl hnL rfl rfl ?_)))))
      refine v_lv [3, 4, 5, 2, 1, 0] (lv' := [(0, .ref (a 0)), (1, .int y), (2, .int k), (3, .int 0), (4, .int (-1)), (5, .int 0)]) rfl ?_
      have LA : ∀ (m iA : Nat) (TA : Nat → Nat → Int32), iA ≤ 6 → (True) → 6 + 1 ≤ iA + m → V K (cW cI cS a (E, TA, Kp, P, S, F)) 31 [(0, .ref (a 0)), (1, .int y), (2, .int k), (3, .int (nI (bstS (fun v => yearsS n 0 (up E 3 (ix y) (nI v)) (ix k) 5 (ix y)) iA))), (4, .int (mstS (fun v => yearsS n 0 (up E 3 (ix y) (nI v)) (ix k) 5 (ix y)) iA)), (5, .int (nI iA))] [] := by
        intro m
        induction m with
        | zero => exact fun iA TA h1 hh h2 => absurd h2 (by omega)
        | succ m ihA =>
          intro iA TA hleA hhA hltA
          refine v_iload h pX3_sow_0 18 rfl 5 rfl (v_bipush h pX3_sow_0 19 rfl kb_6 ?_)
          refine v_ncmp_ge (a := iA) (b := 6) (tgt := 102) h pX3_sow_0 20 rfl rfl (by omega) (by omega) (fun c4 => ?_) (fun c4 => ?_)
          · skip
            obtain rfl : 6 = iA := by omega
            refine v_iload_n h pX3_sow_1 21 rfl 3 rfl rfl ?_
            exact v_iret h pX3_sow_1 22 hR hret rfl ((E, TA, Kp, P, S, F)) rfl ⟨vI (by simp [c1, c2, c4]), rfl, rfl, ⟨rfl, rfl⟩, rfl, (fR_of (by simp [c1, c2, c4, True]))⟩
          · skip
            refine v_aload_n h pX3_sow_0 21 rfl 0 rfl rfl (v_get h pX3_sow_0 22 fX3_16 0 rfl rfl rfl (v_aload_n h pX3_sow_0 23 rfl 0 rfl rfl (v_get h pX3_sow_0 24 fX3_10 0 rfl rfl rfl ?_)))
            refine v_callV h pX3_sow_0 25 mX3_139 (As := [.ref (a 1)]) (st := []) (kX0_copyFrom _ _ cI cS (sh a 11) (sh a 1) E TA) v0B v0C emb_TE 11 rfl rfl rfl rfl rfl rfl rfl (vDet_k ?_)
            show V K (cW cI cS a (E, E, Kp, P, S, F)) 49 [(0, .ref (a 0)), (1, .int y), (2, .int k), (3, .int (nI (bstS (fun v => yearsS n 0 (up E 3 (ix y) (nI v)) (ix k) 5 (ix y)) iA))), (4, .int (mstS (fun v => yearsS n 0 (up E 3 (ix y) (nI v)) (ix k) 5 (ix y)) iA)), (5, .int (nI iA))] []
            refine v_aload_n h pX3_sow_0 26 rfl 0 rfl rfl (v_get h pX3_sow_0 27 fX3_16 0 rfl rfl rfl (v_get h pX3_sow_0 28 fX3_152 11 rfl rfl rfl (v_iload_n h pX3_sow_0 29 rfl 1 rfl rfl (v_top (w := .int (nI (ix y))) (congrArg Value.int e_y) (v_iload h pX3_sow_0 30 rfl 5 rfl ?_)))))
            refine v_iast h pX3_sow_0 31 (ix y) 15 0 (ws' := cW cI cS a (E, up E 3 (ix y) (nI iA), Kp, P, S, F)) rfl rfl rfl rfl rfl (by omega) cW_Ts3 (v_aload_n h pX3_sow_1 0 rfl 0 rfl rfl (v_get h pX3_sow_1 1 fX3_16 0 rfl rfl rfl (v_iload_n h pX3_sow_1 2 rfl 2 rfl rfl (v_top (w := .int (nI (ix k))) (congrArg Value.int e_k) ?_))))
            refine v_callV h pX3_sow_1 3 mX3_113 (As := [.int (nI (ix k))]) (st := []) (kX0_passYears0 _ _ cI cS (sh a 11) (up E 3 (ix y) (nI iA)) n (Wf_upb hW (by omega)) (ix k) (by omega) (show (up E 3 (ix y) (nI iA)) 9 4 = 0 from hZ)) v0B v0C emb_T 11 rfl rfl rfl rfl rfl rfl rfl (vDet_k ?_)
            show V K (cW cI cS a (E, yearsS n 0 (up E 3 (ix y) (nI iA)) (ix k), Kp, P, S, F)) 68 [(0, .ref (a 0)), (1, .int y), (2, .int k), (3, .int (nI (bstS (fun v => yearsS n 0 (up E 3 (ix y) (nI v)) (ix k) 5 (ix y)) iA))), (4, .int (mstS (fun v => yearsS n 0 (up E 3 (ix y) (nI v)) (ix k) 5 (ix y)) iA)), (5, .int (nI iA))] []
            refine v_aload_n h pX3_sow_1 4 rfl 0 rfl rfl (v_get h pX3_sow_1 5 fX3_16 0 rfl rfl rfl (v_get h pX3_sow_1 6 fX3_116 11 rfl rfl rfl (v_iload_n h pX3_sow_1 7 rfl 1 rfl rfl (v_top (w := .int (nI (ix y))) (congrArg Value.int e_y) (v_iald h pX3_sow_1 8 (ix y) 17 0 rfl rfl rfl rfl rfl (by omega) ?_)))))
            refine v_iload h pX3_sow_1 9 rfl 4 rfl ?_
            refine v_icmp_le2 (tgt := 96) h pX3_sow_1 10 rfl rfl (fun c5 => ?_) (fun c5 => ?_)
            · skip
              refine v_iinc h pX3_sow_1 19 (v := nI (iA + 1)) (lv' := [(5, .int (nI (iA + 1))), (0, .ref (a 0)), (1, .int y), (2, .int k), (3, .int (nI (bstS (fun v => yearsS n 0 (up E 3 (ix y) (nI v)) (ix k) 5 (ix y)) iA))), (4, .int (mstS (fun v => yearsS n 0 (up E 3 (ix y) (nI v)) (ix k) 5 (ix y)) iA))]) rfl 5 rfl hnL rfl rfl (nI_1 iA) (v_goto (tgt := 31) h pX3_sow_1 20 rfl rfl (v_lv [1, 2, 3, 4, 5, 0] (lv' := [(0, .ref (a 0)), (1, .int y), (2, .int k), (3, .int (nI (bstS (fun v => yearsS n 0 (up E 3 (ix y) (nI v)) (ix k) 5 (ix y)) iA))), (4, .int (mstS (fun v => yearsS n 0 (up E 3 (ix y) (nI v)) (ix k) 5 (ix y)) iA)), (5, .int (nI (iA + 1)))]) rfl (v_eql (congrArg (fun z : Int32 => ([(0, .ref (a 0)), (1, .int y), (2, .int k), (3, .int z), (4, .int (mstS (fun v => yearsS n 0 (up E 3 (ix y) (nI v)) (ix k) 5 (ix y)) iA)), (5, .int (nI (iA + 1)))] : List (Nat × Value))) (by first | rfl | (simp [bstS, c1, c2, c4, c5, -Int32.not_lt]; done) | (simp [mstS, mx, c1, c2, c4, c5, -Int32.not_lt]; done) : nI (bstS (fun v => yearsS n 0 (up E 3 (ix y) (nI v)) (ix k) 5 (ix y)) iA) = nI (bstS (fun v => yearsS n 0 (up E 3 (ix y) (nI v)) (ix k) 5 (ix y)) (iA + 1)))) (v_eql (congrArg (fun z : Int32 => ([(0, .ref (a 0)), (1, .int y), (2, .int k), (3, .int (nI (bstS (fun v => yearsS n 0 (up E 3 (ix y) (nI v)) (ix k) 5 (ix y)) (iA + 1)))), (4, .int z), (5, .int (nI (iA + 1)))] : List (Nat × Value))) (by first | rfl | (simp [bstS, c1, c2, c4, c5, -Int32.not_lt]; done) | (simp [mstS, mx, c1, c2, c4, c5, -Int32.not_lt]; done) : mstS (fun v => yearsS n 0 (up E 3 (ix y) (nI v)) (ix k) 5 (ix y)) iA = mstS (fun v => yearsS n 0 (up E 3 (ix y) (nI v)) (ix k) 5 (ix y)) (iA + 1))) ?_))))
              exact ihA (iA + 1) (yearsS n 0 (up E 3 (ix y) (nI iA)) (ix k)) (by omega) (trivial) (by omega)
            · skip
              refine v_aload_n h pX3_sow_1 11 rfl 0 rfl rfl (v_get h pX3_sow_1 12 fX3_16 0 rfl rfl rfl (v_get h pX3_sow_1 13 fX3_116 11 rfl rfl rfl (v_iload_n h pX3_sow_1 14 rfl 1 rfl rfl (v_top (w := .int (nI (ix y))) (congrArg Value.int e_y) (v_iald h pX3_sow_1 15 (ix y) 17 0 rfl rfl rfl rfl rfl (by omega) ?_)))))
              refine v_istore h pX3_sow_1 16 (lv' := [(4, .int ((yearsS n 0 (up E 3 (ix y) (nI iA)) (ix k)) 5 (ix y))), (0, .ref (a 0)), (1, .int y), (2, .int k), (3, .int (nI (bstS (fun v => yearsS n 0 (up E 3 (ix y) (nI v)) (ix k) 5 (ix y)) iA))), (5, .int (nI iA))]) rfl hnL rfl rfl (v_iload h pX3_sow_1 17 rfl 5 rfl (v_istore_n h pX3_sow_1 18 (lv' := [(3, .int (nI iA)), (4, .int ((yearsS n 0 (up E 3 (ix y) (nI iA)) (ix k)) 5 (ix y))), (0, .ref (a 0)), (1, .int y), (2, .int k), (5, .int (nI iA))]) rfl rfl hnL rfl rfl (v_iinc h pX3_sow_1 19 (v := nI (iA + 1)) (lv' := [(5, .int (nI (iA + 1))), (3, .int (nI iA)), (4, .int ((yearsS n 0 (up E 3 (ix y) (nI iA)) (ix k)) 5 (ix y))), (0, .ref (a 0)), (1, .int y), (2, .int k)]) rfl 5 rfl hnL rfl rfl (nI_1 iA) (v_goto (tgt := 31) h pX3_sow_1 20 rfl rfl (v_lv [3, 4, 5, 1, 2, 0] (lv' := [(0, .ref (a 0)), (1, .int y), (2, .int k), (3, .int (nI iA)), (4, .int ((yearsS n 0 (up E 3 (ix y) (nI iA)) (ix k)) 5 (ix y))), (5, .int (nI (iA + 1)))]) rfl ?_)))))
              refine v_eql (congrArg (fun z : Int32 => ([(0, .ref (a 0)), (1, .int y), (2, .int k), (3, .int z), (4, .int ((yearsS n 0 (up E 3 (ix y) (nI iA)) (ix k)) 5 (ix y))), (5, .int (nI (iA + 1)))] : List (Nat × Value))) (by first | rfl | (simp [bstS, c1, c2, c4, c5, -Int32.not_lt]; done) | (simp [mstS, mx, c1, c2, c4, c5, -Int32.not_lt]; done) : nI iA = nI (bstS (fun v => yearsS n 0 (up E 3 (ix y) (nI v)) (ix k) 5 (ix y)) (iA + 1)))) (v_eql (congrArg (fun z : Int32 => ([(0, .ref (a 0)), (1, .int y), (2, .int k), (3, .int (nI (bstS (fun v => yearsS n 0 (up E 3 (ix y) (nI v)) (ix k) 5 (ix y)) (iA + 1)))), (4, .int z), (5, .int (nI (iA + 1)))] : List (Nat × Value))) (by first | rfl | (simp [bstS, c1, c2, c4, c5, -Int32.not_lt]; done) | (simp [mstS, mx, c1, c2, c4, c5, -Int32.not_lt]; done) : (yearsS n 0 (up E 3 (ix y) (nI iA)) (ix k)) 5 (ix y) = mstS (fun v => yearsS n 0 (up E 3 (ix y) (nI v)) (ix k) 5 (ix y)) (iA + 1))) ?_)
              exact ihA (iA + 1) (yearsS n 0 (up E 3 (ix y) (nI iA)) (ix k)) (by omega) (trivial) (by omega)
      exact LA (6 + 1) 0 T (by omega) trivial (by omega)
    · skip
      refine v_aload_n h pX3_sow_0 8 rfl 0 rfl rfl (v_iconst h pX3_sow_0 9 rfl ki_0 ?_)
      refine v_callV h pX3_sow_0 10 mX3_55 (As := [.int 0]) (st := []) (kX3_finding _ _ cI cS a E T Kp P F S 0 (by decide)) v0B v0C (vEmb_rf _ _) 0 rfl rfl rfl rfl rfl rfl rfl (vDet_k ?_)
      show V K (cW cI cS a (E, T, Kp, P, S, fndC F 0)) 22 [(0, .ref (a 0)), (1, .int y), (2, .int k)] [.int ((-1000001) - (nI 0))]
      refine v_top (w := .int (-1000001)) (by decide) ?_
      exact v_iret h pX3_sow_0 11 hR hret rfl ((E, T, Kp, P, S, fndC F 0)) rfl ⟨vI (by simp [c1, c2]), rfl, rfl, ⟨rfl, rfl⟩, rfl, (fR_of (by simp [c1, c2, True]))⟩
set_option maxHeartbeats 300000 in
set_option maxRecDepth 100000 in
theorem kX3_kindFor (l : Launch) (D : va_G) (cI cS : ClassId) (a : Nat → Nat) (E T Kp P F : Nat → Nat → Int32) (S : Nat → Nat → Nat → Int32) (n : Nat) (hW : Wf E n) (hZ : E 9 4 = 0) (y k : Int32) : vMet l D (vT cI cS) yX3_kindFor cX3_kindFor 7 (some .int) 5 104 (cW cI cS a) v0 [.ref (a 0), .int y, .int k] (E, T, Kp, P, S, F) (cPost (some (.int (cond (oyB y n && inB k 0 40) (nI (bstS (fun v => worthS (yearsS n 0 (up E 2 (ix y) (nI v)) (ix k)) (ix y)) 7)) ((-1000001))))) (E) (Kp) (P) (S) (cond (oyB y n && inB k 0 40) (F) (fndC F 0))) := by
  refine vMet_of (by decide) rfl ?_
  intro K hl hD hnL hret h hR hEx
  subst hl hD
  show V K (cW cI cS a (E, T, Kp, P, S, F)) 0 [(0, .ref (a 0)), (1, .int y), (2, .int k)] []
  have hn8 := hW.1
  refine v_aload_n h pX3_kindFor_0 0 rfl 0 rfl rfl (v_iload_n h pX3_kindFor_0 1 rfl 1 rfl rfl ?_)
  refine v_callV h pX3_kindFor_0 2 mX3_83 (As := [.int y]) (st := []) (kX3_isOyster _ _ cI cS a E T Kp P F S n hW y) v0B v0C (vEmb_rf _ _) 0 rfl rfl rfl rfl rfl rfl rfl (vDet_k ?_)
  show V K (cW cI cS a (E, T, Kp, P, S, F)) 5 [(0, .ref (a 0)), (1, .int y), (2, .int k)] [.int (bI (oyB y n))]
  refine v_bif_eq (tgt := 17) h pX3_kindFor_0 3 rfl rfl (fun c1 => ?_) (fun c1 => ?_)
  · skip
    refine v_aload_n h pX3_kindFor_0 8 rfl 0 rfl rfl (v_iconst h pX3_kindFor_0 9 rfl ki_0 ?_)
    refine v_callV h pX3_kindFor_0 10 mX3_55 (As := [.int 0]) (st := []) (kX3_finding _ _ cI cS a E T Kp P F S 0 (by decide)) v0B v0C (vEmb_rf _ _) 0 rfl rfl rfl rfl rfl rfl rfl (vDet_k ?_)
    show V K (cW cI cS a (E, T, Kp, P, S, fndC F 0)) 22 [(0, .ref (a 0)), (1, .int y), (2, .int k)] [.int ((-1000001) - (nI 0))]
    refine v_top (w := .int (-1000001)) (by decide) ?_
    exact v_iret h pX3_kindFor_0 11 hR hret rfl ((E, T, Kp, P, S, fndC F 0)) rfl ⟨vI (by simp [c1]), rfl, rfl, ⟨rfl, rfl⟩, rfl, (fR_of (by simp [c1, True]))⟩
  · skip
    obtain ⟨e_y, l_y⟩ := oyB_t hn8 c1
    refine v_iload_n h pX3_kindFor_0 4 rfl 2 rfl rfl (v_bipush h pX3_kindFor_0 5 rfl kb_40 ?_)
    refine v_callS h pX3_kindFor_0 6 mX3_51 (As := [.int k, .int 40]) (st := []) (kX3_isWithin _ _ cI cS k 40) v0B v0C (vEmb_u _) rfl rfl rfl rfl rfl (vDet_k ?_)
    show V K (cW cI cS a (E, T, Kp, P, S, F)) 14 [(0, .ref (a 0)), (1, .int y), (2, .int k)] [.int (bI (inB k 0 40))]
    refine v_bif_ne (tgt := 23) h pX3_kindFor_0 7 rfl rfl (fun c2 => ?_) (fun c2 => ?_)
    · skip
      obtain ⟨e_k, l_k⟩ := inB_t 40 rfl (by decide) c2
      refine v_iconst h pX3_kindFor_0 12 rfl ki_0 (v_istore_n h pX3_kindFor_0 13 (lv' := [(3, .int 0), (0, .ref (a 0)), (1, .int y), (2, .int k)]) rfl rfl hnL rfl rfl (v_iconst h pX3_kindFor_0 14 rfl ki_m1 (v_istore h pX3_kindFor_0 15 (lv' := [(4, .int (-1)), (3, .int 0), (0, .ref (a 0)), (1, .int y), (2, .int k)]) rfl hnL rfl rfl (v_iconst h pX3_kindFor_0 16 rfl ki_0 (v_istore h pX3_kindFor_0 17 (lv' := [(5, .int 0), (4, .int (-1)), (3, .int 0), (0, .ref (a 0)), (1, .int y), (2, .int k)]) rfl hnL rfl rfl ?_)))))
      refine v_lv [3, 4, 5, 2, 1, 0] (lv' := [(0, .ref (a 0)), (1, .int y), (2, .int k), (3, .int 0), (4, .int (-1)), (5, .int 0)]) rfl ?_
      have LA : ∀ (m iA : Nat) (TA : Nat → Nat → Int32), iA ≤ 7 → (True) → 7 + 1 ≤ iA + m → V K (cW cI cS a (E, TA, Kp, P, S, F)) 31 [(0, .ref (a 0)), (1, .int y), (2, .int k), (3, .int (nI (bstS (fun v => worthS (yearsS n 0 (up E 2 (ix y) (nI v)) (ix k)) (ix y)) iA))), (4, .int (mstS (fun v => worthS (yearsS n 0 (up E 2 (ix y) (nI v)) (ix k)) (ix y)) iA)), (5, .int (nI iA))] [] := by
        intro m
        induction m with
        | zero => exact fun iA TA h1 hh h2 => absurd h2 (by omega)
        | succ m ihA =>
          intro iA TA hleA hhA hltA
          refine v_iload h pX3_kindFor_0 18 rfl 5 rfl (v_bipush h pX3_kindFor_0 19 rfl kb_7 ?_)
          refine v_ncmp_ge (a := iA) (b := 7) (tgt := 98) h pX3_kindFor_0 20 rfl rfl (by omega) (by omega) (fun c4 => ?_) (fun c4 => ?_)
          · skip
            obtain rfl : 7 = iA := by omega
            refine v_iload_n h pX3_kindFor_1 18 rfl 3 rfl rfl ?_
            exact v_iret h pX3_kindFor_1 19 hR hret rfl ((E, TA, Kp, P, S, F)) rfl ⟨vI (by simp [c1, c2, c4]), rfl, rfl, ⟨rfl, rfl⟩, rfl, (fR_of (by simp [c1, c2, c4, True]))⟩
          · skip
            refine v_aload_n h pX3_kindFor_0 21 rfl 0 rfl rfl (v_get h pX3_kindFor_0 22 fX3_16 0 rfl rfl rfl (v_aload_n h pX3_kindFor_0 23 rfl 0 rfl rfl (v_get h pX3_kindFor_0 24 fX3_10 0 rfl rfl rfl ?_)))
            refine v_callV h pX3_kindFor_0 25 mX3_139 (As := [.ref (a 1)]) (st := []) (kX0_copyFrom _ _ cI cS (sh a 11) (sh a 1) E TA) v0B v0C emb_TE 11 rfl rfl rfl rfl rfl rfl rfl (vDet_k ?_)
            show V K (cW cI cS a (E, E, Kp, P, S, F)) 49 [(0, .ref (a 0)), (1, .int y), (2, .int k), (3, .int (nI (bstS (fun v => worthS (yearsS n 0 (up E 2 (ix y) (nI v)) (ix k)) (ix y)) iA))), (4, .int (mstS (fun v => worthS (yearsS n 0 (up E 2 (ix y) (nI v)) (ix k)) (ix y)) iA)), (5, .int (nI iA))] []
            refine v_aload_n h pX3_kindFor_0 26 rfl 0 rfl rfl (v_get h pX3_kindFor_0 27 fX3_16 0 rfl rfl rfl (v_get h pX3_kindFor_0 28 fX3_155 11 rfl rfl rfl (v_iload_n h pX3_kindFor_0 29 rfl 1 rfl rfl (v_top (w := .int (nI (ix y))) (congrArg Value.int e_y) (v_iload h pX3_kindFor_0 30 rfl 5 rfl ?_)))))
            refine v_iast h pX3_kindFor_0 31 (ix y) 14 0 (ws' := cW cI cS a (E, up E 2 (ix y) (nI iA), Kp, P, S, F)) rfl rfl rfl rfl rfl (by omega) cW_Ts2 (v_aload_n h pX3_kindFor_1 0 rfl 0 rfl rfl (v_get h pX3_kindFor_1 1 fX3_16 0 rfl rfl rfl (v_iload_n h pX3_kindFor_1 2 rfl 2 rfl rfl (v_top (w := .int (nI (ix k))) (congrArg Value.int e_k) ?_))))
            refine v_callV h pX3_kindFor_1 3 mX3_113 (As := [.int (nI (ix k))]) (st := []) (kX0_passYears0 _ _ cI cS (sh a 11) (up E 2 (ix y) (nI iA)) n (Wf_upk hW (by omega)) (ix k) (by omega) (show (up E 2 (ix y) (nI iA)) 9 4 = 0 from hZ)) v0B v0C emb_T 11 rfl rfl rfl rfl rfl rfl rfl (vDet_k ?_)
            show V K (cW cI cS a (E, yearsS n 0 (up E 2 (ix y) (nI iA)) (ix k), Kp, P, S, F)) 68 [(0, .ref (a 0)), (1, .int y), (2, .int k), (3, .int (nI (bstS (fun v => worthS (yearsS n 0 (up E 2 (ix y) (nI v)) (ix k)) (ix y)) iA))), (4, .int (mstS (fun v => worthS (yearsS n 0 (up E 2 (ix y) (nI v)) (ix k)) (ix y)) iA)), (5, .int (nI iA))] []
            refine v_aload_n h pX3_kindFor_1 4 rfl 0 rfl rfl (v_get h pX3_kindFor_1 5 fX3_16 0 rfl rfl rfl (v_iload_n h pX3_kindFor_1 6 rfl 1 rfl rfl (v_top (w := .int (nI (ix y))) (congrArg Value.int e_y) ?_)))
            refine v_callV h pX3_kindFor_1 7 mX3_95 (As := [.int (nI (ix y))]) (st := []) (kX0_worthOf _ _ cI cS (sh a 11) (yearsS n 0 (up E 2 (ix y) (nI iA)) (ix k)) (ix y) (by omega)) v0B v0C emb_T 11 rfl rfl rfl rfl rfl rfl rfl (vDet_k ?_)
            show V K (cW cI cS a (E, yearsS n 0 (up E 2 (ix y) (nI iA)) (ix k), Kp, P, S, F)) 76 [(0, .ref (a 0)), (1, .int y), (2, .int k), (3, .int (nI (bstS (fun v => worthS (yearsS n 0 (up E 2 (ix y) (nI v)) (ix k)) (ix y)) iA))), (4, .int (mstS (fun v => worthS (yearsS n 0 (up E 2 (ix y) (nI v)) (ix k)) (ix y)) iA)), (5, .int (nI iA))] [.int (worthS (yearsS n 0 (up E 2 (ix y) (nI iA)) (ix k)) (ix y))]
            refine v_istore h pX3_kindFor_1 8 (lv' := [(6, .int (worthS (yearsS n 0 (up E 2 (ix y) (nI iA)) (ix k)) (ix y))), (0, .ref (a 0)), (1, .int y), (2, .int k), (3, .int (nI (bstS (fun v => worthS (yearsS n 0 (up E 2 (ix y) (nI v)) (ix k)) (ix y)) iA))), (4, .int (mstS (fun v => worthS (yearsS n 0 (up E 2 (ix y) (nI v)) (ix k)) (ix y)) iA)), (5, .int (nI iA))]) rfl hnL rfl rfl (v_iload h pX3_kindFor_1 9 rfl 0 rfl (v_iload h pX3_kindFor_1 10 rfl 5 rfl ?_))
            refine v_icmp_le2 (tgt := 92) h pX3_kindFor_1 11 rfl rfl (fun c5 => ?_) (fun c5 => ?_)
            · skip
              refine v_iinc h pX3_kindFor_1 16 (v := nI (iA + 1)) (lv' := [(5, .int (nI (iA + 1))), (6, .int (worthS (yearsS n 0 (up E 2 (ix y) (nI iA)) (ix k)) (ix y))), (0, .ref (a 0)), (1, .int y), (2, .int k), (3, .int (nI (bstS (fun v => worthS (yearsS n 0 (up E 2 (ix y) (nI v)) (ix k)) (ix y)) iA))), (4, .int (mstS (fun v => worthS (yearsS n 0 (up E 2 (ix y) (nI v)) (ix k)) (ix y)) iA))]) rfl 6 rfl hnL rfl rfl (nI_1 iA) (v_goto (tgt := 31) h pX3_kindFor_1 17 rfl rfl (v_lv [2, 3, 4, 5, 6, 0] (lv' := [(0, .ref (a 0)), (1, .int y), (2, .int k), (3, .int (nI (bstS (fun v => worthS (yearsS n 0 (up E 2 (ix y) (nI v)) (ix k)) (ix y)) iA))), (4, .int (mstS (fun v => worthS (yearsS n 0 (up E 2 (ix y) (nI v)) (ix k)) (ix y)) iA)), (5, .int (nI (iA + 1)))]) rfl (v_eql (congrArg (fun z : Int32 => ([(0, .ref (a 0)), (1, .int y), (2, .int k), (3, .int z), (4, .int (mstS (fun v => worthS (yearsS n 0 (up E 2 (ix y) (nI v)) (ix k)) (ix y)) iA)), (5, .int (nI (iA + 1)))] : List (Nat × Value))) (by first | rfl | (simp [bstS, c1, c2, c4, c5, -Int32.not_lt]; done) | (simp [mstS, mx, c1, c2, c4, c5, -Int32.not_lt]; done) : nI (bstS (fun v => worthS (yearsS n 0 (up E 2 (ix y) (nI v)) (ix k)) (ix y)) iA) = nI (bstS (fun v => worthS (yearsS n 0 (up E 2 (ix y) (nI v)) (ix k)) (ix y)) (iA + 1)))) (v_eql (congrArg (fun z : Int32 => ([(0, .ref (a 0)), (1, .int y), (2, .int k), (3, .int (nI (bstS (fun v => worthS (yearsS n 0 (up E 2 (ix y) (nI v)) (ix k)) (ix y)) (iA + 1)))), (4, .int z), (5, .int (nI (iA + 1)))] : List (Nat × Value))) (by first | rfl | (simp [bstS, c1, c2, c4, c5, -Int32.not_lt]; done) | (simp [mstS, mx, c1, c2, c4, c5, -Int32.not_lt]; done) : mstS (fun v => worthS (yearsS n 0 (up E 2 (ix y) (nI v)) (ix k)) (ix y)) iA = mstS (fun v => worthS (yearsS n 0 (up E 2 (ix y) (nI v)) (ix k)) (ix y)) (iA + 1))) ?_))))
              exact ihA (iA + 1) (yearsS n 0 (up E 2 (ix y) (nI iA)) (ix k)) (by omega) (trivial) (by omega)
            · skip
              refine v_iload h pX3_kindFor_1 12 rfl 0 rfl (v_istore h pX3_kindFor_1 13 (lv' := [(4, .int (worthS (yearsS n 0 (up E 2 (ix y) (nI iA)) (ix k)) (ix y))), (6, .int (worthS (yearsS n 0 (up E 2 (ix y) (nI iA)) (ix k)) (ix y))), (0, .ref (a 0)), (1, .int y), (2, .int k), (3, .int (nI (bstS (fun v => worthS (yearsS n 0 (up E 2 (ix y) (nI v)) (ix k)) (ix y)) iA))), (5, .int (nI iA))]) rfl hnL rfl rfl (v_iload h pX3_kindFor_1 14 rfl 6 rfl (v_istore_n h pX3_kindFor_1 15 (lv' := [(3, .int (nI iA)), (4, .int (worthS (yearsS n 0 (up E 2 (ix y) (nI iA)) (ix k)) (ix y))), (6, .int (worthS (yearsS n 0 (up E 2 (ix y) (nI iA)) (ix k)) (ix y))), (0, .ref (a 0)), (1, .int y), (2, .int k), (5, .int (nI iA))]) rfl rfl hnL rfl rfl (v_iinc h pX3_kindFor_1 16 (v := nI (iA + 1)) (lv' := [(5, .int (nI (iA + 1))), (3, .int (nI iA)), (4, .int (worthS (yearsS n 0 (up E 2 (ix y) (nI iA)) (ix k)) (ix y))), (6, .int (worthS (yearsS n 0 (up E 2 (ix y) (nI iA)) (ix k)) (ix y))), (0, .ref (a 0)), (1, .int y), (2, .int k)]) rfl 6 rfl hnL rfl rfl (nI_1 iA) (v_goto (tgt := 31) h pX3_kindFor_1 17 rfl rfl ?_)))))
              refine v_lv [4, 5, 6, 1, 2, 0] (lv' := [(0, .ref (a 0)), (1, .int y), (2, .int k), (3, .int (nI iA)), (4, .int (worthS (yearsS n 0 (up E 2 (ix y) (nI iA)) (ix k)) (ix y))), (5, .int (nI (iA + 1)))]) rfl (v_eql (congrArg (fun z : Int32 => ([(0, .ref (a 0)), (1, .int y), (2, .int k), (3, .int z), (4, .int (worthS (yearsS n 0 (up E 2 (ix y) (nI iA)) (ix k)) (ix y))), (5, .int (nI (iA + 1)))] : List (Nat × Value))) (by first | rfl | (simp [bstS, c1, c2, c4, c5, -Int32.not_lt]; done) | (simp [mstS, mx, c1, c2, c4, c5, -Int32.not_lt]; done) : nI iA = nI (bstS (fun v => worthS (yearsS n 0 (up E 2 (ix y) (nI v)) (ix k)) (ix y)) (iA + 1)))) (v_eql (congrArg (fun z : Int32 => ([(0, .ref (a 0)), (1, .int y), (2, .int k), (3, .int (nI (bstS (fun v => worthS (yearsS n 0 (up E 2 (ix y) (nI v)) (ix k)) (ix y)) (iA + 1)))), (4, .int z), (5, .int (nI (iA + 1)))] : List (Nat × Value))) (by first | rfl | (simp [bstS, c1, c2, c4, c5, -Int32.not_lt]; done) | (simp [mstS, mx, c1, c2, c4, c5, -Int32.not_lt]; done) : worthS (yearsS n 0 (up E 2 (ix y) (nI iA)) (ix k)) (ix y) = mstS (fun v => worthS (yearsS n 0 (up E 2 (ix y) (nI v)) (ix k)) (ix y)) (iA + 1))) ?_))
              exact ihA (iA + 1) (yearsS n 0 (up E 2 (ix y) (nI iA)) (ix k)) (by omega) (trivial) (by omega)
      exact LA (7 + 1) 0 T (by omega) trivial (by omega)
    · skip
      refine v_aload_n h pX3_kindFor_0 8 rfl 0 rfl rfl (v_iconst h pX3_kindFor_0 9 rfl ki_0 ?_)
      refine v_callV h pX3_kindFor_0 10 mX3_55 (As := [.int 0]) (st := []) (kX3_finding _ _ cI cS a E T Kp P F S 0 (by decide)) v0B v0C (vEmb_rf _ _) 0 rfl rfl rfl rfl rfl rfl rfl (vDet_k ?_)
      show V K (cW cI cS a (E, T, Kp, P, S, fndC F 0)) 22 [(0, .ref (a 0)), (1, .int y), (2, .int k)] [.int ((-1000001) - (nI 0))]
      refine v_top (w := .int (-1000001)) (by decide) ?_
      exact v_iret h pX3_kindFor_0 11 hR hret rfl ((E, T, Kp, P, S, fndC F 0)) rfl ⟨vI (by simp [c1, c2]), rfl, rfl, ⟨rfl, rfl⟩, rfl, (fR_of (by simp [c1, c2, True]))⟩
set_option maxHeartbeats 300000 in
set_option maxRecDepth 100000 in
theorem kX3_weightFor (l : Launch) (D : va_G) (cI cS : ClassId) (a : Nat → Nat) (E T Kp P F : Nat → Nat → Int32) (S : Nat → Nat → Nat → Int32) (n : Nat) (hW : Wf E n) (hZ : E 9 4 = 0) (y k : Int32) : vMet l D (vT cI cS) yX3_weightFor cX3_weightFor 4 (some .int) 5 104 (cW cI cS a) v0 [.ref (a 0), .int y, .int k] (E, T, Kp, P, S, F) (cPost (some (.int (cond (oyB y n && inB k 0 40) (if lstN (fun v => hiddenS (yearsS n 0 (up E 4 (ix y) (nI v)) (ix k)) (ix y)) 99 = 0 then (-1000004) else nI (lstN (fun v => hiddenS (yearsS n 0 (up E 4 (ix y) (nI v)) (ix k)) (ix y)) 99)) ((-1000001))))) (E) (Kp) (P) (S) (cond (oyB y n && inB k 0 40) (if lstN (fun v => hiddenS (yearsS n 0 (up E 4 (ix y) (nI v)) (ix k)) (ix y)) 99 = 0 then fndC F 3 else F) (fndC F 0))) := by
  refine vMet_of (by decide) rfl ?_
  intro K hl hD hnL hret h hR hEx
  subst hl hD
  show V K (cW cI cS a (E, T, Kp, P, S, F)) 0 [(0, .ref (a 0)), (1, .int y), (2, .int k)] []
  have hn8 := hW.1
  refine v_aload_n h pX3_weightFor_0 0 rfl 0 rfl rfl (v_iload_n h pX3_weightFor_0 1 rfl 1 rfl rfl ?_)
  refine v_callV h pX3_weightFor_0 2 mX3_83 (As := [.int y]) (st := []) (kX3_isOyster _ _ cI cS a E T Kp P F S n hW y) v0B v0C (vEmb_rf _ _) 0 rfl rfl rfl rfl rfl rfl rfl (vDet_k ?_)
  show V K (cW cI cS a (E, T, Kp, P, S, F)) 5 [(0, .ref (a 0)), (1, .int y), (2, .int k)] [.int (bI (oyB y n))]
  refine v_bif_eq (tgt := 17) h pX3_weightFor_0 3 rfl rfl (fun c1 => ?_) (fun c1 => ?_)
  · skip
    refine v_aload_n h pX3_weightFor_0 8 rfl 0 rfl rfl (v_iconst h pX3_weightFor_0 9 rfl ki_0 ?_)
    refine v_callV h pX3_weightFor_0 10 mX3_55 (As := [.int 0]) (st := []) (kX3_finding _ _ cI cS a E T Kp P F S 0 (by decide)) v0B v0C (vEmb_rf _ _) 0 rfl rfl rfl rfl rfl rfl rfl (vDet_k ?_)
    show V K (cW cI cS a (E, T, Kp, P, S, fndC F 0)) 22 [(0, .ref (a 0)), (1, .int y), (2, .int k)] [.int ((-1000001) - (nI 0))]
    refine v_top (w := .int (-1000001)) (by decide) ?_
    exact v_iret h pX3_weightFor_0 11 hR hret rfl ((E, T, Kp, P, S, fndC F 0)) rfl ⟨vI (by first | (simp [c1]; done) | (exfalso; omega) | (simp only [c1, Bool.and_self, cond_true]; rw [hhA]; simp [lstN, c1]; done)), rfl, rfl, ⟨rfl, rfl⟩, rfl, (fR_of (by first | (simp [c1]; done) | (exfalso; omega) | (simp only [c1, Bool.and_self, cond_true]; rw [hhA]; simp [lstN, c1]; done)))⟩
  · skip
    obtain ⟨e_y, l_y⟩ := oyB_t hn8 c1
    refine v_iload_n h pX3_weightFor_0 4 rfl 2 rfl rfl (v_bipush h pX3_weightFor_0 5 rfl kb_40 ?_)
    refine v_callS h pX3_weightFor_0 6 mX3_51 (As := [.int k, .int 40]) (st := []) (kX3_isWithin _ _ cI cS k 40) v0B v0C (vEmb_u _) rfl rfl rfl rfl rfl (vDet_k ?_)
    show V K (cW cI cS a (E, T, Kp, P, S, F)) 14 [(0, .ref (a 0)), (1, .int y), (2, .int k)] [.int (bI (inB k 0 40))]
    refine v_bif_ne (tgt := 23) h pX3_weightFor_0 7 rfl rfl (fun c2 => ?_) (fun c2 => ?_)
    · skip
      obtain ⟨e_k, l_k⟩ := inB_t 40 rfl (by decide) c2
      refine v_bipush h pX3_weightFor_0 12 rfl kb_99 (v_istore_n h pX3_weightFor_0 13 (lv' := [(3, .int 99), (0, .ref (a 0)), (1, .int y), (2, .int k)]) rfl rfl hnL rfl rfl ?_)
      refine v_lv [1, 2, 3, 0] (lv' := [(0, .ref (a 0)), (1, .int y), (2, .int k), (3, .int 99)]) rfl ?_
      have LA : ∀ (iA : Nat) (TA : Nat → Nat → Int32), iA ≤ 99 → (lstN (fun v => hiddenS (yearsS n 0 (up E 4 (ix y) (nI v)) (ix k)) (ix y)) 99 = lstN (fun v => hiddenS (yearsS n 0 (up E 4 (ix y) (nI v)) (ix k)) (ix y)) iA) → V K (cW cI cS a (E, TA, Kp, P, S, F)) 26 [(0, .ref (a 0)), (1, .int y), (2, .int k), (3, .int (nI iA))] [] := by
        intro iA
        induction iA with
        | zero =>
          intro TA hleA hhA
          show V K (cW cI cS a (E, TA, Kp, P, S, F)) 26 [(0, .ref (a 0)), (1, .int y), (2, .int k), (3, .int 0)] []
          refine v_iload_n h pX3_weightFor_0 14 rfl 3 rfl rfl (v_iconst h pX3_weightFor_0 15 rfl ki_1 ?_)
          refine v_ncmp_lt (a := 0) (b := 1) (tgt := 79) h pX3_weightFor_0 16 rfl rfl (by decide) (by decide) (fun c3 => ?_) (fun c3 => absurd c3 (by decide))
          refine v_aload_n h pX3_weightFor_1 9 rfl 0 rfl rfl (v_iconst h pX3_weightFor_1 10 rfl ki_3 ?_)
          refine v_callV h pX3_weightFor_1 11 mX3_55 (As := [.int 3]) (st := []) (kX3_finding _ _ cI cS a E TA Kp P F S 3 (by decide)) v0B v0C (vEmb_rf _ _) 0 rfl rfl rfl rfl rfl rfl rfl (vDet_k ?_)
          show V K (cW cI cS a (E, TA, Kp, P, S, fndC F 3)) 84 [(0, .ref (a 0)), (1, .int y), (2, .int k), (3, .int 0)] [.int ((-1000001) - (nI 3))]
          refine v_top (w := .int (-1000004)) (by decide) ?_
          exact v_iret h pX3_weightFor_1 12 hR hret rfl ((E, TA, Kp, P, S, fndC F 3)) rfl ⟨vI (by first | (simp [c1, c2]; done) | (exfalso; omega) | (simp only [c1, c2, Bool.and_self, cond_true]; rw [hhA]; simp [lstN, c1, c2]; done)), rfl, rfl, ⟨rfl, rfl⟩, rfl, (fR_of (by first | (simp [c1, c2]; done) | (exfalso; omega) | (simp only [c1, c2, Bool.and_self, cond_true]; rw [hhA]; simp [lstN, c1, c2]; done)))⟩
        | succ iA ihA =>
          intro TA hleA hhA
          refine v_iload_n h pX3_weightFor_0 14 rfl 3 rfl rfl (v_iconst h pX3_weightFor_0 15 rfl ki_1 ?_)
          refine v_ncmp_lt (a := iA + 1) (b := 1) (tgt := 79) h pX3_weightFor_0 16 rfl rfl (by omega) (by omega) (fun c4 => ?_) (fun c4 => ?_)
          · skip
            refine v_aload_n h pX3_weightFor_1 9 rfl 0 rfl rfl (v_iconst h pX3_weightFor_1 10 rfl ki_3 ?_)
            refine v_callV h pX3_weightFor_1 11 mX3_55 (As := [.int 3]) (st := []) (kX3_finding _ _ cI cS a E TA Kp P F S 3 (by decide)) v0B v0C (vEmb_rf _ _) 0 rfl rfl rfl rfl rfl rfl rfl (vDet_k ?_)
            show V K (cW cI cS a (E, TA, Kp, P, S, fndC F 3)) 84 [(0, .ref (a 0)), (1, .int y), (2, .int k), (3, .int (nI (iA + 1)))] [.int ((-1000001) - (nI 3))]
            refine v_top (w := .int (-1000004)) (by decide) ?_
            exact v_iret h pX3_weightFor_1 12 hR hret rfl ((E, TA, Kp, P, S, fndC F 3)) rfl ⟨vI (by first | (simp [c1, c2, c4]; done) | (exfalso; omega) | (simp only [c1, c2, c4, Bool.and_self, cond_true]; rw [hhA]; simp [lstN, c1, c2, c4]; done)), rfl, rfl, ⟨rfl, rfl⟩, rfl, (fR_of (by first | (simp [c1, c2, c4]; done) | (exfalso; omega) | (simp only [c1, c2, c4, Bool.and_self, cond_true]; rw [hhA]; simp [lstN, c1, c2, c4]; done)))⟩
          · skip
            refine v_aload_n h pX3_weightFor_0 17 rfl 0 rfl rfl (v_get h pX3_weightFor_0 18 fX3_16 0 rfl rfl rfl (v_aload_n h pX3_weightFor_0 19 rfl 0 rfl rfl (v_get h pX3_weightFor_0 20 fX3_10 0 rfl rfl rfl ?_)))
            refine v_callV h pX3_weightFor_0 21 mX3_139 (As := [.ref (a 1)]) (st := []) (kX0_copyFrom _ _ cI cS (sh a 11) (sh a 1) E TA) v0B v0C emb_TE 11 rfl rfl rfl rfl rfl rfl rfl (vDet_k ?_)
            show V K (cW cI cS a (E, E, Kp, P, S, F)) 42 [(0, .ref (a 0)), (1, .int y), (2, .int k), (3, .int (nI (iA + 1)))] []
            refine v_aload_n h pX3_weightFor_0 22 rfl 0 rfl rfl (v_get h pX3_weightFor_0 23 fX3_16 0 rfl rfl rfl (v_get h pX3_weightFor_0 24 fX3_158 11 rfl rfl rfl (v_iload_n h pX3_weightFor_0 25 rfl 1 rfl rfl (v_top (w := .int (nI (ix y))) (congrArg Value.int e_y) (v_iload_n h pX3_weightFor_0 26 rfl 3 rfl rfl ?_)))))
            refine v_iast h pX3_weightFor_0 27 (ix y) 16 0 (ws' := cW cI cS a (E, up E 4 (ix y) (nI (iA + 1)), Kp, P, S, F)) rfl rfl rfl rfl rfl (by omega) cW_Ts4 (v_aload_n h pX3_weightFor_0 28 rfl 0 rfl rfl (v_get h pX3_weightFor_0 29 fX3_16 0 rfl rfl rfl (v_iload_n h pX3_weightFor_0 30 rfl 2 rfl rfl (v_top (w := .int (nI (ix k))) (congrArg Value.int e_k) ?_))))
            refine v_callV h pX3_weightFor_0 31 mX3_113 (As := [.int (nI (ix k))]) (st := []) (kX0_passYears0 _ _ cI cS (sh a 11) (up E 4 (ix y) (nI (iA + 1))) n (Wf_upw hW (by omega)) (ix k) (by omega) (show (up E 4 (ix y) (nI (iA + 1))) 9 4 = 0 from hZ)) v0B v0C emb_T 11 rfl rfl rfl rfl rfl rfl rfl (vDet_k ?_)
            show V K (cW cI cS a (E, yearsS n 0 (up E 4 (ix y) (nI (iA + 1))) (ix k), Kp, P, S, F)) 60 [(0, .ref (a 0)), (1, .int y), (2, .int k), (3, .int (nI (iA + 1)))] []
            refine v_aload_n h pX3_weightFor_1 0 rfl 0 rfl rfl (v_get h pX3_weightFor_1 1 fX3_16 0 rfl rfl rfl (v_iload_n h pX3_weightFor_1 2 rfl 1 rfl rfl (v_top (w := .int (nI (ix y))) (congrArg Value.int e_y) ?_)))
            refine v_callV h pX3_weightFor_1 3 mX3_143 (As := [.int (nI (ix y))]) (st := []) (kX0_isHidden _ _ cI cS (sh a 11) (yearsS n 0 (up E 4 (ix y) (nI (iA + 1))) (ix k)) (ix y) (by omega) n (Wf_years (Wf_upw hW (by omega)) 0 _)) v0B v0C emb_T 11 rfl rfl rfl rfl rfl rfl rfl (vDet_k ?_)
            show V K (cW cI cS a (E, yearsS n 0 (up E 4 (ix y) (nI (iA + 1))) (ix k), Kp, P, S, F)) 68 [(0, .ref (a 0)), (1, .int y), (2, .int k), (3, .int (nI (iA + 1)))] [.int (bI (hiddenS (yearsS n 0 (up E 4 (ix y) (nI (iA + 1))) (ix k)) (ix y)))]
            refine v_bif_eq (tgt := 73) h pX3_weightFor_1 4 rfl rfl (fun c5 => ?_) (fun c5 => ?_)
            · skip
              refine v_iinc h pX3_weightFor_1 7 (v := nI iA) (lv' := [(3, .int (nI iA)), (0, .ref (a 0)), (1, .int y), (2, .int k)]) rfl 3 rfl hnL rfl rfl (nI_mi _) (v_goto (tgt := 26) h pX3_weightFor_1 8 rfl rfl (v_lv [1, 2, 3, 0] (lv' := [(0, .ref (a 0)), (1, .int y), (2, .int k), (3, .int (nI iA))]) rfl ?_))
              exact ihA (yearsS n 0 (up E 4 (ix y) (nI (iA + 1))) (ix k)) (by omega) (hhA.trans (by simp [lstN, c5]))
            · skip
              refine v_iload_n h pX3_weightFor_1 5 rfl 3 rfl rfl ?_
              exact v_iret h pX3_weightFor_1 6 hR hret rfl ((E, yearsS n 0 (up E 4 (ix y) (nI (iA + 1))) (ix k), Kp, P, S, F)) rfl ⟨vI (by first | (simp [c1, c2, c4, c5]; done) | (exfalso; omega) | (simp only [c1, c2, c4, c5, Bool.and_self, cond_true]; rw [hhA]; simp [lstN, c1, c2, c4, c5]; done)), rfl, rfl, ⟨rfl, rfl⟩, rfl, (fR_of (by first | (simp [c1, c2, c4, c5]; done) | (exfalso; omega) | (simp only [c1, c2, c4, c5, Bool.and_self, cond_true]; rw [hhA]; simp [lstN, c1, c2, c4, c5]; done)))⟩
      exact LA 99 T (by omega) rfl
    · skip
      refine v_aload_n h pX3_weightFor_0 8 rfl 0 rfl rfl (v_iconst h pX3_weightFor_0 9 rfl ki_0 ?_)
      refine v_callV h pX3_weightFor_0 10 mX3_55 (As := [.int 0]) (st := []) (kX3_finding _ _ cI cS a E T Kp P F S 0 (by decide)) v0B v0C (vEmb_rf _ _) 0 rfl rfl rfl rfl rfl rfl rfl (vDet_k ?_)
      show V K (cW cI cS a (E, T, Kp, P, S, fndC F 0)) 22 [(0, .ref (a 0)), (1, .int y), (2, .int k)] [.int ((-1000001) - (nI 0))]
      refine v_top (w := .int (-1000001)) (by decide) ?_
      exact v_iret h pX3_weightFor_0 11 hR hret rfl ((E, T, Kp, P, S, fndC F 0)) rfl ⟨vI (by first | (simp [c1, c2]; done) | (exfalso; omega) | (simp only [c1, c2, Bool.and_self, cond_true]; rw [hhA]; simp [lstN, c1, c2]; done)), rfl, rfl, ⟨rfl, rfl⟩, rfl, (fR_of (by first | (simp [c1, c2]; done) | (exfalso; omega) | (simp only [c1, c2, Bool.and_self, cond_true]; rw [hhA]; simp [lstN, c1, c2]; done)))⟩
set_option maxHeartbeats 300000 in
set_option maxRecDepth 100000 in
theorem kX3_comesFor (l : Launch) (D : va_G) (cI cS : ClassId) (a : Nat → Nat) (E T Kp P F : Nat → Nat → Int32) (S : Nat → Nat → Nat → Int32) (n : Nat) (hW : Wf E n) (hZ : E 9 4 = 0) (y k : Int32) : vMet l D (vT cI cS) yX3_comesFor cX3_comesFor 4 (some .int) 5 104 (cW cI cS a) v0 [.ref (a 0), .int y, .int k] (E, T, Kp, P, S, F) (cPost (some (.int (cond (oyB y n && inB k 0 40) (if fstN (fun v => hiddenS (yearsS n 0 (up E 9 1 (nI v)) (ix k)) (ix y)) 100 < 100 then nI (fstN (fun v => hiddenS (yearsS n 0 (up E 9 1 (nI v)) (ix k)) (ix y)) 100) else (-1000004)) ((-1000001))))) (E) (Kp) (P) (S) (cond (oyB y n && inB k 0 40) (if fstN (fun v => hiddenS (yearsS n 0 (up E 9 1 (nI v)) (ix k)) (ix y)) 100 < 100 then F else fndC F 3) (fndC F 0))) := by
  refine vMet_of (by decide) rfl ?_
  intro K hl hD hnL hret h hR hEx
  subst hl hD
  show V K (cW cI cS a (E, T, Kp, P, S, F)) 0 [(0, .ref (a 0)), (1, .int y), (2, .int k)] []
  have hn8 := hW.1
  refine v_aload_n h pX3_comesFor_0 0 rfl 0 rfl rfl (v_iload_n h pX3_comesFor_0 1 rfl 1 rfl rfl ?_)
  refine v_callV h pX3_comesFor_0 2 mX3_83 (As := [.int y]) (st := []) (kX3_isOyster _ _ cI cS a E T Kp P F S n hW y) v0B v0C (vEmb_rf _ _) 0 rfl rfl rfl rfl rfl rfl rfl (vDet_k ?_)
  show V K (cW cI cS a (E, T, Kp, P, S, F)) 5 [(0, .ref (a 0)), (1, .int y), (2, .int k)] [.int (bI (oyB y n))]
  refine v_bif_eq (tgt := 17) h pX3_comesFor_0 3 rfl rfl (fun c1 => ?_) (fun c1 => ?_)
  · skip
    refine v_aload_n h pX3_comesFor_0 8 rfl 0 rfl rfl (v_iconst h pX3_comesFor_0 9 rfl ki_0 ?_)
    refine v_callV h pX3_comesFor_0 10 mX3_55 (As := [.int 0]) (st := []) (kX3_finding _ _ cI cS a E T Kp P F S 0 (by decide)) v0B v0C (vEmb_rf _ _) 0 rfl rfl rfl rfl rfl rfl rfl (vDet_k ?_)
    show V K (cW cI cS a (E, T, Kp, P, S, fndC F 0)) 22 [(0, .ref (a 0)), (1, .int y), (2, .int k)] [.int ((-1000001) - (nI 0))]
    refine v_top (w := .int (-1000001)) (by decide) ?_
    exact v_iret h pX3_comesFor_0 11 hR hret rfl ((E, T, Kp, P, S, fndC F 0)) rfl ⟨vI (by first | (simp [c1]; done) | (have e1 : fstN (fun v => hiddenS (yearsS n 0 (up E 9 1 (nI v)) (ix k)) (ix y)) 100 = iA := fstN_eq hhA (by assumption) (by omega); simp only [c1, Bool.and_self, cond_true]; rw [e1]; try (rw [if_pos (by omega)]); done) | (have e1 : fstN (fun v => hiddenS (yearsS n 0 (up E 9 1 (nI v)) (ix k)) (ix y)) 100 = 100 := fstN_no (fun j hj => hhA j (by omega)); simp only [c1, Bool.and_self, cond_true]; rw [e1]; simp; done)), rfl, rfl, ⟨rfl, rfl⟩, rfl, (fR_of (by first | (simp [c1]; done) | (have e1 : fstN (fun v => hiddenS (yearsS n 0 (up E 9 1 (nI v)) (ix k)) (ix y)) 100 = iA := fstN_eq hhA (by assumption) (by omega); simp only [c1, Bool.and_self, cond_true]; rw [e1]; try (rw [if_pos (by omega)]); done) | (have e1 : fstN (fun v => hiddenS (yearsS n 0 (up E 9 1 (nI v)) (ix k)) (ix y)) 100 = 100 := fstN_no (fun j hj => hhA j (by omega)); simp only [c1, Bool.and_self, cond_true]; rw [e1]; simp; done)))⟩
  · skip
    obtain ⟨e_y, l_y⟩ := oyB_t hn8 c1
    refine v_iload_n h pX3_comesFor_0 4 rfl 2 rfl rfl (v_bipush h pX3_comesFor_0 5 rfl kb_40 ?_)
    refine v_callS h pX3_comesFor_0 6 mX3_51 (As := [.int k, .int 40]) (st := []) (kX3_isWithin _ _ cI cS k 40) v0B v0C (vEmb_u _) rfl rfl rfl rfl rfl (vDet_k ?_)
    show V K (cW cI cS a (E, T, Kp, P, S, F)) 14 [(0, .ref (a 0)), (1, .int y), (2, .int k)] [.int (bI (inB k 0 40))]
    refine v_bif_ne (tgt := 23) h pX3_comesFor_0 7 rfl rfl (fun c2 => ?_) (fun c2 => ?_)
    · skip
      obtain ⟨e_k, l_k⟩ := inB_t 40 rfl (by decide) c2
      refine v_iconst h pX3_comesFor_0 12 rfl ki_0 (v_istore_n h pX3_comesFor_0 13 (lv' := [(3, .int 0), (0, .ref (a 0)), (1, .int y), (2, .int k)]) rfl rfl hnL rfl rfl ?_)
      refine v_lv [1, 2, 3, 0] (lv' := [(0, .ref (a 0)), (1, .int y), (2, .int k), (3, .int 0)]) rfl ?_
      have LA : ∀ (m iA : Nat) (TA : Nat → Nat → Int32), iA ≤ 100 → (∀ j, j < iA → (fun v => hiddenS (yearsS n 0 (up E 9 1 (nI v)) (ix k)) (ix y)) j = false) → 100 + 1 ≤ iA + m → V K (cW cI cS a (E, TA, Kp, P, S, F)) 25 [(0, .ref (a 0)), (1, .int y), (2, .int k), (3, .int (nI iA))] [] := by
        intro m
        induction m with
        | zero => exact fun iA TA h1 hh h2 => absurd h2 (by omega)
        | succ m ihA =>
          intro iA TA hleA hhA hltA
          refine v_iload_n h pX3_comesFor_0 14 rfl 3 rfl rfl (v_bipush h pX3_comesFor_0 15 rfl kb_99 ?_)
          refine v_ncmp_gt (a := iA) (b := 99) (tgt := 77) h pX3_comesFor_0 16 rfl rfl (by omega) (by omega) (fun c4 => ?_) (fun c4 => ?_)
          · skip
            refine v_aload_n h pX3_comesFor_1 7 rfl 0 rfl rfl (v_iconst h pX3_comesFor_1 8 rfl ki_3 ?_)
            refine v_callV h pX3_comesFor_1 9 mX3_55 (As := [.int 3]) (st := []) (kX3_finding _ _ cI cS a E TA Kp P F S 3 (by decide)) v0B v0C (vEmb_rf _ _) 0 rfl rfl rfl rfl rfl rfl rfl (vDet_k ?_)
            show V K (cW cI cS a (E, TA, Kp, P, S, fndC F 3)) 82 [(0, .ref (a 0)), (1, .int y), (2, .int k), (3, .int (nI iA))] [.int ((-1000001) - (nI 3))]
            refine v_top (w := .int (-1000004)) (by decide) ?_
            exact v_iret h pX3_comesFor_1 10 hR hret rfl ((E, TA, Kp, P, S, fndC F 3)) rfl ⟨vI (by first | (simp [c1, c2, c4]; done) | (have e1 : fstN (fun v => hiddenS (yearsS n 0 (up E 9 1 (nI v)) (ix k)) (ix y)) 100 = iA := fstN_eq hhA (by assumption) (by omega); simp only [c1, c2, c4, Bool.and_self, cond_true]; rw [e1]; try (rw [if_pos (by omega)]); done) | (have e1 : fstN (fun v => hiddenS (yearsS n 0 (up E 9 1 (nI v)) (ix k)) (ix y)) 100 = 100 := fstN_no (fun j hj => hhA j (by omega)); simp only [c1, c2, c4, Bool.and_self, cond_true]; rw [e1]; simp; done)), rfl, rfl, ⟨rfl, rfl⟩, rfl, (fR_of (by first | (simp [c1, c2, c4]; done) | (have e1 : fstN (fun v => hiddenS (yearsS n 0 (up E 9 1 (nI v)) (ix k)) (ix y)) 100 = iA := fstN_eq hhA (by assumption) (by omega); simp only [c1, c2, c4, Bool.and_self, cond_true]; rw [e1]; try (rw [if_pos (by omega)]); done) | (have e1 : fstN (fun v => hiddenS (yearsS n 0 (up E 9 1 (nI v)) (ix k)) (ix y)) 100 = 100 := fstN_no (fun j hj => hhA j (by omega)); simp only [c1, c2, c4, Bool.and_self, cond_true]; rw [e1]; simp; done)))⟩
          · skip
            refine v_aload_n h pX3_comesFor_0 17 rfl 0 rfl rfl (v_get h pX3_comesFor_0 18 fX3_16 0 rfl rfl rfl (v_aload_n h pX3_comesFor_0 19 rfl 0 rfl rfl (v_get h pX3_comesFor_0 20 fX3_10 0 rfl rfl rfl ?_)))
            refine v_callV h pX3_comesFor_0 21 mX3_139 (As := [.ref (a 1)]) (st := []) (kX0_copyFrom _ _ cI cS (sh a 11) (sh a 1) E TA) v0B v0C emb_TE 11 rfl rfl rfl rfl rfl rfl rfl (vDet_k ?_)
            show V K (cW cI cS a (E, E, Kp, P, S, F)) 42 [(0, .ref (a 0)), (1, .int y), (2, .int k), (3, .int (nI iA))] []
            refine v_aload_n h pX3_comesFor_0 22 rfl 0 rfl rfl (v_get h pX3_comesFor_0 23 fX3_16 0 rfl rfl rfl (v_iload_n h pX3_comesFor_0 24 rfl 3 rfl rfl (v_puti h pX3_comesFor_0 25 gX3_68 11 (ws' := cW cI cS a (E, up E 9 1 (nI iA), Kp, P, S, F)) rfl rfl rfl cW_Tp1 (v_aload_n h pX3_comesFor_0 26 rfl 0 rfl rfl (v_get h pX3_comesFor_0 27 fX3_16 0 rfl rfl rfl ?_)))))
            refine v_iload_n h pX3_comesFor_0 28 rfl 2 rfl rfl (v_top (w := .int (nI (ix k))) (congrArg Value.int e_k) ?_)
            refine v_callV h pX3_comesFor_0 29 mX3_113 (As := [.int (nI (ix k))]) (st := []) (kX0_passYears0 _ _ cI cS (sh a 11) (up E 9 1 (nI iA)) n (Wf_up91 hW ⟨_, by omega, rfl⟩) (ix k) (by omega) ((congrFun (up_s _ _ _ _) 4).trans ((upd_n _ _ (by decide)).trans hZ))) v0B v0C emb_T 11 rfl rfl rfl rfl rfl rfl rfl (vDet_k ?_)
            show V K (cW cI cS a (E, yearsS n 0 (up E 9 1 (nI iA)) (ix k), Kp, P, S, F)) 58 [(0, .ref (a 0)), (1, .int y), (2, .int k), (3, .int (nI iA))] []
            refine v_aload_n h pX3_comesFor_0 30 rfl 0 rfl rfl (v_get h pX3_comesFor_0 31 fX3_16 0 rfl rfl rfl (v_iload_n h pX3_comesFor_1 0 rfl 1 rfl rfl (v_top (w := .int (nI (ix y))) (congrArg Value.int e_y) ?_)))
            refine v_callV h pX3_comesFor_1 1 mX3_143 (As := [.int (nI (ix y))]) (st := []) (kX0_isHidden _ _ cI cS (sh a 11) (yearsS n 0 (up E 9 1 (nI iA)) (ix k)) (ix y) (by omega) n (Wf_years (Wf_up91 hW ⟨_, by omega, rfl⟩) 0 _)) v0B v0C emb_T 11 rfl rfl rfl rfl rfl rfl rfl (vDet_k ?_)
            show V K (cW cI cS a (E, yearsS n 0 (up E 9 1 (nI iA)) (ix k), Kp, P, S, F)) 66 [(0, .ref (a 0)), (1, .int y), (2, .int k), (3, .int (nI iA))] [.int (bI (hiddenS (yearsS n 0 (up E 9 1 (nI iA)) (ix k)) (ix y)))]
            refine v_bif_eq (tgt := 71) h pX3_comesFor_1 2 rfl rfl (fun c5 => ?_) (fun c5 => ?_)
            · skip
              refine v_iinc h pX3_comesFor_1 5 (v := nI (iA + 1)) (lv' := [(3, .int (nI (iA + 1))), (0, .ref (a 0)), (1, .int y), (2, .int k)]) rfl 3 rfl hnL rfl rfl (nI_1 iA) (v_goto (tgt := 25) h pX3_comesFor_1 6 rfl rfl (v_lv [1, 2, 3, 0] (lv' := [(0, .ref (a 0)), (1, .int y), (2, .int k), (3, .int (nI (iA + 1)))]) rfl ?_))
              exact ihA (iA + 1) (yearsS n 0 (up E 9 1 (nI iA)) (ix k)) (by omega) (fun j hj => (Nat.lt_succ_iff_lt_or_eq.mp hj).elim (hhA j) (fun e => by rw [e]; exact c5)) (by omega)
            · skip
              refine v_iload_n h pX3_comesFor_1 3 rfl 3 rfl rfl ?_
              exact v_iret h pX3_comesFor_1 4 hR hret rfl ((E, yearsS n 0 (up E 9 1 (nI iA)) (ix k), Kp, P, S, F)) rfl ⟨vI (by first | (simp [c1, c2, c4, c5]; done) | (have e1 : fstN (fun v => hiddenS (yearsS n 0 (up E 9 1 (nI v)) (ix k)) (ix y)) 100 = iA := fstN_eq hhA (by assumption) (by omega); simp only [c1, c2, c4, c5, Bool.and_self, cond_true]; rw [e1]; try (rw [if_pos (by omega)]); done) | (have e1 : fstN (fun v => hiddenS (yearsS n 0 (up E 9 1 (nI v)) (ix k)) (ix y)) 100 = 100 := fstN_no (fun j hj => hhA j (by omega)); simp only [c1, c2, c4, c5, Bool.and_self, cond_true]; rw [e1]; simp; done)), rfl, rfl, ⟨rfl, rfl⟩, rfl, (fR_of (by first | (simp [c1, c2, c4, c5]; done) | (have e1 : fstN (fun v => hiddenS (yearsS n 0 (up E 9 1 (nI v)) (ix k)) (ix y)) 100 = iA := fstN_eq hhA (by assumption) (by omega); simp only [c1, c2, c4, c5, Bool.and_self, cond_true]; rw [e1]; try (rw [if_pos (by omega)]); done) | (have e1 : fstN (fun v => hiddenS (yearsS n 0 (up E 9 1 (nI v)) (ix k)) (ix y)) 100 = 100 := fstN_no (fun j hj => hhA j (by omega)); simp only [c1, c2, c4, c5, Bool.and_self, cond_true]; rw [e1]; simp; done)))⟩
      exact LA (100 + 1) 0 T (by omega) (fun j hj => absurd hj (by omega)) (by omega)
    · skip
      refine v_aload_n h pX3_comesFor_0 8 rfl 0 rfl rfl (v_iconst h pX3_comesFor_0 9 rfl ki_0 ?_)
      refine v_callV h pX3_comesFor_0 10 mX3_55 (As := [.int 0]) (st := []) (kX3_finding _ _ cI cS a E T Kp P F S 0 (by decide)) v0B v0C (vEmb_rf _ _) 0 rfl rfl rfl rfl rfl rfl rfl (vDet_k ?_)
      show V K (cW cI cS a (E, T, Kp, P, S, fndC F 0)) 22 [(0, .ref (a 0)), (1, .int y), (2, .int k)] [.int ((-1000001) - (nI 0))]
      refine v_top (w := .int (-1000001)) (by decide) ?_
      exact v_iret h pX3_comesFor_0 11 hR hret rfl ((E, T, Kp, P, S, fndC F 0)) rfl ⟨vI (by first | (simp [c1, c2]; done) | (have e1 : fstN (fun v => hiddenS (yearsS n 0 (up E 9 1 (nI v)) (ix k)) (ix y)) 100 = iA := fstN_eq hhA (by assumption) (by omega); simp only [c1, c2, Bool.and_self, cond_true]; rw [e1]; try (rw [if_pos (by omega)]); done) | (have e1 : fstN (fun v => hiddenS (yearsS n 0 (up E 9 1 (nI v)) (ix k)) (ix y)) 100 = 100 := fstN_no (fun j hj => hhA j (by omega)); simp only [c1, c2, Bool.and_self, cond_true]; rw [e1]; simp; done)), rfl, rfl, ⟨rfl, rfl⟩, rfl, (fR_of (by first | (simp [c1, c2]; done) | (have e1 : fstN (fun v => hiddenS (yearsS n 0 (up E 9 1 (nI v)) (ix k)) (ix y)) 100 = iA := fstN_eq hhA (by assumption) (by omega); simp only [c1, c2, Bool.and_self, cond_true]; rw [e1]; try (rw [if_pos (by omega)]); done) | (have e1 : fstN (fun v => hiddenS (yearsS n 0 (up E 9 1 (nI v)) (ix k)) (ix y)) 100 = 100 := fstN_no (fun j hj => hhA j (by omega)); simp only [c1, c2, Bool.and_self, cond_true]; rw [e1]; simp; done)))⟩
set_option maxHeartbeats 300000 in
set_option maxRecDepth 100000 in
theorem kX3_coldFor (l : Launch) (D : va_G) (cI cS : ClassId) (a : Nat → Nat) (E T Kp P F : Nat → Nat → Int32) (S : Nat → Nat → Nat → Int32) (n : Nat) (hW : Wf E n) (hZ : E 9 4 = 0) (y k : Int32) : vMet l D (vT cI cS) yX3_coldFor cX3_coldFor 4 (some .int) 5 104 (cW cI cS a) v0 [.ref (a 0), .int y, .int k] (E, T, Kp, P, S, F) (cPost (some (.int (cond (oyB y n && inB k 0 40) (if fstN (fun v => decide (yearsS n 0 (up E 1 (ix (E 3 (ix y))) (nI v)) (ix k) 7 (ix y) = E 7 (ix y))) 10 < 10 then nI (fstN (fun v => decide (yearsS n 0 (up E 1 (ix (E 3 (ix y))) (nI v)) (ix k) 7 (ix y) = E 7 (ix y))) 10) else (-1000004)) ((-1000001))))) (E) (Kp) (P) (S) (cond (oyB y n && inB k 0 40) (if fstN (fun v => decide (yearsS n 0 (up E 1 (ix (E 3 (ix y))) (nI v)) (ix k) 7 (ix y) = E 7 (ix y))) 10 < 10 then F else fndC F 3) (fndC F 0))) := by
  refine vMet_of (by decide) rfl ?_
  intro K hl hD hnL hret h hR hEx
  subst hl hD
  show V K (cW cI cS a (E, T, Kp, P, S, F)) 0 [(0, .ref (a 0)), (1, .int y), (2, .int k)] []
  have hn8 := hW.1
  refine v_aload_n h pX3_coldFor_0 0 rfl 0 rfl rfl (v_iload_n h pX3_coldFor_0 1 rfl 1 rfl rfl ?_)
  refine v_callV h pX3_coldFor_0 2 mX3_83 (As := [.int y]) (st := []) (kX3_isOyster _ _ cI cS a E T Kp P F S n hW y) v0B v0C (vEmb_rf _ _) 0 rfl rfl rfl rfl rfl rfl rfl (vDet_k ?_)
  show V K (cW cI cS a (E, T, Kp, P, S, F)) 5 [(0, .ref (a 0)), (1, .int y), (2, .int k)] [.int (bI (oyB y n))]
  refine v_bif_eq (tgt := 17) h pX3_coldFor_0 3 rfl rfl (fun c1 => ?_) (fun c1 => ?_)
  · skip
    refine v_aload_n h pX3_coldFor_0 8 rfl 0 rfl rfl (v_iconst h pX3_coldFor_0 9 rfl ki_0 ?_)
    refine v_callV h pX3_coldFor_0 10 mX3_55 (As := [.int 0]) (st := []) (kX3_finding _ _ cI cS a E T Kp P F S 0 (by decide)) v0B v0C (vEmb_rf _ _) 0 rfl rfl rfl rfl rfl rfl rfl (vDet_k ?_)
    show V K (cW cI cS a (E, T, Kp, P, S, fndC F 0)) 22 [(0, .ref (a 0)), (1, .int y), (2, .int k)] [.int ((-1000001) - (nI 0))]
    refine v_top (w := .int (-1000001)) (by decide) ?_
    exact v_iret h pX3_coldFor_0 11 hR hret rfl ((E, T, Kp, P, S, fndC F 0)) rfl ⟨vI (by first | (simp [c1]; done) | (have e1 : fstN (fun v => decide (yearsS n 0 (up E 1 (ix (E 3 (ix y))) (nI v)) (ix k) 7 (ix y) = E 7 (ix y))) 10 = iA := fstN_eq hhA (by assumption) (by omega); simp only [c1, Bool.and_self, cond_true]; rw [e1]; try (rw [if_pos (by omega)]); done) | (have e1 : fstN (fun v => decide (yearsS n 0 (up E 1 (ix (E 3 (ix y))) (nI v)) (ix k) 7 (ix y) = E 7 (ix y))) 10 = 10 := fstN_no (fun j hj => hhA j (by omega)); simp only [c1, Bool.and_self, cond_true]; rw [e1]; simp; done)), rfl, rfl, ⟨rfl, rfl⟩, rfl, (fR_of (by first | (simp [c1]; done) | (have e1 : fstN (fun v => decide (yearsS n 0 (up E 1 (ix (E 3 (ix y))) (nI v)) (ix k) 7 (ix y) = E 7 (ix y))) 10 = iA := fstN_eq hhA (by assumption) (by omega); simp only [c1, Bool.and_self, cond_true]; rw [e1]; try (rw [if_pos (by omega)]); done) | (have e1 : fstN (fun v => decide (yearsS n 0 (up E 1 (ix (E 3 (ix y))) (nI v)) (ix k) 7 (ix y) = E 7 (ix y))) 10 = 10 := fstN_no (fun j hj => hhA j (by omega)); simp only [c1, Bool.and_self, cond_true]; rw [e1]; simp; done)))⟩
  · skip
    obtain ⟨e_y, l_y⟩ := oyB_t hn8 c1
    refine v_iload_n h pX3_coldFor_0 4 rfl 2 rfl rfl (v_bipush h pX3_coldFor_0 5 rfl kb_40 ?_)
    refine v_callS h pX3_coldFor_0 6 mX3_51 (As := [.int k, .int 40]) (st := []) (kX3_isWithin _ _ cI cS k 40) v0B v0C (vEmb_u _) rfl rfl rfl rfl rfl (vDet_k ?_)
    show V K (cW cI cS a (E, T, Kp, P, S, F)) 14 [(0, .ref (a 0)), (1, .int y), (2, .int k)] [.int (bI (inB k 0 40))]
    refine v_bif_ne (tgt := 23) h pX3_coldFor_0 7 rfl rfl (fun c2 => ?_) (fun c2 => ?_)
    · skip
      obtain ⟨e_k, l_k⟩ := inB_t 40 rfl (by decide) c2
      refine v_iconst h pX3_coldFor_0 12 rfl ki_0 (v_istore_n h pX3_coldFor_0 13 (lv' := [(3, .int 0), (0, .ref (a 0)), (1, .int y), (2, .int k)]) rfl rfl hnL rfl rfl ?_)
      refine v_lv [1, 2, 3, 0] (lv' := [(0, .ref (a 0)), (1, .int y), (2, .int k), (3, .int 0)]) rfl ?_
      have LA : ∀ (m iA : Nat) (TA : Nat → Nat → Int32), iA ≤ 10 → (∀ j, j < iA → (fun v => decide (yearsS n 0 (up E 1 (ix (E 3 (ix y))) (nI v)) (ix k) 7 (ix y) = E 7 (ix y))) j = false) → 10 + 1 ≤ iA + m → V K (cW cI cS a (E, TA, Kp, P, S, F)) 25 [(0, .ref (a 0)), (1, .int y), (2, .int k), (3, .int (nI iA))] [] := by
        intro m
        induction m with
        | zero => exact fun iA TA h1 hh h2 => absurd h2 (by omega)
        | succ m ihA =>
          intro iA TA hleA hhA hltA
          refine v_iload_n h pX3_coldFor_0 14 rfl 3 rfl rfl (v_bipush h pX3_coldFor_0 15 rfl kb_9 ?_)
          refine v_ncmp_gt (a := iA) (b := 9) (tgt := 97) h pX3_coldFor_0 16 rfl rfl (by omega) (by omega) (fun c4 => ?_) (fun c4 => ?_)
          · skip
            refine v_aload_n h pX3_coldFor_1 19 rfl 0 rfl rfl (v_iconst h pX3_coldFor_1 20 rfl ki_3 ?_)
            refine v_callV h pX3_coldFor_1 21 mX3_55 (As := [.int 3]) (st := []) (kX3_finding _ _ cI cS a E TA Kp P F S 3 (by decide)) v0B v0C (vEmb_rf _ _) 0 rfl rfl rfl rfl rfl rfl rfl (vDet_k ?_)
            show V K (cW cI cS a (E, TA, Kp, P, S, fndC F 3)) 102 [(0, .ref (a 0)), (1, .int y), (2, .int k), (3, .int (nI iA))] [.int ((-1000001) - (nI 3))]
            refine v_top (w := .int (-1000004)) (by decide) ?_
            exact v_iret h pX3_coldFor_1 22 hR hret rfl ((E, TA, Kp, P, S, fndC F 3)) rfl ⟨vI (by first | (simp [c1, c2, c4]; done) | (have e1 : fstN (fun v => decide (yearsS n 0 (up E 1 (ix (E 3 (ix y))) (nI v)) (ix k) 7 (ix y) = E 7 (ix y))) 10 = iA := fstN_eq hhA (by assumption) (by omega); simp only [c1, c2, c4, Bool.and_self, cond_true]; rw [e1]; try (rw [if_pos (by omega)]); done) | (have e1 : fstN (fun v => decide (yearsS n 0 (up E 1 (ix (E 3 (ix y))) (nI v)) (ix k) 7 (ix y) = E 7 (ix y))) 10 = 10 := fstN_no (fun j hj => hhA j (by omega)); simp only [c1, c2, c4, Bool.and_self, cond_true]; rw [e1]; simp; done)), rfl, rfl, ⟨rfl, rfl⟩, rfl, (fR_of (by first | (simp [c1, c2, c4]; done) | (have e1 : fstN (fun v => decide (yearsS n 0 (up E 1 (ix (E 3 (ix y))) (nI v)) (ix k) 7 (ix y) = E 7 (ix y))) 10 = iA := fstN_eq hhA (by assumption) (by omega); simp only [c1, c2, c4, Bool.and_self, cond_true]; rw [e1]; try (rw [if_pos (by omega)]); done) | (have e1 : fstN (fun v => decide (yearsS n 0 (up E 1 (ix (E 3 (ix y))) (nI v)) (ix k) 7 (ix y) = E 7 (ix y))) 10 = 10 := fstN_no (fun j hj => hhA j (by omega)); simp only [c1, c2, c4, Bool.and_self, cond_true]; rw [e1]; simp; done)))⟩
          · skip
            have hb := hW.homeL (i := ix y) (by omega)
            refine v_aload_n h pX3_coldFor_0 17 rfl 0 rfl rfl (v_get h pX3_coldFor_0 18 fX3_16 0 rfl rfl rfl (v_aload_n h pX3_coldFor_0 19 rfl 0 rfl rfl (v_get h pX3_coldFor_0 20 fX3_10 0 rfl rfl rfl ?_)))
            refine v_callV h pX3_coldFor_0 21 mX3_139 (As := [.ref (a 1)]) (st := []) (kX0_copyFrom _ _ cI cS (sh a 11) (sh a 1) E TA) v0B v0C emb_TE 11 rfl rfl rfl rfl rfl rfl rfl (vDet_k ?_)
            show V K (cW cI cS a (E, E, Kp, P, S, F)) 42 [(0, .ref (a 0)), (1, .int y), (2, .int k), (3, .int (nI iA))] []
            refine v_aload_n h pX3_coldFor_0 22 rfl 0 rfl rfl (v_get h pX3_coldFor_0 23 fX3_16 0 rfl rfl rfl (v_get h pX3_coldFor_0 24 fX3_62 11 rfl rfl rfl (v_aload_n h pX3_coldFor_0 25 rfl 0 rfl rfl (v_get h pX3_coldFor_0 26 fX3_16 0 rfl rfl rfl (v_get h pX3_coldFor_0 27 fX3_152 11 rfl rfl rfl ?_)))))
            refine v_iload_n h pX3_coldFor_0 28 rfl 1 rfl rfl (v_top (w := .int (nI (ix y))) (congrArg Value.int e_y) (v_iald h pX3_coldFor_0 29 (ix y) 15 0 rfl rfl rfl rfl rfl (by omega) ?_))
            refine v_top (w := .int (nI (ix (E 3 (ix y))))) (congrArg Value.int (hW.home (by omega))) (v_iload_n h pX3_coldFor_0 30 rfl 3 rfl rfl (v_iast h pX3_coldFor_0 31 (ix (E 3 (ix y))) 13 0 (ws' := cW cI cS a (E, up E 1 (ix (E 3 (ix y))) (nI iA), Kp, P, S, F)) rfl rfl rfl rfl rfl (by omega) cW_Ts1 (v_aload_n h pX3_coldFor_1 0 rfl 0 rfl rfl (v_get h pX3_coldFor_1 1 fX3_16 0 rfl rfl rfl (v_iload_n h pX3_coldFor_1 2 rfl 2 rfl rfl ?_)))))
            refine v_top (w := .int (nI (ix k))) (congrArg Value.int e_k) ?_
            refine v_callV h pX3_coldFor_1 3 mX3_113 (As := [.int (nI (ix k))]) (st := []) (kX0_passYears0 _ _ cI cS (sh a 11) (up E 1 (ix (E 3 (ix y))) (nI iA)) n (Wf_up1 hW ⟨_, by omega, rfl⟩) (ix k) (by omega) (show (up E 1 (ix (E 3 (ix y))) (nI iA)) 9 4 = 0 from hZ)) v0B v0C emb_T 11 rfl rfl rfl rfl rfl rfl rfl (vDet_k ?_)
            show V K (cW cI cS a (E, yearsS n 0 (up E 1 (ix (E 3 (ix y))) (nI iA)) (ix k), Kp, P, S, F)) 68 [(0, .ref (a 0)), (1, .int y), (2, .int k), (3, .int (nI iA))] []
            refine v_aload_n h pX3_coldFor_1 4 rfl 0 rfl rfl (v_get h pX3_coldFor_1 5 fX3_16 0 rfl rfl rfl (v_get h pX3_coldFor_1 6 fX3_136 11 rfl rfl rfl (v_iload_n h pX3_coldFor_1 7 rfl 1 rfl rfl (v_top (w := .int (nI (ix y))) (congrArg Value.int e_y) (v_iald h pX3_coldFor_1 8 (ix y) 19 0 rfl rfl rfl rfl rfl (by omega) ?_)))))
            refine v_aload_n h pX3_coldFor_1 9 rfl 0 rfl rfl (v_get h pX3_coldFor_1 10 fX3_10 0 rfl rfl rfl (v_get h pX3_coldFor_1 11 fX3_136 1 rfl rfl rfl (v_iload_n h pX3_coldFor_1 12 rfl 1 rfl rfl (v_top (w := .int (nI (ix y))) (congrArg Value.int e_y) (v_iald h pX3_coldFor_1 13 (ix y) 9 0 rfl rfl rfl rfl rfl (by omega) ?_)))))
            refine v_icmp_ne (tgt := 91) h pX3_coldFor_1 14 rfl rfl (fun c5 => ?_) (fun c5 => ?_)
            · skip
              replace c5 : decide (yearsS n 0 (up E 1 (ix (E 3 (ix y))) (nI iA)) (ix k) 7 (ix y) = E 7 (ix y)) = false := decide_eq_false c5
              refine v_iinc h pX3_coldFor_1 17 (v := nI (iA + 1)) (lv' := [(3, .int (nI (iA + 1))), (0, .ref (a 0)), (1, .int y), (2, .int k)]) rfl 3 rfl hnL rfl rfl (nI_1 iA) (v_goto (tgt := 25) h pX3_coldFor_1 18 rfl rfl (v_lv [1, 2, 3, 0] (lv' := [(0, .ref (a 0)), (1, .int y), (2, .int k), (3, .int (nI (iA + 1)))]) rfl ?_))
              exact ihA (iA + 1) (yearsS n 0 (up E 1 (ix (E 3 (ix y))) (nI iA)) (ix k)) (by omega) (fun j hj => (Nat.lt_succ_iff_lt_or_eq.mp hj).elim (hhA j) (fun e => by rw [e]; exact c5)) (by omega)
            · skip
              replace c5 : decide (yearsS n 0 (up E 1 (ix (E 3 (ix y))) (nI iA)) (ix k) 7 (ix y) = E 7 (ix y)) = true := decide_eq_true c5
              refine v_iload_n h pX3_coldFor_1 15 rfl 3 rfl rfl ?_
              exact v_iret h pX3_coldFor_1 16 hR hret rfl ((E, yearsS n 0 (up E 1 (ix (E 3 (ix y))) (nI iA)) (ix k), Kp, P, S, F)) rfl ⟨vI (by first | (simp [c1, c2, c4, c5]; done) | (have e1 : fstN (fun v => decide (yearsS n 0 (up E 1 (ix (E 3 (ix y))) (nI v)) (ix k) 7 (ix y) = E 7 (ix y))) 10 = iA := fstN_eq hhA (by assumption) (by omega); simp only [c1, c2, c4, c5, Bool.and_self, cond_true]; rw [e1]; try (rw [if_pos (by omega)]); done) | (have e1 : fstN (fun v => decide (yearsS n 0 (up E 1 (ix (E 3 (ix y))) (nI v)) (ix k) 7 (ix y) = E 7 (ix y))) 10 = 10 := fstN_no (fun j hj => hhA j (by omega)); simp only [c1, c2, c4, c5, Bool.and_self, cond_true]; rw [e1]; simp; done)), rfl, rfl, ⟨rfl, rfl⟩, rfl, (fR_of (by first | (simp [c1, c2, c4, c5]; done) | (have e1 : fstN (fun v => decide (yearsS n 0 (up E 1 (ix (E 3 (ix y))) (nI v)) (ix k) 7 (ix y) = E 7 (ix y))) 10 = iA := fstN_eq hhA (by assumption) (by omega); simp only [c1, c2, c4, c5, Bool.and_self, cond_true]; rw [e1]; try (rw [if_pos (by omega)]); done) | (have e1 : fstN (fun v => decide (yearsS n 0 (up E 1 (ix (E 3 (ix y))) (nI v)) (ix k) 7 (ix y) = E 7 (ix y))) 10 = 10 := fstN_no (fun j hj => hhA j (by omega)); simp only [c1, c2, c4, c5, Bool.and_self, cond_true]; rw [e1]; simp; done)))⟩
      exact LA (10 + 1) 0 T (by omega) (fun j hj => absurd hj (by omega)) (by omega)
    · skip
      refine v_aload_n h pX3_coldFor_0 8 rfl 0 rfl rfl (v_iconst h pX3_coldFor_0 9 rfl ki_0 ?_)
      refine v_callV h pX3_coldFor_0 10 mX3_55 (As := [.int 0]) (st := []) (kX3_finding _ _ cI cS a E T Kp P F S 0 (by decide)) v0B v0C (vEmb_rf _ _) 0 rfl rfl rfl rfl rfl rfl rfl (vDet_k ?_)
      show V K (cW cI cS a (E, T, Kp, P, S, fndC F 0)) 22 [(0, .ref (a 0)), (1, .int y), (2, .int k)] [.int ((-1000001) - (nI 0))]
      refine v_top (w := .int (-1000001)) (by decide) ?_
      exact v_iret h pX3_coldFor_0 11 hR hret rfl ((E, T, Kp, P, S, fndC F 0)) rfl ⟨vI (by first | (simp [c1, c2]; done) | (have e1 : fstN (fun v => decide (yearsS n 0 (up E 1 (ix (E 3 (ix y))) (nI v)) (ix k) 7 (ix y) = E 7 (ix y))) 10 = iA := fstN_eq hhA (by assumption) (by omega); simp only [c1, c2, Bool.and_self, cond_true]; rw [e1]; try (rw [if_pos (by omega)]); done) | (have e1 : fstN (fun v => decide (yearsS n 0 (up E 1 (ix (E 3 (ix y))) (nI v)) (ix k) 7 (ix y) = E 7 (ix y))) 10 = 10 := fstN_no (fun j hj => hhA j (by omega)); simp only [c1, c2, Bool.and_self, cond_true]; rw [e1]; simp; done)), rfl, rfl, ⟨rfl, rfl⟩, rfl, (fR_of (by first | (simp [c1, c2]; done) | (have e1 : fstN (fun v => decide (yearsS n 0 (up E 1 (ix (E 3 (ix y))) (nI v)) (ix k) 7 (ix y) = E 7 (ix y))) 10 = iA := fstN_eq hhA (by assumption) (by omega); simp only [c1, c2, Bool.and_self, cond_true]; rw [e1]; try (rw [if_pos (by omega)]); done) | (have e1 : fstN (fun v => decide (yearsS n 0 (up E 1 (ix (E 3 (ix y))) (nI v)) (ix k) 7 (ix y) = E 7 (ix y))) 10 = 10 := fstN_no (fun j hj => hhA j (by omega)); simp only [c1, c2, Bool.and_self, cond_true]; rw [e1]; simp; done)))⟩
