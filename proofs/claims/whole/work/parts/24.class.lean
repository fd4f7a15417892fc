set_option maxHeartbeats 300000 in
set_option maxRecDepth 100000 in
theorem kX3_isWithin (l : Launch) (D : va_G) (cI cS : ClassId)   (x hi : Int32) : vDet l D (vT cI cS) yX3_isWithin cX3_isWithin 2 (some .boolean) 0 0 (fun _ : Unit => ([] : va_W)) [.int x, .int hi] () (some (.int (bI (inB x 0 hi)))) (()) := by
  refine vMet_of (by decide) rfl ?_
  intro K hl hD hnL hret h hR hEx
  subst hl hD
  show V K (([] : va_W)) 0 [(0, .int x), (1, .int hi)] []
  refine v_iload_n h pX3_isWithin_0 0 rfl 0 rfl rfl ?_
  refine v_if_lt (tgt := 13) h pX3_isWithin_0 1 rfl rfl (fun c1 => ?_) (fun c1 => ?_)
  · skip
    refine v_iconst h pX3_isWithin_0 7 rfl ki_0 ?_
    exact v_zret h pX3_isWithin_0 8 (Or.inl rfl) hR hret rfl (()) rfl ⟨vI (by simp [inB, bI, c1, -Int32.not_lt]), rfl⟩
  · skip
    refine v_iload_n h pX3_isWithin_0 2 rfl 0 rfl rfl (v_iload_n h pX3_isWithin_0 3 rfl 1 rfl rfl ?_)
    refine v_icmp_gt (tgt := 13) h pX3_isWithin_0 4 rfl rfl (fun c2 => ?_) (fun c2 => ?_)
    · skip
      refine v_iconst h pX3_isWithin_0 7 rfl ki_0 ?_
      exact v_zret h pX3_isWithin_0 8 (Or.inl rfl) hR hret rfl (()) rfl ⟨vI (by simp [inB, bI, c1, c2, -Int32.not_lt]), rfl⟩
    · skip
      refine v_iconst h pX3_isWithin_0 5 rfl ki_1 (v_goto (tgt := 14) h pX3_isWithin_0 6 rfl rfl ?_)
      exact v_zret h pX3_isWithin_0 8 (Or.inr rfl) hR hret rfl (()) rfl ⟨vI (by simp [inB, bI, c1, c2, -Int32.not_lt]), rfl⟩
set_option maxHeartbeats 300000 in
set_option maxRecDepth 100000 in
theorem kX3_isBed (l : Launch) (D : va_G) (cI cS : ClassId)   (x : Int32) : vDet l D (vT cI cS) yX3_isBed cX3_isBed 1 (some .boolean) 1 21 (fun _ : Unit => ([] : va_W)) [.int x] () (some (.int (bI (inB x 0 5)))) (()) := by
  refine vMet_of (by decide) rfl ?_
  intro K hl hD hnL hret h hR hEx
  subst hl hD
  show V K (([] : va_W)) 0 [(0, .int x)] []
  refine v_iload_n h pX3_isBed_0 0 rfl 0 rfl rfl (v_iconst h pX3_isBed_0 1 rfl ki_5 ?_)
  refine v_callS h pX3_isBed_0 2 mX3_51 (As := [.int x, .int 5]) (st := []) (kX3_isWithin _ _ cI cS x 5) v0B v0C (vEmb_u _) rfl rfl rfl rfl rfl (vDet_k ?_)
  show V K (([] : va_W)) 5 [(0, .int x)] [.int (bI (inB x 0 5))]
  exact v_zret h pX3_isBed_0 3 (bI_01 _) hR hret rfl (()) rfl ⟨vI rfl, rfl⟩
set_option maxHeartbeats 300000 in
set_option maxRecDepth 100000 in
theorem kX3_isKind (l : Launch) (D : va_G) (cI cS : ClassId)   (x : Int32) : vDet l D (vT cI cS) yX3_isKind cX3_isKind 1 (some .boolean) 1 21 (fun _ : Unit => ([] : va_W)) [.int x] () (some (.int (bI (inB x 0 6)))) (()) := by
  refine vMet_of (by decide) rfl ?_
  intro K hl hD hnL hret h hR hEx
  subst hl hD
  show V K (([] : va_W)) 0 [(0, .int x)] []
  refine v_iload_n h pX3_isKind_0 0 rfl 0 rfl rfl (v_bipush h pX3_isKind_0 1 rfl kb_6 ?_)
  refine v_callS h pX3_isKind_0 2 mX3_51 (As := [.int x, .int 6]) (st := []) (kX3_isWithin _ _ cI cS x 6) v0B v0C (vEmb_u _) rfl rfl rfl rfl rfl (vDet_k ?_)
  show V K (([] : va_W)) 6 [(0, .int x)] [.int (bI (inB x 0 6))]
  exact v_zret h pX3_isKind_0 3 (bI_01 _) hR hret rfl (()) rfl ⟨vI rfl, rfl⟩
set_option maxHeartbeats 300000 in
set_option maxRecDepth 100000 in
theorem kX3_isSheet (l : Launch) (D : va_G) (cI cS : ClassId)   (x : Int32) : vDet l D (vT cI cS) yX3_isSheet cX3_isSheet 1 (some .boolean) 1 21 (fun _ : Unit => ([] : va_W)) [.int x] () (some (.int (bI (inB x 0 3)))) (()) := by
  refine vMet_of (by decide) rfl ?_
  intro K hl hD hnL hret h hR hEx
  subst hl hD
  show V K (([] : va_W)) 0 [(0, .int x)] []
  refine v_iload_n h pX3_isSheet_0 0 rfl 0 rfl rfl (v_iconst h pX3_isSheet_0 1 rfl ki_3 ?_)
  refine v_callS h pX3_isSheet_0 2 mX3_51 (As := [.int x, .int 3]) (st := []) (kX3_isWithin _ _ cI cS x 3) v0B v0C (vEmb_u _) rfl rfl rfl rfl rfl (vDet_k ?_)
  show V K (([] : va_W)) 5 [(0, .int x)] [.int (bI (inB x 0 3))]
  exact v_zret h pX3_isSheet_0 3 (bI_01 _) hR hret rfl (()) rfl ⟨vI rfl, rfl⟩
set_option maxHeartbeats 300000 in
set_option maxRecDepth 100000 in
theorem kX3_finding (l : Launch) (D : va_G) (cI cS : ClassId) (a : Nat → Nat) (E T Kp P F : Nat → Nat → Int32) (S : Nat → Nat → Nat → Int32) (w : Nat) (hw : w ≤ 6) : vDet l D (vT cI cS) yX3_finding cX3_finding 2 (some .int) 0 0 (cW cI cS a) [.ref (a 0), .int (nI w)] (E, T, Kp, P, S, F) (some (.int ((-1000001) - (nI w)))) ((E, T, Kp, P, S, fndC F w)) := by
  refine vMet_of (by decide) rfl ?_
  intro K hl hD hnL hret h hR hEx
  subst hl hD
  show V K (cW cI cS a (E, T, Kp, P, S, F)) 0 [(0, .ref (a 0)), (1, .int (nI w))] []
  refine v_aload_n h pX3_finding_0 0 rfl 0 rfl rfl (v_get h pX3_finding_0 1 fX3_40 0 rfl rfl rfl (v_iload_n h pX3_finding_0 2 rfl 1 rfl rfl (v_dup2 h pX3_finding_0 3 rfl rfl rfl (v_iald h pX3_finding_0 4 w 45 0 rfl rfl rfl rfl rfl (by omega) (v_iconst h pX3_finding_0 5 rfl ki_1 ?_)))))
  refine v_iadd h pX3_finding_0 6 rfl (v_iast h pX3_finding_0 7 w 45 0 (ws' := cW cI cS a (E, T, Kp, P, S, up F 0 w ((F 0 w) + 1))) rfl rfl rfl rfl rfl (by omega) cW_Fs0 (v_ldc h pX3_finding_0 8 wm_97 rfl (v_iload_n h pX3_finding_0 9 rfl 1 rfl rfl (v_isub h pX3_finding_0 10 rfl ?_))))
  exact v_iret h pX3_finding_0 11 hR hret rfl ((E, T, Kp, P, S, up F 0 w ((F 0 w) + 1))) rfl ⟨vI rfl, rfl⟩
set_option maxHeartbeats 300000 in
set_option maxRecDepth 100000 in
theorem kX3_isOyster (l : Launch) (D : va_G) (cI cS : ClassId) (a : Nat → Nat) (E T Kp P F : Nat → Nat → Int32) (S : Nat → Nat → Nat → Int32) (n : Nat) (hW : Wf E n) (y : Int32) : vDet l D (vT cI cS) yX3_isOyster cX3_isOyster 2 (some .boolean) 1 21 (cW cI cS a) [.ref (a 0), .int y] (E, T, Kp, P, S, F) (some (.int (bI (oyB y n)))) ((E, T, Kp, P, S, F)) := by
  refine vMet_of (by decide) rfl ?_
  intro K hl hD hnL hret h hR hEx
  subst hl hD
  show V K (cW cI cS a (E, T, Kp, P, S, F)) 0 [(0, .ref (a 0)), (1, .int y)] []
  refine v_iload_n h pX3_isOyster_0 0 rfl 1 rfl rfl (v_aload_n h pX3_isOyster_0 1 rfl 0 rfl rfl (v_get h pX3_isOyster_0 2 fX3_10 0 rfl rfl rfl (v_get h pX3_isOyster_0 3 fX3_161 1 rfl rfl rfl (v_top (w := .int (nI n)) (congrArg Value.int hW.2.1) (v_iconst h pX3_isOyster_0 4 rfl ki_1 ?_)))))
  refine v_isub h pX3_isOyster_0 5 rfl ?_
  refine v_callS h pX3_isOyster_0 6 mX3_51 (As := [.int y, .int ((nI n) - 1)]) (st := []) (kX3_isWithin _ _ cI cS y ((nI n) - 1)) v0B v0C (vEmb_u _) rfl rfl rfl rfl rfl (vDet_k ?_)
  show V K (cW cI cS a (E, T, Kp, P, S, F)) 13 [(0, .ref (a 0)), (1, .int y)] [.int (bI (inB y 0 ((nI n) - 1)))]
  refine v_top (w := .int (bI (oyB y n))) (congrArg (fun z => Value.int (bI z)) (oyC hW.1)) ?_
  exact v_zret h pX3_isOyster_0 7 (bI_01 _) hR hret rfl ((E, T, Kp, P, S, F)) rfl ⟨vI rfl, rfl⟩
