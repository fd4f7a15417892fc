set_option maxHeartbeats 300000 in
set_option maxRecDepth 100000 in
theorem kX2_isLetter (l : Launch) (D : va_G) (cI cS : ClassId)   (x : Int32) : vDet l D (vT cI cS) yX2_isLetter cX2_isLetter 1 (some .boolean) 0 0 (fun _ : Unit => ([] : va_W)) [.int x] () (some (.int (bI (ltB x)))) (()) := by
  refine vMet_of (by decide) rfl ?_
  intro K hl hD hnL hret h hR hEx
  subst hl hD
  show V K (([] : va_W)) 0 [(0, .int x)] []
  refine v_iload_n h pX2_isLetter_0 0 rfl 0 rfl rfl (v_bipush h pX2_isLetter_0 1 rfl kb_97 ?_)
  refine v_icmp_lt (tgt := 16) h pX2_isLetter_0 2 rfl rfl (fun c1 => ?_) (fun c1 => ?_)
  · skip
    refine v_iconst h pX2_isLetter_0 8 rfl ki_0 ?_
    exact v_zret h pX2_isLetter_0 9 (Or.inl rfl) hR hret rfl (()) rfl ⟨vI (by simp [ltB, inB, bI, c1, -Int32.not_lt]), rfl⟩
  · skip
    refine v_iload_n h pX2_isLetter_0 3 rfl 0 rfl rfl (v_bipush h pX2_isLetter_0 4 rfl kb_122 ?_)
    refine v_icmp_gt (tgt := 16) h pX2_isLetter_0 5 rfl rfl (fun c2 => ?_) (fun c2 => ?_)
    · skip
      refine v_iconst h pX2_isLetter_0 8 rfl ki_0 ?_
      exact v_zret h pX2_isLetter_0 9 (Or.inl rfl) hR hret rfl (()) rfl ⟨vI (by simp [ltB, inB, bI, c1, c2, -Int32.not_lt]), rfl⟩
    · skip
      refine v_iconst h pX2_isLetter_0 6 rfl ki_1 (v_goto (tgt := 17) h pX2_isLetter_0 7 rfl rfl ?_)
      exact v_zret h pX2_isLetter_0 9 (Or.inr rfl) hR hret rfl (()) rfl ⟨vI (by simp [ltB, inB, bI, c1, c2, -Int32.not_lt]), rfl⟩
set_option maxHeartbeats 300000 in
set_option maxRecDepth 100000 in
theorem kX2_isDigit (l : Launch) (D : va_G) (cI cS : ClassId)   (x : Int32) : vDet l D (vT cI cS) yX2_isDigit cX2_isDigit 1 (some .boolean) 0 0 (fun _ : Unit => ([] : va_W)) [.int x] () (some (.int (bI (dgB x)))) (()) := by
  refine vMet_of (by decide) rfl ?_
  intro K hl hD hnL hret h hR hEx
  subst hl hD
  show V K (([] : va_W)) 0 [(0, .int x)] []
  refine v_iload_n h pX2_isDigit_0 0 rfl 0 rfl rfl (v_bipush h pX2_isDigit_0 1 rfl kb_48 ?_)
  refine v_icmp_lt (tgt := 16) h pX2_isDigit_0 2 rfl rfl (fun c1 => ?_) (fun c1 => ?_)
  · skip
    refine v_iconst h pX2_isDigit_0 8 rfl ki_0 ?_
    exact v_zret h pX2_isDigit_0 9 (Or.inl rfl) hR hret rfl (()) rfl ⟨vI (by simp [dgB, inB, bI, c1, -Int32.not_lt]), rfl⟩
  · skip
    refine v_iload_n h pX2_isDigit_0 3 rfl 0 rfl rfl (v_bipush h pX2_isDigit_0 4 rfl kb_57 ?_)
    refine v_icmp_gt (tgt := 16) h pX2_isDigit_0 5 rfl rfl (fun c2 => ?_) (fun c2 => ?_)
    · skip
      refine v_iconst h pX2_isDigit_0 8 rfl ki_0 ?_
      exact v_zret h pX2_isDigit_0 9 (Or.inl rfl) hR hret rfl (()) rfl ⟨vI (by simp [dgB, inB, bI, c1, c2, -Int32.not_lt]), rfl⟩
    · skip
      refine v_iconst h pX2_isDigit_0 6 rfl ki_1 (v_goto (tgt := 17) h pX2_isDigit_0 7 rfl rfl ?_)
      exact v_zret h pX2_isDigit_0 9 (Or.inr rfl) hR hret rfl (()) rfl ⟨vI (by simp [dgB, inB, bI, c1, c2, -Int32.not_lt]), rfl⟩
set_option maxHeartbeats 300000 in
set_option maxRecDepth 100000 in
theorem kX2_textOf_0 (l : Launch) (D : va_G) (cI cS : ClassId)  (x : xS)  : vMet l D (vT cI cS) yX2_textOf cX2_textOf 1 (some (.object "java/lang/String")) 0 0 (fun _ : Unit => ([] : va_W)) (exA x) [.int 0] () (fun v u => v = some (.ref (x.1 0)) ∧ u = ()) := by
  refine vMet_of (by decide) rfl ?_
  intro K hl hD hnL hret h hR hEx
  subst hl hD
  show V K (([] : va_W)) 0 [(0, .int 0)] []
  refine v_iload_n h pX2_textOf_0 0 rfl 0 rfl rfl (v_tin (tgt := 68) h pX2_textOf_0 1 rfl rfl (by decide) (by decide) rfl rfl (v_ldcS h pX2_textOf_0 2 (hEx.2.2.1 0 (by decide)) rfl ?_))
  exact v_aret h pX2_textOf_0 3 (Or.inl ⟨_, rfl⟩) hR hret rfl (()) rfl ⟨vRf rfl, rfl⟩
set_option maxHeartbeats 300000 in
set_option maxRecDepth 100000 in
theorem kX2_textOf_1 (l : Launch) (D : va_G) (cI cS : ClassId)  (x : xS)  : vMet l D (vT cI cS) yX2_textOf cX2_textOf 1 (some (.object "java/lang/String")) 0 0 (fun _ : Unit => ([] : va_W)) (exA x) [.int 1] () (fun v u => v = some (.ref (x.1 1)) ∧ u = ()) := by
  refine vMet_of (by decide) rfl ?_
  intro K hl hD hnL hret h hR hEx
  subst hl hD
  show V K (([] : va_W)) 0 [(0, .int 1)] []
  refine v_iload_n h pX2_textOf_0 0 rfl 0 rfl rfl (v_tin (tgt := 71) h pX2_textOf_0 1 rfl rfl (by decide) (by decide) rfl rfl (v_ldcS h pX2_textOf_0 4 (hEx.2.2.1 1 (by decide)) rfl ?_))
  exact v_aret h pX2_textOf_0 5 (Or.inl ⟨_, rfl⟩) hR hret rfl (()) rfl ⟨vRf rfl, rfl⟩
set_option maxHeartbeats 300000 in
set_option maxRecDepth 100000 in
theorem kX2_textOf_2 (l : Launch) (D : va_G) (cI cS : ClassId)  (x : xS)  : vMet l D (vT cI cS) yX2_textOf cX2_textOf 1 (some (.object "java/lang/String")) 0 0 (fun _ : Unit => ([] : va_W)) (exA x) [.int 2] () (fun v u => v = some (.ref (x.1 2)) ∧ u = ()) := by
  refine vMet_of (by decide) rfl ?_
  intro K hl hD hnL hret h hR hEx
  subst hl hD
  show V K (([] : va_W)) 0 [(0, .int 2)] []
  refine v_iload_n h pX2_textOf_0 0 rfl 0 rfl rfl (v_tin (tgt := 74) h pX2_textOf_0 1 rfl rfl (by decide) (by decide) rfl rfl (v_ldcS h pX2_textOf_0 6 (hEx.2.2.1 2 (by decide)) rfl ?_))
  exact v_aret h pX2_textOf_0 7 (Or.inl ⟨_, rfl⟩) hR hret rfl (()) rfl ⟨vRf rfl, rfl⟩
set_option maxHeartbeats 300000 in
set_option maxRecDepth 100000 in
theorem kX2_textOf_3 (l : Launch) (D : va_G) (cI cS : ClassId)  (x : xS)  : vMet l D (vT cI cS) yX2_textOf cX2_textOf 1 (some (.object "java/lang/String")) 0 0 (fun _ : Unit => ([] : va_W)) (exA x) [.int 3] () (fun v u => v = some (.ref (x.1 3)) ∧ u = ()) := by
  refine vMet_of (by decide) rfl ?_
  intro K hl hD hnL hret h hR hEx
  subst hl hD
  show V K (([] : va_W)) 0 [(0, .int 3)] []
  refine v_iload_n h pX2_textOf_0 0 rfl 0 rfl rfl (v_tin (tgt := 77) h pX2_textOf_0 1 rfl rfl (by decide) (by decide) rfl rfl (v_ldcS h pX2_textOf_0 8 (hEx.2.2.1 3 (by decide)) rfl ?_))
  exact v_aret h pX2_textOf_0 9 (Or.inl ⟨_, rfl⟩) hR hret rfl (()) rfl ⟨vRf rfl, rfl⟩
set_option maxHeartbeats 300000 in
set_option maxRecDepth 100000 in
theorem kX2_textOf_4 (l : Launch) (D : va_G) (cI cS : ClassId)  (x : xS)  : vMet l D (vT cI cS) yX2_textOf cX2_textOf 1 (some (.object "java/lang/String")) 0 0 (fun _ : Unit => ([] : va_W)) (exA x) [.int 4] () (fun v u => v = some (.ref (x.1 4)) ∧ u = ()) := by
  refine vMet_of (by decide) rfl ?_
  intro K hl hD hnL hret h hR hEx
  subst hl hD
  show V K (([] : va_W)) 0 [(0, .int 4)] []
  refine v_iload_n h pX2_textOf_0 0 rfl 0 rfl rfl (v_tin (tgt := 80) h pX2_textOf_0 1 rfl rfl (by decide) (by decide) rfl rfl (v_ldcS h pX2_textOf_0 10 (hEx.2.2.1 4 (by decide)) rfl ?_))
  exact v_aret h pX2_textOf_0 11 (Or.inl ⟨_, rfl⟩) hR hret rfl (()) rfl ⟨vRf rfl, rfl⟩
set_option maxHeartbeats 300000 in
set_option maxRecDepth 100000 in
theorem kX2_textOf_5 (l : Launch) (D : va_G) (cI cS : ClassId)  (x : xS)  : vMet l D (vT cI cS) yX2_textOf cX2_textOf 1 (some (.object "java/lang/String")) 0 0 (fun _ : Unit => ([] : va_W)) (exA x) [.int 5] () (fun v u => v = some (.ref (x.1 5)) ∧ u = ()) := by
  refine vMet_of (by decide) rfl ?_
  intro K hl hD hnL hret h hR hEx
  subst hl hD
  show V K (([] : va_W)) 0 [(0, .int 5)] []
  refine v_iload_n h pX2_textOf_0 0 rfl 0 rfl rfl (v_tin (tgt := 83) h pX2_textOf_0 1 rfl rfl (by decide) (by decide) rfl rfl (v_ldcS h pX2_textOf_0 12 (hEx.2.2.1 5 (by decide)) rfl ?_))
  exact v_aret h pX2_textOf_0 13 (Or.inl ⟨_, rfl⟩) hR hret rfl (()) rfl ⟨vRf rfl, rfl⟩
set_option maxHeartbeats 300000 in
set_option maxRecDepth 100000 in
theorem kX2_textOf_6 (l : Launch) (D : va_G) (cI cS : ClassId)  (x : xS)  : vMet l D (vT cI cS) yX2_textOf cX2_textOf 1 (some (.object "java/lang/String")) 0 0 (fun _ : Unit => ([] : va_W)) (exA x) [.int 6] () (fun v u => v = some (.ref (x.1 6)) ∧ u = ()) := by
  refine vMet_of (by decide) rfl ?_
  intro K hl hD hnL hret h hR hEx
  subst hl hD
  show V K (([] : va_W)) 0 [(0, .int 6)] []
  refine v_iload_n h pX2_textOf_0 0 rfl 0 rfl rfl (v_tin (tgt := 86) h pX2_textOf_0 1 rfl rfl (by decide) (by decide) rfl rfl (v_ldcS h pX2_textOf_0 14 (hEx.2.2.1 6 (by decide)) rfl ?_))
  exact v_aret h pX2_textOf_0 15 (Or.inl ⟨_, rfl⟩) hR hret rfl (()) rfl ⟨vRf rfl, rfl⟩
set_option maxHeartbeats 300000 in
set_option maxRecDepth 100000 in
theorem kX2_textOf_7 (l : Launch) (D : va_G) (cI cS : ClassId)  (x : xS)  : vMet l D (vT cI cS) yX2_textOf cX2_textOf 1 (some (.object "java/lang/String")) 0 0 (fun _ : Unit => ([] : va_W)) (exA x) [.int 7] () (fun v u => v = some (.ref (x.1 7)) ∧ u = ()) := by
  refine vMet_of (by decide) rfl ?_
  intro K hl hD hnL hret h hR hEx
  subst hl hD
  show V K (([] : va_W)) 0 [(0, .int 7)] []
  refine v_iload_n h pX2_textOf_0 0 rfl 0 rfl rfl (v_tin (tgt := 89) h pX2_textOf_0 1 rfl rfl (by decide) (by decide) rfl rfl (v_ldcS h pX2_textOf_0 16 (hEx.2.2.1 7 (by decide)) rfl ?_))
  exact v_aret h pX2_textOf_0 17 (Or.inl ⟨_, rfl⟩) hR hret rfl (()) rfl ⟨vRf rfl, rfl⟩
set_option maxHeartbeats 300000 in
set_option maxRecDepth 100000 in
theorem kX2_textOf_8 (l : Launch) (D : va_G) (cI cS : ClassId)  (x : xS)  : vMet l D (vT cI cS) yX2_textOf cX2_textOf 1 (some (.object "java/lang/String")) 0 0 (fun _ : Unit => ([] : va_W)) (exA x) [.int 8] () (fun v u => v = some (.ref (x.1 8)) ∧ u = ()) := by
  refine vMet_of (by decide) rfl ?_
  intro K hl hD hnL hret h hR hEx
  subst hl hD
  show V K (([] : va_W)) 0 [(0, .int 8)] []
  refine v_iload_n h pX2_textOf_0 0 rfl 0 rfl rfl (v_tin (tgt := 92) h pX2_textOf_0 1 rfl rfl (by decide) (by decide) rfl rfl (v_ldcS h pX2_textOf_0 18 (hEx.2.2.1 8 (by decide)) rfl ?_))
  exact v_aret h pX2_textOf_0 19 (Or.inl ⟨_, rfl⟩) hR hret rfl (()) rfl ⟨vRf rfl, rfl⟩
set_option maxHeartbeats 300000 in
set_option maxRecDepth 100000 in
theorem kX2_textOf_9 (l : Launch) (D : va_G) (cI cS : ClassId)  (x : xS)  : vMet l D (vT cI cS) yX2_textOf cX2_textOf 1 (some (.object "java/lang/String")) 0 0 (fun _ : Unit => ([] : va_W)) (exA x) [.int 9] () (fun v u => v = some (.ref (x.1 9)) ∧ u = ()) := by
  refine vMet_of (by decide) rfl ?_
  intro K hl hD hnL hret h hR hEx
  subst hl hD
  show V K (([] : va_W)) 0 [(0, .int 9)] []
  refine v_iload_n h pX2_textOf_0 0 rfl 0 rfl rfl (v_tin (tgt := 95) h pX2_textOf_0 1 rfl rfl (by decide) (by decide) rfl rfl (v_ldcS h pX2_textOf_0 20 (hEx.2.2.1 9 (by decide)) rfl ?_))
  exact v_aret h pX2_textOf_0 21 (Or.inl ⟨_, rfl⟩) hR hret rfl (()) rfl ⟨vRf rfl, rfl⟩
set_option maxHeartbeats 300000 in
set_option maxRecDepth 100000 in
theorem kX2_textOf_10 (l : Launch) (D : va_G) (cI cS : ClassId)  (x : xS)  : vMet l D (vT cI cS) yX2_textOf cX2_textOf 1 (some (.object "java/lang/String")) 0 0 (fun _ : Unit => ([] : va_W)) (exA x) [.int 10] () (fun v u => v = some (.ref (x.1 10)) ∧ u = ()) := by
  refine vMet_of (by decide) rfl ?_
  intro K hl hD hnL hret h hR hEx
  subst hl hD
  show V K (([] : va_W)) 0 [(0, .int 10)] []
  refine v_iload_n h pX2_textOf_0 0 rfl 0 rfl rfl (v_tin (tgt := 98) h pX2_textOf_0 1 rfl rfl (by decide) (by decide) rfl rfl (v_ldcS h pX2_textOf_0 22 (hEx.2.2.1 10 (by decide)) rfl ?_))
  exact v_aret h pX2_textOf_0 23 (Or.inl ⟨_, rfl⟩) hR hret rfl (()) rfl ⟨vRf rfl, rfl⟩
set_option maxHeartbeats 300000 in
set_option maxRecDepth 100000 in
theorem kX2_textOf_11 (l : Launch) (D : va_G) (cI cS : ClassId)  (x : xS)  : vMet l D (vT cI cS) yX2_textOf cX2_textOf 1 (some (.object "java/lang/String")) 0 0 (fun _ : Unit => ([] : va_W)) (exA x) [.int 11] () (fun v u => v = some (.ref (x.1 11)) ∧ u = ()) := by
  refine vMet_of (by decide) rfl ?_
  intro K hl hD hnL hret h hR hEx
  subst hl hD
  show V K (([] : va_W)) 0 [(0, .int 11)] []
  refine v_iload_n h pX2_textOf_0 0 rfl 0 rfl rfl (v_tin (tgt := 101) h pX2_textOf_0 1 rfl rfl (by decide) (by decide) rfl rfl (v_ldcS h pX2_textOf_0 24 (hEx.2.2.1 11 (by decide)) rfl ?_))
  exact v_aret h pX2_textOf_0 25 (Or.inl ⟨_, rfl⟩) hR hret rfl (()) rfl ⟨vRf rfl, rfl⟩
set_option maxHeartbeats 300000 in
set_option maxRecDepth 100000 in
theorem kX2_textOf_12 (l : Launch) (D : va_G) (cI cS : ClassId)  (x : xS)  : vMet l D (vT cI cS) yX2_textOf cX2_textOf 1 (some (.object "java/lang/String")) 0 0 (fun _ : Unit => ([] : va_W)) (exA x) [.int 12] () (fun v u => v = some (.ref (x.1 12)) ∧ u = ()) := by
  refine vMet_of (by decide) rfl ?_
  intro K hl hD hnL hret h hR hEx
  subst hl hD
  show V K (([] : va_W)) 0 [(0, .int 12)] []
  refine v_iload_n h pX2_textOf_0 0 rfl 0 rfl rfl (v_tin (tgt := 104) h pX2_textOf_0 1 rfl rfl (by decide) (by decide) rfl rfl (v_ldcS h pX2_textOf_0 26 (hEx.2.2.1 12 (by decide)) rfl ?_))
  exact v_aret h pX2_textOf_0 27 (Or.inl ⟨_, rfl⟩) hR hret rfl (()) rfl ⟨vRf rfl, rfl⟩
set_option maxHeartbeats 300000 in
set_option maxRecDepth 100000 in
theorem kX2_textOf_13 (l : Launch) (D : va_G) (cI cS : ClassId)  (x : xS)  : vMet l D (vT cI cS) yX2_textOf cX2_textOf 1 (some (.object "java/lang/String")) 0 0 (fun _ : Unit => ([] : va_W)) (exA x) [.int 13] () (fun v u => v = some (.ref (x.1 13)) ∧ u = ()) := by
  refine vMet_of (by decide) rfl ?_
  intro K hl hD hnL hret h hR hEx
  subst hl hD
  show V K (([] : va_W)) 0 [(0, .int 13)] []
  refine v_iload_n h pX2_textOf_0 0 rfl 0 rfl rfl (v_tout (tgt := 107) h pX2_textOf_0 1 rfl (by decide) rfl (v_ldcS h pX2_textOf_0 28 (hEx.2.2.1 13 (by decide)) rfl ?_))
  exact v_aret h pX2_textOf_0 29 (Or.inl ⟨_, rfl⟩) hR hret rfl (()) rfl ⟨vRf rfl, rfl⟩
theorem kX2_textOf (l : Launch) (D : va_G) (cI cS : ClassId) (x : xS) (w : Nat) (hw : w < 14) : vMet l D (vT cI cS) yX2_textOf cX2_textOf 1 (some (.object "java/lang/String")) 0 0 (fun _ : Unit => ([] : va_W)) (exA x) [.int (nI w)] () (fun v u => v = some (.ref (x.1 w)) ∧ u = ()) := by
  rcases (show w = 0 ∨ w = 1 ∨ w = 2 ∨ w = 3 ∨ w = 4 ∨ w = 5 ∨ w = 6 ∨ w = 7 ∨ w = 8 ∨ w = 9 ∨ w = 10 ∨ w = 11 ∨ w = 12 ∨ w = 13 by omega) with rfl | rfl | rfl | rfl | rfl | rfl | rfl | rfl | rfl | rfl | rfl | rfl | rfl | rfl
  · exact kX2_textOf_0 l D cI cS x
  · exact kX2_textOf_1 l D cI cS x
  · exact kX2_textOf_2 l D cI cS x
  · exact kX2_textOf_3 l D cI cS x
  · exact kX2_textOf_4 l D cI cS x
  · exact kX2_textOf_5 l D cI cS x
  · exact kX2_textOf_6 l D cI cS x
  · exact kX2_textOf_7 l D cI cS x
  · exact kX2_textOf_8 l D cI cS x
  · exact kX2_textOf_9 l D cI cS x
  · exact kX2_textOf_10 l D cI cS x
  · exact kX2_textOf_11 l D cI cS x
  · exact kX2_textOf_12 l D cI cS x
  · exact kX2_textOf_13 l D cI cS x
set_option maxHeartbeats 300000 in
set_option maxRecDepth 100000 in
theorem kX2_isText (l : Launch) (D : va_G) (cI cS : ClassId) (a : Nat → Nat) (x : xS) (P : Nat → Nat → Int32) (w f e : Nat) (hi : w < 14) (hfe : f ≤ e) (he : e ≤ 120) : vMet l D (vT cI cS) yX2_isText cX2_isText 5 (some .boolean) 4 85 (tW cI a) (exA x) [.ref (a 0), .ref (x.1 w), .int (nI f), .int (nI e)] P (fun v u => v = some (.int (bI (tx (P 0) w f e))) ∧ u = P) := by
  refine vMet_of (by decide) rfl ?_
  intro K hl hD hnL hret h hR hEx
  subst hl hD
  show V K (tW cI a P) 0 [(0, .ref (a 0)), (1, .ref (x.1 w)), (2, .int (nI f)), (3, .int (nI e))] []
  have hl9 := wl_lt w hi
  refine v_iload_n h pX2_isText_0 0 rfl 3 rfl rfl (v_iload_n h pX2_isText_0 1 rfl 2 rfl rfl (v_isub h pX2_isText_0 2 rfl ?_))
  refine v_top (w := .int (nI (e - f))) (congrArg Value.int (nI_sb hfe)) (v_aload_n h pX2_isText_0 3 rfl 1 rfl rfl ?_)
  refine v_callVK h pX2_isText_0 4 mX2_129 (As := []) (st := [.int (nI (e - f))]) (kJ0_length_8abf5 _ _ cI cS x w hi) (exA_B _) (exA_C hEx.2) (vEmb_u _) (fun H locs hS => vk_recv hEx.2.2.2.1 hi hS) rfl rfl rfl rfl rfl (vDet_k ?_)
  show V K (tW cI a P) 7 [(0, .ref (a 0)), (1, .ref (x.1 w)), (2, .int (nI f)), (3, .int (nI e))] [.int (nI (wl w)), .int (nI (e - f))]
  refine v_ncmp_eq (a := (e - f)) (b := wl w) (tgt := 12) h pX2_isText_0 5 rfl rfl (by omega) (by omega) (fun c1 => ?_) (fun c1 => ?_)
  · skip
    refine v_iconst h pX2_isText_0 8 rfl ki_0 (v_istore h pX2_isText_0 9 (lv' := [(4, .int 0), (0, .ref (a 0)), (1, .ref (x.1 w)), (2, .int (nI f)), (3, .int (nI e))]) rfl hnL rfl rfl ?_)
    refine v_lv [1, 2, 3, 4, 0] (lv' := [(0, .ref (a 0)), (1, .ref (x.1 w)), (2, .int (nI f)), (3, .int (nI e)), (4, .int 0)]) rfl ?_
    have LA : ∀ (m iA : Nat), iA ≤ (wl w) → (allN (fun i => decide (P 0 (f + i) = ch w i)) iA = true) → (wl w) + 1 ≤ iA + m → V K (tW cI a P) 15 [(0, .ref (a 0)), (1, .ref (x.1 w)), (2, .int (nI f)), (3, .int (nI e)), (4, .int (nI iA))] [] := by
      intro m
      induction m with
      | zero => exact fun iA h1 hh h2 => absurd h2 (by omega)
      | succ m ihA =>
        intro iA hleA hhA hltA
        refine v_iload h pX2_isText_0 10 rfl 4 rfl (v_aload_n h pX2_isText_0 11 rfl 1 rfl rfl ?_)
        refine v_callVK h pX2_isText_0 12 mX2_129 (As := []) (st := [.int (nI iA)]) (kJ0_length_8abf5 _ _ cI cS x w hi) (exA_B _) (exA_C hEx.2) (vEmb_u _) (fun H locs hS => vk_recv hEx.2.2.2.1 hi hS) rfl rfl rfl rfl rfl (vDet_k ?_)
        show V K (tW cI a P) 21 [(0, .ref (a 0)), (1, .ref (x.1 w)), (2, .int (nI f)), (3, .int (nI e)), (4, .int (nI iA))] [.int (nI (wl w)), .int (nI iA)]
        refine v_ncmp_ge (a := iA) (b := wl w) (tgt := 50) h pX2_isText_0 13 rfl rfl (by omega) (by omega) (fun c3 => ?_) (fun c3 => ?_)
        · skip
          refine v_iconst h pX2_isText_0 28 rfl ki_1 ?_
          exact v_zret h pX2_isText_0 29 (Or.inr rfl) hR hret rfl (P) rfl ⟨vI (by first | (rw [tx, decide_eq_true (by omega), show wl w = iA by omega, hhA]; rfl) | (rw [tx, decide_eq_false (by omega)]; rfl) | (rw [tx, allN_f (k := iA) (by omega) (decide_eq_false (by assumption)), Bool.and_false]; rfl)), rfl⟩
        · skip
          refine v_aload_n h pX2_isText_0 14 rfl 0 rfl rfl (v_get h pX2_isText_0 15 fX2_9 0 rfl rfl rfl ?_)
          refine v_iload_n h pX2_isText_0 16 rfl 2 rfl rfl (v_iload h pX2_isText_0 17 rfl 4 rfl (v_iaddn h pX2_isText_0 18 f iA rfl (v_iald h pX2_isText_0 19 (f + iA) 1 0 rfl rfl rfl rfl rfl (by omega) (v_aload_n h pX2_isText_0 20 rfl 1 rfl rfl (v_iload h pX2_isText_0 21 rfl 4 rfl ?_)))))
          have hj : iA < wl w := by omega
          refine v_callVK h pX2_isText_0 22 mX2_135 (As := [.int (nI iA)]) (st := [.int (P 0 (f + iA))]) (kJ0_charAt_5068e _ _ cI cS x w hi iA hj) (exA_B _) (exA_C hEx.2) (vEmb_u _) (fun H locs hS => vk_recv hEx.2.2.2.1 hi hS) rfl rfl rfl rfl rfl (vDet_k ?_)
          show V K (tW cI a P) 39 [(0, .ref (a 0)), (1, .ref (x.1 w)), (2, .int (nI f)), (3, .int (nI e)), (4, .int (nI iA))] [.int (ch w iA), .int (P 0 (f + iA))]
          refine v_icmp_eq (tgt := 44) h pX2_isText_0 23 rfl rfl (fun c4 => ?_) (fun c4 => ?_)
          · skip
            refine v_iinc h pX2_isText_0 26 (v := nI (iA + 1)) (lv' := [(4, .int (nI (iA + 1))), (0, .ref (a 0)), (1, .ref (x.1 w)), (2, .int (nI f)), (3, .int (nI e))]) rfl 4 rfl hnL rfl rfl (nI_1 iA) (v_goto (tgt := 15) h pX2_isText_0 27 rfl rfl (v_lv [1, 2, 3, 4, 0] (lv' := [(0, .ref (a 0)), (1, .ref (x.1 w)), (2, .int (nI f)), (3, .int (nI e)), (4, .int (nI (iA + 1)))]) rfl ?_))
            exact ihA (iA + 1) (by omega) (by rw [allN, hhA, decide_eq_true c4]; rfl) (by omega)
          · skip
            refine v_iconst h pX2_isText_0 24 rfl ki_0 ?_
            exact v_zret h pX2_isText_0 25 (Or.inl rfl) hR hret rfl (P) rfl ⟨vI (by first | (rw [tx, decide_eq_true (by omega), show wl w = iA by omega, hhA]; rfl) | (rw [tx, decide_eq_false (by omega)]; rfl) | (rw [tx, allN_f (k := iA) (by omega) (decide_eq_false (by assumption)), Bool.and_false]; rfl)), rfl⟩
    exact LA ((wl w) + 1) 0 (by omega) rfl (by omega)
  · skip
    refine v_iconst h pX2_isText_0 6 rfl ki_0 ?_
    exact v_zret h pX2_isText_0 7 (Or.inl rfl) hR hret rfl (P) rfl ⟨vI (by first | (rw [tx, decide_eq_true (by omega), show wl w = iA by omega, hhA]; rfl) | (rw [tx, decide_eq_false (by omega)]; rfl) | (rw [tx, allN_f (k := iA) (by omega) (decide_eq_false (by assumption)), Bool.and_false]; rfl)), rfl⟩
set_option maxHeartbeats 300000 in
set_option maxRecDepth 100000 in
theorem kX2_isTogether (l : Launch) (D : va_G) (cI cS : ClassId) (a : Nat → Nat) (P : Nat → Nat → Int32) (p L : Nat) (hL : P 4 0 = nI L) (hLb : L ≤ 120) (hp : p ≤ 120) : vDet l D (vT cI cS) yX2_isTogether cX2_isTogether 4 (some .boolean) 1 20 (tW cI a) [.ref (a 0), .int (nI p)] P (some (.int (bI (tgB (P 0) L p)))) (P) := by
  refine vMet_of (by decide) rfl ?_
  intro K hl hD hnL hret h hR hEx
  subst hl hD
  show V K (tW cI a P) 0 [(0, .ref (a 0)), (1, .int (nI p))] []
  refine v_iload_n h pX2_isTogether_0 0 rfl 1 rfl rfl (v_iconst h pX2_isTogether_0 1 rfl ki_1 ?_)
  refine v_ncmp_lt (a := p) (b := 1) (tgt := 13) h pX2_isTogether_0 2 rfl rfl (by omega) (by omega) (fun c1 => ?_) (fun c1 => ?_)
  · skip
    refine v_iconst h pX2_isTogether_0 7 rfl ki_0 ?_
    exact v_zret h pX2_isTogether_0 8 (Or.inl rfl) hR hret rfl (P) rfl ⟨vI (by first | (rw [tgB, if_pos (by omega)]; rfl) | (rw [tgB, if_neg (by omega)]; simp [bI, c1])), rfl⟩
  · skip
    refine v_iload_n h pX2_isTogether_0 3 rfl 1 rfl rfl (v_aload_n h pX2_isTogether_0 4 rfl 0 rfl rfl (v_get h pX2_isTogether_0 5 fX2_24 0 rfl rfl rfl (v_top (w := .int (nI L)) (congrArg Value.int hL) ?_)))
    refine v_ncmp_lt (a := p) (b := L) (tgt := 15) h pX2_isTogether_0 6 rfl rfl (by omega) (by omega) (fun c2 => ?_) (fun c2 => ?_)
    · skip
      refine v_aload_n h pX2_isTogether_0 9 rfl 0 rfl rfl (v_get h pX2_isTogether_0 10 fX2_9 0 rfl rfl rfl (v_iload_n h pX2_isTogether_0 11 rfl 1 rfl rfl (v_iconst h pX2_isTogether_0 12 rfl ki_1 (v_isub h pX2_isTogether_0 13 rfl ?_))))
      refine v_top (w := .int (nI (p - 1))) (congrArg Value.int (nI_sb (a := p) (b := 1) (by omega))) (v_iald h pX2_isTogether_0 14 (p - 1) 1 0 rfl rfl rfl rfl rfl (by omega) (v_istore_n h pX2_isTogether_0 15 (lv' := [(2, .int (P 0 (p - 1))), (0, .ref (a 0)), (1, .int (nI p))]) rfl rfl hnL rfl rfl (v_aload_n h pX2_isTogether_0 16 rfl 1 rfl rfl (v_get h pX2_isTogether_0 17 fX2_9 0 rfl rfl rfl (v_iload_n h pX2_isTogether_0 18 rfl 2 rfl rfl ?_)))))
      refine v_iald h pX2_isTogether_0 19 p 1 0 rfl rfl rfl rfl rfl (by omega) (v_istore_n h pX2_isTogether_0 20 (lv' := [(3, .int (P 0 p)), (2, .int (P 0 (p - 1))), (0, .ref (a 0)), (1, .int (nI p))]) rfl rfl hnL rfl rfl (v_iload_n h pX2_isTogether_0 21 rfl 1 rfl rfl ?_))
      refine v_callS h pX2_isTogether_0 22 mX2_110 (As := [.int (P 0 (p - 1))]) (st := []) (kX2_isLetter _ _ cI cS (P 0 (p - 1))) v0B v0C (vEmb_u _) rfl rfl rfl rfl rfl (vDet_k ?_)
      show V K (tW cI a P) 35 [(3, .int (P 0 p)), (2, .int (P 0 (p - 1))), (0, .ref (a 0)), (1, .int (nI p))] [.int (bI (ltB (P 0 (p - 1))))]
      refine v_bif_eq (tgt := 45) h pX2_isTogether_0 23 rfl rfl (fun c3 => ?_) (fun c3 => ?_)
      · skip
        refine v_iload_n h pX2_isTogether_0 27 rfl 1 rfl rfl ?_
        refine v_callS h pX2_isTogether_0 28 mX2_113 (As := [.int (P 0 (p - 1))]) (st := []) (kX2_isDigit _ _ cI cS (P 0 (p - 1))) v0B v0C (vEmb_u _) rfl rfl rfl rfl rfl (vDet_k ?_)
        show V K (tW cI a P) 49 [(3, .int (P 0 p)), (2, .int (P 0 (p - 1))), (0, .ref (a 0)), (1, .int (nI p))] [.int (bI (dgB (P 0 (p - 1))))]
        refine v_bif_eq (tgt := 63) h pX2_isTogether_0 29 rfl rfl (fun c4 => ?_) (fun c4 => ?_)
        · skip
          refine v_iconst h pX2_isTogether_1 3 rfl ki_0 ?_
          exact v_zret h pX2_isTogether_1 4 (Or.inl rfl) hR hret rfl (P) rfl ⟨vI (by first | (rw [tgB, if_pos (by omega)]; rfl) | (rw [tgB, if_neg (by omega)]; simp [bI, c1, c2, c3, c4])), rfl⟩
        · skip
          refine v_iload_n h pX2_isTogether_0 30 rfl 0 rfl rfl ?_
          refine v_callS h pX2_isTogether_0 31 mX2_113 (As := [.int (P 0 p)]) (st := []) (kX2_isDigit _ _ cI cS (P 0 p)) v0B v0C (vEmb_u _) rfl rfl rfl rfl rfl (vDet_k ?_)
          show V K (tW cI a P) 56 [(3, .int (P 0 p)), (2, .int (P 0 (p - 1))), (0, .ref (a 0)), (1, .int (nI p))] [.int (bI (dgB (P 0 p)))]
          refine v_bif_eq (tgt := 63) h pX2_isTogether_1 0 rfl rfl (fun c5 => ?_) (fun c5 => ?_)
          · skip
            refine v_iconst h pX2_isTogether_1 3 rfl ki_0 ?_
            exact v_zret h pX2_isTogether_1 4 (Or.inl rfl) hR hret rfl (P) rfl ⟨vI (by first | (rw [tgB, if_pos (by omega)]; rfl) | (rw [tgB, if_neg (by omega)]; simp [bI, c1, c2, c3, c4, c5])), rfl⟩
          · skip
            refine v_iconst h pX2_isTogether_1 1 rfl ki_1 (v_goto (tgt := 64) h pX2_isTogether_1 2 rfl rfl ?_)
            exact v_zret h pX2_isTogether_1 4 (Or.inr rfl) hR hret rfl (P) rfl ⟨vI (by first | (rw [tgB, if_pos (by omega)]; rfl) | (rw [tgB, if_neg (by omega)]; simp [bI, c1, c2, c3, c4, c5])), rfl⟩
      · skip
        refine v_iload_n h pX2_isTogether_0 24 rfl 0 rfl rfl ?_
        refine v_callS h pX2_isTogether_0 25 mX2_110 (As := [.int (P 0 p)]) (st := []) (kX2_isLetter _ _ cI cS (P 0 p)) v0B v0C (vEmb_u _) rfl rfl rfl rfl rfl (vDet_k ?_)
        show V K (tW cI a P) 42 [(3, .int (P 0 p)), (2, .int (P 0 (p - 1))), (0, .ref (a 0)), (1, .int (nI p))] [.int (bI (ltB (P 0 p)))]
        refine v_bif_ne (tgt := 59) h pX2_isTogether_0 26 rfl rfl (fun c6 => ?_) (fun c6 => ?_)
        · skip
          refine v_iconst h pX2_isTogether_1 1 rfl ki_1 (v_goto (tgt := 64) h pX2_isTogether_1 2 rfl rfl ?_)
          exact v_zret h pX2_isTogether_1 4 (Or.inr rfl) hR hret rfl (P) rfl ⟨vI (by first | (rw [tgB, if_pos (by omega)]; rfl) | (rw [tgB, if_neg (by omega)]; simp [bI, c1, c2, c3, c6])), rfl⟩
        · skip
          refine v_iload_n h pX2_isTogether_0 27 rfl 1 rfl rfl ?_
          refine v_callS h pX2_isTogether_0 28 mX2_113 (As := [.int (P 0 (p - 1))]) (st := []) (kX2_isDigit _ _ cI cS (P 0 (p - 1))) v0B v0C (vEmb_u _) rfl rfl rfl rfl rfl (vDet_k ?_)
          show V K (tW cI a P) 49 [(3, .int (P 0 p)), (2, .int (P 0 (p - 1))), (0, .ref (a 0)), (1, .int (nI p))] [.int (bI (dgB (P 0 (p - 1))))]
          refine v_bif_eq (tgt := 63) h pX2_isTogether_0 29 rfl rfl (fun c7 => ?_) (fun c7 => ?_)
          · skip
            refine v_iconst h pX2_isTogether_1 3 rfl ki_0 ?_
            exact v_zret h pX2_isTogether_1 4 (Or.inl rfl) hR hret rfl (P) rfl ⟨vI (by first | (rw [tgB, if_pos (by omega)]; rfl) | (rw [tgB, if_neg (by omega)]; simp [bI, c1, c2, c3, c6, c7])), rfl⟩
          · skip
            refine v_iload_n h pX2_isTogether_0 30 rfl 0 rfl rfl ?_
            refine v_callS h pX2_isTogether_0 31 mX2_113 (As := [.int (P 0 p)]) (st := []) (kX2_isDigit _ _ cI cS (P 0 p)) v0B v0C (vEmb_u _) rfl rfl rfl rfl rfl (vDet_k ?_)
            show V K (tW cI a P) 56 [(3, .int (P 0 p)), (2, .int (P 0 (p - 1))), (0, .ref (a 0)), (1, .int (nI p))] [.int (bI (dgB (P 0 p)))]
            refine v_bif_eq (tgt := 63) h pX2_isTogether_1 0 rfl rfl (fun c8 => ?_) (fun c8 => ?_)
            · skip
              refine v_iconst h pX2_isTogether_1 3 rfl ki_0 ?_
              exact v_zret h pX2_isTogether_1 4 (Or.inl rfl) hR hret rfl (P) rfl ⟨vI (by first | (rw [tgB, if_pos (by omega)]; rfl) | (rw [tgB, if_neg (by omega)]; simp [bI, c1, c2, c3, c6, c7, c8])), rfl⟩
            · skip
              refine v_iconst h pX2_isTogether_1 1 rfl ki_1 (v_goto (tgt := 64) h pX2_isTogether_1 2 rfl rfl ?_)
              exact v_zret h pX2_isTogether_1 4 (Or.inr rfl) hR hret rfl (P) rfl ⟨vI (by first | (rw [tgB, if_pos (by omega)]; rfl) | (rw [tgB, if_neg (by omega)]; simp [bI, c1, c2, c3, c6, c7, c8])), rfl⟩
    · skip
      refine v_iconst h pX2_isTogether_0 7 rfl ki_0 ?_
      exact v_zret h pX2_isTogether_0 8 (Or.inl rfl) hR hret rfl (P) rfl ⟨vI (by first | (rw [tgB, if_pos (by omega)]; rfl) | (rw [tgB, if_neg (by omega)]; simp [bI, c1, c2])), rfl⟩
set_option maxHeartbeats 300000 in
set_option maxRecDepth 100000 in
theorem kX2_endOfToken (l : Launch) (D : va_G) (cI cS : ClassId) (a : Nat → Nat) (P : Nat → Nat → Int32) (f L : Nat) (hf : f < L) (hL : P 4 0 = nI L) (hLb : L ≤ 120) : vDet l D (vT cI cS) yX2_endOfToken cX2_endOfToken 3 (some .int) 2 43 (tW cI a) [.ref (a 0), .int (nI f)] P (some (.int (nI (en (P 0) L f)))) (P) := by
  refine vMet_of (by decide) rfl ?_
  intro K hl hD hnL hret h hR hEx
  subst hl hD
  show V K (tW cI a P) 0 [(0, .ref (a 0)), (1, .int (nI f))] []
  refine v_iload_n h pX2_endOfToken_0 0 rfl 1 rfl rfl (v_iconst h pX2_endOfToken_0 1 rfl ki_1 (v_iaddn h pX2_endOfToken_0 2 f 1 rfl (v_istore_n h pX2_endOfToken_0 3 (lv' := [(2, .int (nI (f + 1))), (0, .ref (a 0)), (1, .int (nI f))]) rfl rfl hnL rfl rfl ?_)))
  refine v_lv [1, 2, 0] (lv' := [(0, .ref (a 0)), (1, .int (nI f)), (2, .int (nI (f + 1)))]) rfl ?_
  have LA : ∀ (m e : Nat), e ≤ L → L + 1 ≤ e + m → sc (fun i => tgB (P 0) L i) L e = en (P 0) L f → V K (tW cI a P) 4 [(0, .ref (a 0)), (1, .int (nI f)), (2, .int (nI e))] [] := by
    intro m
    induction m with
    | zero => exact fun e h1 h2 h3 => absurd h2 (by omega)
    | succ m ihA =>
      intro e h1 h2 h3
      refine v_iload_n h pX2_endOfToken_0 4 rfl 2 rfl rfl (v_aload_n h pX2_endOfToken_0 5 rfl 0 rfl rfl (v_get h pX2_endOfToken_0 6 fX2_24 0 rfl rfl rfl (v_top (w := .int (nI L)) (congrArg Value.int hL) ?_)))
      refine v_ncmp_ge (a := e) (b := L) (tgt := 26) h pX2_endOfToken_0 7 rfl rfl (by omega) (by omega) (fun c1 => ?_) (fun c1 => ?_)
      · skip
        refine v_iload_n h pX2_endOfToken_0 14 rfl 2 rfl rfl ?_
        exact v_iret h pX2_endOfToken_0 15 hR hret rfl (P) rfl ⟨vI (by first | (exact congrArg nI (by rw [← h3, sc_L (by omega)])) | (exact congrArg nI (by rw [← h3]; exact (sc_f (by assumption)).symm))), rfl⟩
      · skip
        refine v_aload_n h pX2_endOfToken_0 8 rfl 0 rfl rfl (v_iload_n h pX2_endOfToken_0 9 rfl 2 rfl rfl ?_)
        refine v_callV h pX2_endOfToken_0 10 mX2_93 (As := [.int (nI e)]) (st := []) (kX2_isTogether _ _ cI cS a P e L hL hLb (by omega)) v0B v0C (vEmb_rf _ _) 0 rfl rfl rfl rfl rfl rfl rfl (vDet_k ?_)
        show V K (tW cI a P) 17 [(0, .ref (a 0)), (1, .int (nI f)), (2, .int (nI e))] [.int (bI (tgB (P 0) L e))]
        refine v_bif_eq (tgt := 26) h pX2_endOfToken_0 11 rfl rfl (fun c2 => ?_) (fun c2 => ?_)
        · skip
          refine v_iload_n h pX2_endOfToken_0 14 rfl 2 rfl rfl ?_
          exact v_iret h pX2_endOfToken_0 15 hR hret rfl (P) rfl ⟨vI (by first | (exact congrArg nI (by rw [← h3, sc_L (by omega)])) | (exact congrArg nI (by rw [← h3]; exact (sc_f (by assumption)).symm))), rfl⟩
        · skip
          refine v_iinc h pX2_endOfToken_0 12 (v := nI (e + 1)) (lv' := [(2, .int (nI (e + 1))), (0, .ref (a 0)), (1, .int (nI f))]) rfl 2 rfl hnL rfl rfl (nI_1 e) (v_goto (tgt := 4) h pX2_endOfToken_0 13 rfl rfl (v_lv [1, 2, 0] (lv' := [(0, .ref (a 0)), (1, .int (nI f)), (2, .int (nI (e + 1)))]) rfl ?_))
          exact ihA (e + 1) (by omega) (by omega) (by rw [← h3]; exact (sc_t (q := fun i => tgB (P 0) L i) (by omega) c2).symm)
  exact LA (L + 1) (f + 1) (by omega) (by omega) (en_g hf).symm
set_option maxHeartbeats 300000 in
set_option maxRecDepth 100000 in
theorem kX2_numberOf (l : Launch) (D : va_G) (cI cS : ClassId) (a : Nat → Nat) (P : Nat → Nat → Int32) (f L : Nat) (hf : f < L) (hLb : L ≤ 120) : vDet l D (vT cI cS) yX2_numberOf cX2_numberOf 5 (some .int) 1 20 (tW cI a) [.ref (a 0), .int (nI f), .int (nI (en (P 0) L f))] P (some (.int (nvC (P 0) L f))) (P) := by
  refine vMet_of (by decide) rfl ?_
  intro K hl hD hnL hret h hR hEx
  subst hl hD
  show V K (tW cI a P) 0 [(0, .ref (a 0)), (1, .int (nI f)), (2, .int (nI (en (P 0) L f)))] []
  have hel := en_le (T := P 0) (Nat.le_of_lt hf)
  have heg := en_ge (P 0) L f
  refine v_iconst h pX2_numberOf_0 0 rfl ki_0 (v_istore_n h pX2_numberOf_0 1 (lv' := [(3, .int 0), (0, .ref (a 0)), (1, .int (nI f)), (2, .int (nI (en (P 0) L f)))]) rfl rfl hnL rfl rfl (v_iload_n h pX2_numberOf_0 2 rfl 2 rfl rfl (v_istore h pX2_numberOf_0 3 (lv' := [(4, .int (nI f)), (3, .int 0), (0, .ref (a 0)), (1, .int (nI f)), (2, .int (nI (en (P 0) L f)))]) rfl hnL rfl rfl ?_)))
  refine v_lv [2, 3, 4, 1, 0] (lv' := [(0, .ref (a 0)), (1, .int (nI f)), (2, .int (nI (en (P 0) L f))), (3, .int 0), (4, .int (nI f))]) rfl ?_
  have LA : ∀ (m k : Nat), f + k ≤ en (P 0) L f → en (P 0) L f + 1 ≤ f + k + m → (k = 0 ∨ tk (P 0) L f = 2) → V K (tW cI a P) 5 [(0, .ref (a 0)), (1, .int (nI f)), (2, .int (nI (en (P 0) L f))), (3, .int (nuC (P 0) f k)), (4, .int (nI (f + k)))] [] := by
    intro m
    induction m with
    | zero => exact fun k h1 h2 h3 => absurd h2 (by omega)
    | succ m ihA =>
      intro k h1 h2 h3
      refine v_iload h pX2_numberOf_0 4 rfl 4 rfl (v_iload_n h pX2_numberOf_0 5 rfl 2 rfl rfl ?_)
      refine v_ncmp_ge (a := f + k) (b := en (P 0) L f) (tgt := 52) h pX2_numberOf_0 6 rfl rfl (by omega) (by omega) (fun c1 => ?_) (fun c1 => ?_)
      · skip
        refine v_iload_n h pX2_numberOf_0 28 rfl 3 rfl rfl ?_
        exact v_iret h pX2_numberOf_0 29 hR hret rfl (P) rfl ⟨vI (by first | (exact nv_e h3 hf (by omega)) | (exact nv_f h3 hf (by omega) (by assumption))), rfl⟩
      · skip
        refine v_aload_n h pX2_numberOf_0 7 rfl 0 rfl rfl (v_get h pX2_numberOf_0 8 fX2_9 0 rfl rfl rfl (v_iload h pX2_numberOf_0 9 rfl 4 rfl (v_iald h pX2_numberOf_0 10 (f + k) 1 0 rfl rfl rfl rfl rfl (by omega) ?_)))
        refine v_callS h pX2_numberOf_0 11 mX2_113 (As := [.int (P 0 (f + k))]) (st := []) (kX2_isDigit _ _ cI cS (P 0 (f + k))) v0B v0C (vEmb_u _) rfl rfl rfl rfl rfl (vDet_k ?_)
        show V K (tW cI a P) 21 [(0, .ref (a 0)), (1, .int (nI f)), (2, .int (nI (en (P 0) L f))), (3, .int (nuC (P 0) f k)), (4, .int (nI (f + k)))] [.int (bI (dgB (P 0 (f + k))))]
        refine v_bif_eq (tgt := 52) h pX2_numberOf_0 12 rfl rfl (fun c2 => ?_) (fun c2 => ?_)
        · skip
          refine v_iload_n h pX2_numberOf_0 28 rfl 3 rfl rfl ?_
          exact v_iret h pX2_numberOf_0 29 hR hret rfl (P) rfl ⟨vI (by first | (exact nv_e h3 hf (by omega)) | (exact nv_f h3 hf (by omega) (by assumption))), rfl⟩
        · skip
          refine v_sipush h pX2_numberOf_0 13 rfl ks_1000 (v_iload_n h pX2_numberOf_0 14 rfl 3 rfl rfl (v_bipush h pX2_numberOf_0 15 rfl kb_10 (v_imul h pX2_numberOf_0 16 rfl (v_aload_n h pX2_numberOf_0 17 rfl 0 rfl rfl (v_get h pX2_numberOf_0 18 fX2_9 0 rfl rfl rfl ?_)))))
          refine v_iload h pX2_numberOf_0 19 rfl 4 rfl (v_iald h pX2_numberOf_0 20 (f + k) 1 0 rfl rfl rfl rfl rfl (by omega) (v_iadd h pX2_numberOf_0 21 rfl (v_bipush h pX2_numberOf_0 22 rfl kb_48 (v_isub h pX2_numberOf_0 23 rfl (v_mmin2 h pX2_numberOf_0 24 wm_771 wm_193 wm_194 wm_195 rfl rfl rfl ?_)))))
          refine v_istore_n h pX2_numberOf_0 25 (lv' := [(3, .int (mn 1000 ((((nuC (P 0) f k) * 10) + (P 0 (f + k))) - 48))), (0, .ref (a 0)), (1, .int (nI f)), (2, .int (nI (en (P 0) L f))), (4, .int (nI (f + k)))]) rfl rfl hnL rfl rfl (v_iinc h pX2_numberOf_0 26 (v := nI (f + (k + 1))) (lv' := [(4, .int (nI (f + (k + 1)))), (3, .int (mn 1000 ((((nuC (P 0) f k) * 10) + (P 0 (f + k))) - 48))), (0, .ref (a 0)), (1, .int (nI f)), (2, .int (nI (en (P 0) L f)))]) rfl 4 rfl hnL rfl rfl (nI_1 (f + k)) (v_goto (tgt := 5) h pX2_numberOf_0 27 rfl rfl (v_lv [2, 3, 4, 1, 0] (lv' := [(0, .ref (a 0)), (1, .int (nI f)), (2, .int (nI (en (P 0) L f))), (3, .int (mn 1000 ((((nuC (P 0) f k) * 10) + (P 0 (f + k))) - 48))), (4, .int (nI (f + (k + 1))))]) rfl ?_)))
          exact ihA (k + 1) (by omega) (by omega) (Or.inr (nu_2 hf h3 c2))
  exact LA (en (P 0) L f + 1) 0 (by omega) (by omega) (Or.inl rfl)
set_option maxHeartbeats 300000 in
set_option maxRecDepth 100000 in
theorem kX2_sortOf (l : Launch) (D : va_G) (cI cS : ClassId) (a : Nat → Nat) (x : xS) (P : Nat → Nat → Int32) (f L : Nat) (hf : f < L) (hLb : L ≤ 120) : vMet l D (vT cI cS) yX2_sortOf cX2_sortOf 4 (some .int) 5 109 (tW cI a) (exA x) [.ref (a 0), .int (nI f), .int (nI (en (P 0) L f))] P (fun v u => v = some (.int (nI (so (P 0) L f))) ∧ u = P) := by
  refine vMet_of (by decide) rfl ?_
  intro K hl hD hnL hret h hR hEx
  subst hl hD
  show V K (tW cI a P) 0 [(0, .ref (a 0)), (1, .int (nI f)), (2, .int (nI (en (P 0) L f)))] []
  have hel := en_le (T := P 0) (Nat.le_of_lt hf)
  have heg := en_ge (P 0) L f
  refine v_aload_n h pX2_sortOf_0 0 rfl 0 rfl rfl (v_get h pX2_sortOf_0 1 fX2_9 0 rfl rfl rfl (v_iload_n h pX2_sortOf_0 2 rfl 1 rfl rfl (v_iald h pX2_sortOf_0 3 f 1 0 rfl rfl rfl rfl rfl (by omega) ?_)))
  refine v_callS h pX2_sortOf_0 4 mX2_113 (As := [.int (P 0 f)]) (st := []) (kX2_isDigit _ _ cI cS (P 0 f)) v0B v0C (vEmb_u _) rfl rfl rfl rfl rfl (vDet_k ?_)
  show V K (tW cI a P) 9 [(0, .ref (a 0)), (1, .int (nI f)), (2, .int (nI (en (P 0) L f)))] [.int (bI (dgB (P 0 f)))]
  refine v_bif_eq (tgt := 15) h pX2_sortOf_0 5 rfl rfl (fun c1 => ?_) (fun c1 => ?_)
  · skip
    refine v_aload_n h pX2_sortOf_0 8 rfl 0 rfl rfl (v_get h pX2_sortOf_0 9 fX2_9 0 rfl rfl rfl (v_iload_n h pX2_sortOf_0 10 rfl 1 rfl rfl (v_iald h pX2_sortOf_0 11 f 1 0 rfl rfl rfl rfl rfl (by omega) (v_bipush h pX2_sortOf_0 12 rfl kb_59 ?_))))
    refine v_icmp_ne (tgt := 29) h pX2_sortOf_0 13 rfl rfl (fun c2 => ?_) (fun c2 => ?_)
    · skip
      refine v_iconst h pX2_sortOf_0 16 rfl ki_0 (v_istore_n h pX2_sortOf_0 17 (lv' := [(3, .int 0), (0, .ref (a 0)), (1, .int (nI f)), (2, .int (nI (en (P 0) L f)))]) rfl rfl hnL rfl rfl ?_)
      refine v_lv [1, 2, 3, 0] (lv' := [(0, .ref (a 0)), (1, .int (nI f)), (2, .int (nI (en (P 0) L f))), (3, .int 0)]) rfl ?_
      have LA : ∀ (m iA : Nat), iA ≤ 14 → (∀ j, j < iA → tx (P 0) j f (en (P 0) L f) = false) → 14 + 1 ≤ iA + m → V K (tW cI a P) 31 [(0, .ref (a 0)), (1, .int (nI f)), (2, .int (nI (en (P 0) L f))), (3, .int (nI iA))] [] := by
        intro m
        induction m with
        | zero => exact fun iA h1 hh h2 => absurd h2 (by omega)
        | succ m ihA =>
          intro iA hleA hhA hltA
          refine v_iload_n h pX2_sortOf_0 18 rfl 3 rfl rfl (v_bipush h pX2_sortOf_0 19 rfl kb_14 ?_)
          refine v_ncmp_ge (a := iA) (b := 14) (tgt := 58) h pX2_sortOf_0 20 rfl rfl (by omega) (by omega) (fun c4 => ?_) (fun c4 => ?_)
          · skip
            refine v_bipush h pX2_sortOf_1 0 rfl kb_17 ?_
            exact v_iret h pX2_sortOf_1 1 hR hret rfl (P) rfl ⟨vI (by first | (exact congrArg nI (so_14 hf (by assumption)).symm) | (exact congrArg nI (so_15 hf (by assumption)).symm) | (exact congrArg nI (so_w hf (by assumption) (by assumption) hhA (by assumption) (by omega)).symm) | (exact congrArg nI (so_17 hf (by assumption) (by assumption) (fun j hj => hhA j (by omega))).symm)), rfl⟩
          · skip
            refine v_aload_n h pX2_sortOf_0 21 rfl 0 rfl rfl (v_iload_n h pX2_sortOf_0 22 rfl 3 rfl rfl ?_)
            refine v_callS h pX2_sortOf_0 23 mX2_116 (As := [.int (nI iA)]) (st := [.ref (a 0)]) (kX2_textOf _ _ cI cS x iA (by omega)) (exA_B _) (exA_C hEx.2) (vEmb_u _) rfl rfl rfl rfl rfl (vDet_k ?_)
            show V K (tW cI a P) 42 [(0, .ref (a 0)), (1, .int (nI f)), (2, .int (nI (en (P 0) L f))), (3, .int (nI iA))] [.ref (x.1 iA), .ref (a 0)]
            refine v_iload_n h pX2_sortOf_0 24 rfl 1 rfl rfl (v_iload_n h pX2_sortOf_0 25 rfl 2 rfl rfl ?_)
            refine v_callV h pX2_sortOf_0 26 mX2_120 (As := [.ref (x.1 iA), .int (nI f), .int (nI (en (P 0) L f))]) (st := []) (kX2_isText _ _ cI cS a x P iA f (en (P 0) L f) (by omega) (by omega) (by omega)) (exA_B _) (exA_C hEx.2) (vEmb_rf _ _) 0 rfl rfl rfl rfl rfl rfl rfl (vDet_k ?_)
            show V K (tW cI a P) 47 [(0, .ref (a 0)), (1, .int (nI f)), (2, .int (nI (en (P 0) L f))), (3, .int (nI iA))] [.int (bI (tx (P 0) iA f (en (P 0) L f)))]
            refine v_bif_eq (tgt := 52) h pX2_sortOf_0 27 rfl rfl (fun c5 => ?_) (fun c5 => ?_)
            · skip
              refine v_iinc h pX2_sortOf_0 30 (v := nI (iA + 1)) (lv' := [(3, .int (nI (iA + 1))), (0, .ref (a 0)), (1, .int (nI f)), (2, .int (nI (en (P 0) L f)))]) rfl 3 rfl hnL rfl rfl (nI_1 iA) (v_goto (tgt := 31) h pX2_sortOf_0 31 rfl rfl (v_lv [1, 2, 3, 0] (lv' := [(0, .ref (a 0)), (1, .int (nI f)), (2, .int (nI (en (P 0) L f))), (3, .int (nI (iA + 1)))]) rfl ?_))
              exact ihA (iA + 1) (by omega) (fun j hj => (Nat.lt_succ_iff_lt_or_eq.mp hj).elim (hhA j) (fun e => by rw [e]; exact c5)) (by omega)
            · skip
              refine v_iload_n h pX2_sortOf_0 28 rfl 3 rfl rfl ?_
              exact v_iret h pX2_sortOf_0 29 hR hret rfl (P) rfl ⟨vI (by first | (exact congrArg nI (so_14 hf (by assumption)).symm) | (exact congrArg nI (so_15 hf (by assumption)).symm) | (exact congrArg nI (so_w hf (by assumption) (by assumption) hhA (by assumption) (by omega)).symm) | (exact congrArg nI (so_17 hf (by assumption) (by assumption) (fun j hj => hhA j (by omega))).symm)), rfl⟩
      exact LA (14 + 1) 0 (by omega) (fun j hj => absurd hj (by omega)) (by omega)
    · skip
      refine v_bipush h pX2_sortOf_0 14 rfl kb_15 ?_
      exact v_iret h pX2_sortOf_0 15 hR hret rfl (P) rfl ⟨vI (by first | (exact congrArg nI (so_14 hf (by assumption)).symm) | (exact congrArg nI (so_15 hf (by assumption)).symm) | (exact congrArg nI (so_w hf (by assumption) (by assumption) hhA (by assumption) (by omega)).symm) | (exact congrArg nI (so_17 hf (by assumption) (by assumption) (fun j hj => hhA j (by omega))).symm)), rfl⟩
  · skip
    refine v_bipush h pX2_sortOf_0 6 rfl kb_14 ?_
    exact v_iret h pX2_sortOf_0 7 hR hret rfl (P) rfl ⟨vI (by first | (exact congrArg nI (so_14 hf (by assumption)).symm) | (exact congrArg nI (so_15 hf (by assumption)).symm) | (exact congrArg nI (so_w hf (by assumption) (by assumption) hhA (by assumption) (by omega)).symm) | (exact congrArg nI (so_17 hf (by assumption) (by assumption) (fun j hj => hhA j (by omega))).symm)), rfl⟩
