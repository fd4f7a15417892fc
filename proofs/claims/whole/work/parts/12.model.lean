set_option maxHeartbeats 300000 in
set_option maxRecDepth 100000 in
theorem kX4_isIn (l : Launch) (D : va_G) (cI cS : ClassId)   (x lo hi : Int32) : vDet l D (vT cI cS) yX4_isIn cX4_isIn 6 (some .boolean) 0 0 (fun _ : Unit => ([] : va_W)) [.long x.toInt64, .long lo.toInt64, .long hi.toInt64] () (some (.int (bI (inB x lo hi)))) (()) := by
  refine vMet_of (by decide) rfl ?_
  intro K hl hD hnL hret h hR hEx
  subst hl hD
  show V K (([] : va_W)) 0 [(0, .long x.toInt64), (2, .long lo.toInt64), (4, .long hi.toInt64)] []
  refine v_lload_n h pX4_isIn_0 0 rfl 0 rfl rfl (v_lload_n h pX4_isIn_0 1 rfl 1 rfl rfl (v_lcmp h pX4_isIn_0 2 rfl ?_))
  refine v_if_lt (tgt := 17) h pX4_isIn_0 3 rfl rfl (fun c1 => ?_) (fun c1 => ?_)
  · skip
    refine v_iconst h pX4_isIn_0 10 rfl ki_0 ?_
    exact v_zret h pX4_isIn_0 11 (Or.inl rfl) hR hret rfl (()) rfl ⟨vI (by (simp only [lg_lt, lg_gt, lt_64] at c1; simp [inB, bI, c1, -Int32.not_lt])), rfl⟩
  · skip
    refine v_lload_n h pX4_isIn_0 4 rfl 0 rfl rfl (v_lload h pX4_isIn_0 5 rfl 2 rfl (v_lcmp h pX4_isIn_0 6 rfl ?_))
    refine v_if_gt (tgt := 17) h pX4_isIn_0 7 rfl rfl (fun c2 => ?_) (fun c2 => ?_)
    · skip
      refine v_iconst h pX4_isIn_0 10 rfl ki_0 ?_
      exact v_zret h pX4_isIn_0 11 (Or.inl rfl) hR hret rfl (()) rfl ⟨vI (by (simp only [lg_lt, lg_gt, lt_64] at c1 c2; simp [inB, bI, c1, c2, -Int32.not_lt])), rfl⟩
    · skip
      refine v_iconst h pX4_isIn_0 8 rfl ki_1 (v_goto (tgt := 18) h pX4_isIn_0 9 rfl rfl ?_)
      exact v_zret h pX4_isIn_0 11 (Or.inr rfl) hR hret rfl (()) rfl ⟨vI (by (simp only [lg_lt, lg_gt, lt_64] at c1 c2; simp [inB, bI, c1, c2, -Int32.not_lt])), rfl⟩
set_option maxHeartbeats 300000 in
set_option maxRecDepth 100000 in
theorem kX4_least (l : Launch) (D : va_G) (cI cS : ClassId)   (x y : Int32) : vDet l D (vT cI cS) yX4_least cX4_least 2 (some .int) 0 0 (fun _ : Unit => ([] : va_W)) [.int x, .int y] () (some (.int (mn x y))) (()) := by
  refine vMet_of (by decide) rfl ?_
  intro K hl hD hnL hret h hR hEx
  subst hl hD
  show V K (([] : va_W)) 0 [(0, .int x), (1, .int y)] []
  refine v_iload_n h pX4_least_0 0 rfl 0 rfl rfl (v_iload_n h pX4_least_0 1 rfl 1 rfl rfl ?_)
  refine v_icmp_ge2 (tgt := 9) h pX4_least_0 2 rfl rfl (fun c1 => ?_) (fun c1 => ?_)
  · skip
    refine v_iload_n h pX4_least_0 5 rfl 1 rfl rfl ?_
    exact v_iret h pX4_least_0 6 hR hret rfl (()) rfl ⟨vI (by (have e := least_mn x y; simp [c1, -Int32.not_lt] at e; exact e)), rfl⟩
  · skip
    refine v_iload_n h pX4_least_0 3 rfl 0 rfl rfl (v_goto (tgt := 10) h pX4_least_0 4 rfl rfl ?_)
    exact v_iret h pX4_least_0 6 hR hret rfl (()) rfl ⟨vI (by (have e := least_mn x y; simp [c1, -Int32.not_lt] at e; exact e)), rfl⟩
set_option maxHeartbeats 300000 in
set_option maxRecDepth 100000 in
theorem kX4_greatest (l : Launch) (D : va_G) (cI cS : ClassId)   (x y : Int32) : vDet l D (vT cI cS) yX4_greatest cX4_greatest 2 (some .int) 0 0 (fun _ : Unit => ([] : va_W)) [.int x, .int y] () (some (.int (mx x y))) (()) := by
  refine vMet_of (by decide) rfl ?_
  intro K hl hD hnL hret h hR hEx
  subst hl hD
  show V K (([] : va_W)) 0 [(0, .int x), (1, .int y)] []
  refine v_iload_n h pX4_greatest_0 0 rfl 0 rfl rfl (v_iload_n h pX4_greatest_0 1 rfl 1 rfl rfl ?_)
  refine v_icmp_le2 (tgt := 9) h pX4_greatest_0 2 rfl rfl (fun c1 => ?_) (fun c1 => ?_)
  · skip
    refine v_iload_n h pX4_greatest_0 5 rfl 1 rfl rfl ?_
    exact v_iret h pX4_greatest_0 6 hR hret rfl (()) rfl ⟨vI (by (have e := great_mx x y; simp [c1, -Int32.not_lt] at e; exact e)), rfl⟩
  · skip
    refine v_iload_n h pX4_greatest_0 3 rfl 0 rfl rfl (v_goto (tgt := 10) h pX4_greatest_0 4 rfl rfl ?_)
    exact v_iret h pX4_greatest_0 6 hR hret rfl (()) rfl ⟨vI (by (have e := great_mx x y; simp [c1, -Int32.not_lt] at e; exact e)), rfl⟩
set_option maxHeartbeats 300000 in
set_option maxRecDepth 100000 in
theorem kX4_isBed (l : Launch) (D : va_G) (cI cS : ClassId)   (x : Int32) : vDet l D (vT cI cS) yX4_isBed cX4_isBed 1 (some .boolean) 0 0 (fun _ : Unit => ([] : va_W)) [.int x] () (some (.int (bI (inB x 0 5)))) (()) := by
  refine vMet_of (by decide) rfl ?_
  intro K hl hD hnL hret h hR hEx
  subst hl hD
  show V K (([] : va_W)) 0 [(0, .int x)] []
  refine v_iload_n h pX4_isBed_0 0 rfl 0 rfl rfl ?_
  refine v_if_lt (tgt := 14) h pX4_isBed_0 1 rfl rfl (fun c1 => ?_) (fun c1 => ?_)
  · skip
    refine v_iconst h pX4_isBed_0 7 rfl ki_0 ?_
    exact v_zret h pX4_isBed_0 8 (Or.inl rfl) hR hret rfl (()) rfl ⟨vI (by simp [inB, bI, ← lt6, c1, -Int32.not_lt]), rfl⟩
  · skip
    refine v_iload_n h pX4_isBed_0 2 rfl 0 rfl rfl (v_bipush h pX4_isBed_0 3 rfl kb_6 ?_)
    refine v_icmp_ge2 (tgt := 14) h pX4_isBed_0 4 rfl rfl (fun c2 => ?_) (fun c2 => ?_)
    · skip
      refine v_iconst h pX4_isBed_0 7 rfl ki_0 ?_
      exact v_zret h pX4_isBed_0 8 (Or.inl rfl) hR hret rfl (()) rfl ⟨vI (by simp [inB, bI, ← lt6, c1, c2, -Int32.not_lt]), rfl⟩
    · skip
      refine v_iconst h pX4_isBed_0 5 rfl ki_1 (v_goto (tgt := 15) h pX4_isBed_0 6 rfl rfl ?_)
      exact v_zret h pX4_isBed_0 8 (Or.inr rfl) hR hret rfl (()) rfl ⟨vI (by simp [inB, bI, ← lt6, c1, c2, -Int32.not_lt]), rfl⟩
set_option maxHeartbeats 300000 in
set_option maxRecDepth 100000 in
theorem kX4_isSheet (l : Launch) (D : va_G) (cI cS : ClassId)   (x : Int32) : vDet l D (vT cI cS) yX4_isSheet cX4_isSheet 1 (some .boolean) 0 0 (fun _ : Unit => ([] : va_W)) [.int x] () (some (.int (bI (inB x 0 3)))) (()) := by
  refine vMet_of (by decide) rfl ?_
  intro K hl hD hnL hret h hR hEx
  subst hl hD
  show V K (([] : va_W)) 0 [(0, .int x)] []
  refine v_iload_n h pX4_isSheet_0 0 rfl 0 rfl rfl ?_
  refine v_if_lt (tgt := 13) h pX4_isSheet_0 1 rfl rfl (fun c1 => ?_) (fun c1 => ?_)
  · skip
    refine v_iconst h pX4_isSheet_0 7 rfl ki_0 ?_
    exact v_zret h pX4_isSheet_0 8 (Or.inl rfl) hR hret rfl (()) rfl ⟨vI (by simp [inB, bI, ← lt4, c1, -Int32.not_lt]), rfl⟩
  · skip
    refine v_iload_n h pX4_isSheet_0 2 rfl 0 rfl rfl (v_iconst h pX4_isSheet_0 3 rfl ki_4 ?_)
    refine v_icmp_ge2 (tgt := 13) h pX4_isSheet_0 4 rfl rfl (fun c2 => ?_) (fun c2 => ?_)
    · skip
      refine v_iconst h pX4_isSheet_0 7 rfl ki_0 ?_
      exact v_zret h pX4_isSheet_0 8 (Or.inl rfl) hR hret rfl (()) rfl ⟨vI (by simp [inB, bI, ← lt4, c1, c2, -Int32.not_lt]), rfl⟩
    · skip
      refine v_iconst h pX4_isSheet_0 5 rfl ki_1 (v_goto (tgt := 14) h pX4_isSheet_0 6 rfl rfl ?_)
      exact v_zret h pX4_isSheet_0 8 (Or.inr rfl) hR hret rfl (()) rfl ⟨vI (by simp [inB, bI, ← lt4, c1, c2, -Int32.not_lt]), rfl⟩
set_option maxHeartbeats 300000 in
set_option maxRecDepth 100000 in
theorem kX4_at (l : Launch) (D : va_G) (cI cS : ClassId)   (y w : Nat) : vDet l D (vT cI cS) yX4_at cX4_at 2 (some .int) 0 0 (fun _ : Unit => ([] : va_W)) [.int (nI y), .int (nI w)] () (some (.int (nI (16 + 6 * y + w)))) (()) := by
  refine vMet_of (by decide) rfl ?_
  intro K hl hD hnL hret h hR hEx
  subst hl hD
  show V K (([] : va_W)) 0 [(0, .int (nI y)), (1, .int (nI w))] []
  refine v_bipush h pX4_at_0 0 rfl kb_16 (v_bipush h pX4_at_0 1 rfl kb_6 (v_iload_n h pX4_at_0 2 rfl 0 rfl rfl (v_imuln h pX4_at_0 3 6 y rfl (v_iaddn h pX4_at_0 4 16 (6 * y) rfl (v_iload_n h pX4_at_0 5 rfl 1 rfl rfl ?_)))))
  refine v_iaddn h pX4_at_0 6 (16 + 6 * y) w rfl ?_
  exact v_iret h pX4_at_0 7 hR hret rfl (()) rfl ⟨vI rfl, rfl⟩
set_option maxHeartbeats 300000 in
set_option maxRecDepth 100000 in
theorem kX4_isOyster (l : Launch) (D : va_G) (cI cS : ClassId) (b : Nat → Nat) (E Kp Bf As Q : Nat → Nat → Int32) (n : Nat) (hN : E 9 0 = nI n) (y : Int32) : vDet l D (vT cI cS) yX4_isOyster cX4_isOyster 2 (some .boolean) 0 0 (mW cI b) [.ref (b 0), .int y] (E, Kp, Bf, As, Q) (some (.int (bI (oyB y n)))) ((E, Kp, Bf, As, Q)) := by
  refine vMet_of (by decide) rfl ?_
  intro K hl hD hnL hret h hR hEx
  subst hl hD
  show V K (mW cI b (E, Kp, Bf, As, Q)) 0 [(0, .ref (b 0)), (1, .int y)] []
  refine v_iload_n h pX4_isOyster_0 0 rfl 1 rfl rfl ?_
  refine v_if_lt (tgt := 18) h pX4_isOyster_0 1 rfl rfl (fun c1 => ?_) (fun c1 => ?_)
  · skip
    refine v_iconst h pX4_isOyster_0 10 rfl ki_0 ?_
    exact v_zret h pX4_isOyster_0 11 (Or.inl rfl) hR hret rfl ((E, Kp, Bf, As, Q)) rfl ⟨vI (by simp [oyB, bI, c1, ← hN, -Int32.not_lt]), rfl⟩
  · skip
    refine v_iload_n h pX4_isOyster_0 2 rfl 1 rfl rfl (v_aload_n h pX4_isOyster_0 3 rfl 0 rfl rfl (v_get h pX4_isOyster_0 4 fX4_7 0 rfl rfl rfl (v_iconst h pX4_isOyster_0 5 rfl ki_0 (v_iald h pX4_isOyster_0 6 0 1 0 rfl rfl rfl rfl rfl (by omega) (v_top (w := .int (E 9 0)) (congrArg Value.int rfl) ?_)))))
    refine v_icmp_ge2 (tgt := 18) h pX4_isOyster_0 7 rfl rfl (fun c2 => ?_) (fun c2 => ?_)
    · skip
      refine v_iconst h pX4_isOyster_0 10 rfl ki_0 ?_
      exact v_zret h pX4_isOyster_0 11 (Or.inl rfl) hR hret rfl ((E, Kp, Bf, As, Q)) rfl ⟨vI (by simp [oyB, bI, c1, c2, ← hN, -Int32.not_lt]), rfl⟩
    · skip
      refine v_iconst h pX4_isOyster_0 8 rfl ki_1 (v_goto (tgt := 19) h pX4_isOyster_0 9 rfl rfl ?_)
      exact v_zret h pX4_isOyster_0 11 (Or.inr rfl) hR hret rfl ((E, Kp, Bf, As, Q)) rfl ⟨vI (by simp [oyB, bI, c1, c2, ← hN, -Int32.not_lt]), rfl⟩
set_option maxHeartbeats 300000 in
set_option maxRecDepth 100000 in
theorem kX4_its (l : Launch) (D : va_G) (cI cS : ClassId) (b : Nat → Nat) (E Kp Bf As Q : Nat → Nat → Int32) (y w : Nat) (hy : y < 8) (hw : w < 6) : vDet l D (vT cI cS) yX4_its cX4_its 3 (some .int) 0 0 (mW cI b) [.ref (b 0), .int (nI y), .int (nI w)] (E, Kp, Bf, As, Q) (some (.int (E (2 + w) y))) ((E, Kp, Bf, As, Q)) := by
  refine vMet_of (by decide) rfl ?_
  intro K hl hD hnL hret h hR hEx
  subst hl hD
  show V K (mW cI b (E, Kp, Bf, As, Q)) 0 [(0, .ref (b 0)), (1, .int (nI y)), (2, .int (nI w))] []
  refine v_aload_n h pX4_its_0 0 rfl 0 rfl rfl (v_get h pX4_its_0 1 fX4_7 0 rfl rfl rfl (v_bipush h pX4_its_0 2 rfl kb_16 (v_bipush h pX4_its_0 3 rfl kb_6 (v_iload_n h pX4_its_0 4 rfl 1 rfl rfl (v_imuln h pX4_its_0 5 6 y rfl ?_)))))
  refine v_iaddn h pX4_its_0 6 16 (6 * y) rfl (v_iload_n h pX4_its_0 7 rfl 2 rfl rfl (v_iaddn h pX4_its_0 8 (16 + 6 * y) w rfl (v_iald h pX4_its_0 9 (16 + 6 * y + w) 1 0 rfl rfl rfl rfl rfl (by omega) (v_top (w := .int (E (2 + w) y)) (congrArg Value.int (fl_y _ (by omega) (by omega))) ?_))))
  exact v_iret h pX4_its_0 10 hR hret rfl ((E, Kp, Bf, As, Q)) rfl ⟨vI rfl, rfl⟩
set_option maxHeartbeats 300000 in
set_option maxRecDepth 100000 in
theorem kX4_finds (l : Launch) (D : va_G) (cI cS : ClassId) (b : Nat → Nat) (E Kp Bf As Q : Nat → Nat → Int32) (w : Nat) (hw : w ≤ 6) (v : Int32) (hv : (-1000001) - v + 1 = nI (w + 1)) : vDet l D (vT cI cS) yX4_finds cX4_finds 2 (some .int) 0 0 (mW cI b) [.ref (b 0), .int v] (E, Kp, Bf, As, Q) (some (.int v)) ((E, Kp, Bf, As, fndS Q w)) := by
  refine vMet_of (by decide) rfl ?_
  intro K hl hD hnL hret h hR hEx
  subst hl hD
  show V K (mW cI b (E, Kp, Bf, As, Q)) 0 [(0, .ref (b 0)), (1, .int v)] []
  refine v_aload_n h pX4_finds_0 0 rfl 0 rfl rfl (v_get h pX4_finds_0 1 fX4_22 0 rfl rfl rfl (v_iconst h pX4_finds_0 2 rfl ki_0 (v_dup2 h pX4_finds_0 3 rfl rfl rfl (v_iald h pX4_finds_0 4 0 5 0 rfl rfl rfl rfl rfl (by omega) (v_iconst h pX4_finds_0 5 rfl ki_1 ?_)))))
  refine v_iadd h pX4_finds_0 6 rfl (v_iast h pX4_finds_0 7 0 5 0 (ws' := mW cI b (E, Kp, Bf, As, up Q 0 0 ((Q 0 0) + 1))) rfl rfl rfl rfl rfl (by omega) mW_q0 (v_aload_n h pX4_finds_0 8 rfl 0 rfl rfl (v_get h pX4_finds_0 9 fX4_22 0 rfl rfl rfl (v_ldc h pX4_finds_0 10 wm_104 rfl (v_iload_n h pX4_finds_0 11 rfl 1 rfl rfl ?_)))))
  refine v_isub h pX4_finds_0 12 rfl (v_iconst h pX4_finds_0 13 rfl ki_1 (v_iadd h pX4_finds_0 14 rfl (v_dup2 h pX4_finds_0 15 rfl rfl rfl (v_iald h pX4_finds_0 16 (w + 1) 5 0 rfl rfl rfl rfl hv (by omega) (v_top (w := .int ((upd (Q 0) 0 ((Q 0 0) + 1)) (w + 1))) rfl ?_)))))
  refine v_top (w := .int (Q 0 (w + 1))) (congrArg Value.int (upd_n _ _ (by omega))) (v_iconst h pX4_finds_0 17 rfl ki_1 (v_iadd h pX4_finds_0 18 rfl (v_iast h pX4_finds_0 19 (w + 1) 5 0 (ws' := mW cI b (E, Kp, Bf, As, up (up Q 0 0 ((Q 0 0) + 1)) 0 (w + 1) ((Q 0 (w + 1)) + 1))) rfl rfl rfl rfl hv (by omega) mW_q0 (v_iload_n h pX4_finds_0 20 rfl 1 rfl rfl ?_))))
  exact v_iret h pX4_finds_0 21 hR hret rfl ((E, Kp, Bf, As, up (up Q 0 0 ((Q 0 0) + 1)) 0 (w + 1) ((Q 0 (w + 1)) + 1))) rfl ⟨vI rfl, rfl⟩
set_option maxHeartbeats 300000 in
set_option maxRecDepth 100000 in
theorem kX4_becomes (l : Launch) (D : va_G) (cI cS : ClassId) (b : Nat → Nat) (E Kp Bf As Q : Nat → Nat → Int32) (k : Nat) (hk : k < 74) (r i : Nat) (hkr : flR k = r) (hki : flI k = i) (hkv : fl E k = E r i) (v : Int32) : vDet l D (vT cI cS) yX4_becomes cX4_becomes 4 (some .int) 0 0 (mW cI b) [.ref (b 0), .int (nI k), .int v] (E, Kp, Bf, As, Q) (some (.int (E r i))) ((up E r i v, Kp, Bf, As, Q)) := by
  refine vMet_of (by decide) rfl ?_
  intro K hl hD hnL hret h hR hEx
  subst hl hD
  show V K (mW cI b (E, Kp, Bf, As, Q)) 0 [(0, .ref (b 0)), (1, .int (nI k)), (2, .int v)] []
  refine v_aload_n h pX4_becomes_0 0 rfl 0 rfl rfl (v_get h pX4_becomes_0 1 fX4_7 0 rfl rfl rfl (v_iload_n h pX4_becomes_0 2 rfl 1 rfl rfl (v_iald h pX4_becomes_0 3 k 1 0 rfl rfl rfl rfl rfl (by omega) (v_top (w := .int (E r i)) (congrArg Value.int hkv) (v_istore_n h pX4_becomes_0 4 (lv' := [(3, .int (E r i)), (0, .ref (b 0)), (1, .int (nI k)), (2, .int v)]) rfl rfl hnL rfl rfl ?_)))))
  refine v_aload_n h pX4_becomes_0 5 rfl 1 rfl rfl (v_get h pX4_becomes_0 6 fX4_7 0 rfl rfl rfl (v_iload_n h pX4_becomes_0 7 rfl 2 rfl rfl (v_iload_n h pX4_becomes_0 8 rfl 3 rfl rfl (v_iast h pX4_becomes_0 9 k 1 0 (ws' := mW cI b (up E r i v, Kp, Bf, As, Q)) rfl rfl rfl rfl rfl (by omega) (mW_s k r i hkr hki) (v_iload_n h pX4_becomes_0 10 rfl 0 rfl rfl ?_)))))
  exact v_iret h pX4_becomes_0 11 hR hret rfl ((up E r i v, Kp, Bf, As, Q)) rfl ⟨vI rfl, rfl⟩
set_option maxHeartbeats 300000 in
set_option maxRecDepth 100000 in
theorem kX4_copyRow (l : Launch) (D : va_G) (cI cS : ClassId) (p q : Nat) (R : Nat → Nat → Int32)  : vDet l D (vT cI cS) yX4_copyRow cX4_copyRow 3 none 0 0 (rW cI p q) [.ref p, .ref q] R (none) (cpr R) := by
  refine vMet_of (by decide) rfl ?_
  intro K hl hD hnL hret h hR hEx
  subst hl hD
  show V K (rW cI p q R) 0 [(0, .ref p), (1, .ref q)] []
  refine v_iconst h pX4_copyRow_0 0 rfl ki_0 (v_istore_n h pX4_copyRow_0 1 (lv' := [(2, .int 0), (0, .ref p), (1, .ref q)]) rfl rfl hnL rfl rfl ?_)
  refine v_lv [1, 2, 0] (lv' := [(0, .ref p), (1, .ref q), (2, .int 0)]) rfl ?_
  have L1 : ∀ (m i1 : Nat), i1 ≤ 74 → 74 + 1 ≤ i1 + m → V K (rW cI p q (cprK R i1)) 2 [(0, .ref p), (1, .ref q), (2, .int (nI i1))] [] := by
    intro m
    induction m with
    | zero => exact fun i1 h1 h2 => absurd h2 (by omega)
    | succ m ih1 =>
      intro i1 hle1 hlt1
      generalize hSA : cprK R i1 = SA
      have h0 : SA 0 = R 0 := by rw [← hSA]; rfl
      refine v_iload_n h pX4_copyRow_0 2 rfl 2 rfl rfl (v_bipush h pX4_copyRow_0 3 rfl kb_74 ?_)
      refine v_ncmp_ge (a := i1) (b := 74) (tgt := 20) h pX4_copyRow_0 4 rfl rfl (by omega) (by omega) (fun c3 => ?_) (fun c3 => ?_)
      · skip
        obtain rfl : 74 = i1 := by omega
        refine v_row (ws' := rW cI p q (cpr R)) 1 (R 0) rfl (fun j hj => by rw [← hSA]; exact fillK_in hj) (by rw [← hSA]; rfl) ?_
        exact v_vret h pX4_copyRow_0 13 hR hret rfl (cpr R) rfl ⟨rfl, rfl⟩
      · skip
        refine v_aload_n h pX4_copyRow_0 5 rfl 1 rfl rfl (v_iload_n h pX4_copyRow_0 6 rfl 2 rfl rfl (v_aload_n h pX4_copyRow_0 7 rfl 0 rfl rfl (v_iload_n h pX4_copyRow_0 8 rfl 2 rfl rfl (v_iald h pX4_copyRow_0 9 i1 0 0 rfl rfl rfl rfl rfl (by omega) ?_))))
        refine v_top (w := .int (R 0 i1)) (congrArg Value.int (congrFun h0 _)) (v_iast h pX4_copyRow_0 10 i1 1 0 (ws' := rW cI p q (up SA 1 i1 (R 0 i1))) rfl rfl rfl rfl rfl (by omega) rW_s1 (v_iinc h pX4_copyRow_0 11 (v := nI (i1 + 1)) (lv' := [(2, .int (nI (i1 + 1))), (0, .ref p), (1, .ref q)]) rfl 2 rfl hnL rfl rfl (nI_1 i1) (v_goto (tgt := 2) h pX4_copyRow_0 12 rfl rfl (v_lv [1, 2, 0] (lv' := [(0, .ref p), (1, .ref q), (2, .int (nI (i1 + 1)))]) rfl (v_eqw (ws' := rW cI p q (cprK R (i1 + 1))) (by rw [← hSA]; rw [cprK_s]) ?_)))))
        exact ih1 (i1 + 1) (by omega) (by omega)
  exact L1 (74 + 1) 0 (by omega) (by omega)
