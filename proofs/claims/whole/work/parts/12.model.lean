set_option maxHeartbeats 300000 in
set_option maxRecDepth 100000 in
theorem kX4_isIn (l : Launch) (D : va_G) (cI cS : ClassId)   (x lo hi : Int32) : vDet l D (vT cI cS) yX4_isIn cX4_isIn 6 (some .boolean) 0 0 (fun _ : Unit => ([] : va_W)) [.long x.toInt64, .long lo.toInt64, .long hi.toInt64] () (some (.int (bI (inB x lo hi)))) (()) := by
  refine vMet_of (by decide) rfl ?_
  intro K hl hD hnL hret h hR hEx
  subst hl hD
  show V K (([] : va_W)) 0 [(0, .long x.toInt64), (2, .long lo.toInt64), (4, .long hi.toInt64)] []
  refine v_lload_n h pX4_isIn_0 0 rfl 0 rfl rfl (v_lload_n h pX4_isIn_0 1 rfl 1 rfl rfl (v_lcmp h pX4_isIn_0 2 rfl ?_))
  refine v_if_lt (tgt := 17) h pX4_isIn_0 3 rfl rfl (fun c1 => ?_) (fun c1 => ?_)
  · skip
    refine v_iconst h pX4_isIn_0 10 rfl ki_0 ?_
    exact v_zret h pX4_isIn_0 11 (Or.inl rfl) hR hret rfl (()) rfl ⟨vI (by (simp only [lg_lt, lg_gt, lt_64] at c1; simp [inB, bI, c1, -Int32.not_lt])), rfl⟩
  · skip
    refine v_lload_n h pX4_isIn_0 4 rfl 0 rfl rfl (v_lload h pX4_isIn_0 5 rfl 2 rfl (v_lcmp h pX4_isIn_0 6 rfl ?_))
    refine v_if_gt (tgt := 17) h pX4_isIn_0 7 rfl rfl (fun c2 => ?_) (fun c2 => ?_)
    · skip
      refine v_iconst h pX4_isIn_0 10 rfl ki_0 ?_
      exact v_zret h pX4_isIn_0 11 (Or.inl rfl) hR hret rfl (()) rfl ⟨vI (by (simp only [lg_lt, lg_gt, lt_64] at c1 c2; simp [inB, bI, c1, c2, -Int32.not_lt])), rfl⟩
    · skip
      refine v_iconst h pX4_isIn_0 8 rfl ki_1 (v_goto (tgt := 18) h pX4_isIn_0 9 rfl rfl ?_)
      exact v_zret h pX4_isIn_0 11 (Or.inr rfl) hR hret rfl (()) rfl ⟨vI (by (simp only [lg_lt, lg_gt, lt_64] at c1 c2; simp [inB, bI, c1, c2, -Int32.not_lt])), rfl⟩
set_option maxHeartbeats 300000 in
set_option maxRecDepth 100000 in
theorem kX4_least (l : Launch) (D : va_G) (cI cS : ClassId)   (x y : Int32) : vDet l D (vT cI cS) yX4_least cX4_least 2 (some .int) 0 0 (fun _ : Unit => ([] : va_W)) [.int x, .int y] () (some (.int (mn x y))) (()) := by
  refine vMet_of (by decide) rfl ?_
  intro K hl hD hnL hret h hR hEx
  subst hl hD
  show V K (([] : va_W)) 0 [(0, .int x), (1, .int y)] []
  refine v_iload_n h pX4_least_0 0 rfl 0 rfl rfl (v_iload_n h pX4_least_0 1 rfl 1 rfl rfl ?_)
  refine v_icmp_ge2 (tgt := 9) h pX4_least_0 2 rfl rfl (fun c1 => ?_) (fun c1 => ?_)
  · skip
    refine v_iload_n h pX4_least_0 5 rfl 1 rfl rfl ?_
    exact v_iret h pX4_least_0 6 hR hret rfl (()) rfl ⟨vI (by (have e := least_mn x y; simp [c1, -Int32.not_lt] at e; exact e)), rfl⟩
  · skip
    refine v_iload_n h pX4_least_0 3 rfl 0 rfl rfl (v_goto (tgt := 10) h pX4_least_0 4 rfl rfl ?_)
    exact v_iret h pX4_least_0 6 hR hret rfl (()) rfl ⟨vI (by (have e := least_mn x y; simp [c1, -Int32.not_lt] at e; exact e)), rfl⟩
set_option maxHeartbeats 300000 in
set_option maxRecDepth 100000 in
theorem kX4_greatest (l : Launch) (D : va_G) (cI cS : ClassId)   (x y : Int32) : vDet l D (vT cI cS) yX4_greatest cX4_greatest 2 (some .int) 0 0 (fun _ : Unit => ([] : va_W)) [.int x, .int y] () (some (.int (mx x y))) (()) := by
  refine vMet_of (by decide) rfl ?_
  intro K hl hD hnL hret h hR hEx
  subst hl hD
  show V K (([] : va_W)) 0 [(0, .int x), (1, .int y)] []
  refine v_iload_n h pX4_greatest_0 0 rfl 0 rfl rfl (v_iload_n h pX4_greatest_0 1 rfl 1 rfl rfl ?_)
  refine v_icmp_le2 (tgt := 9) h pX4_greatest_0 2 rfl rfl (fun c1 => ?_) (fun c1 => ?_)
  · skip
    refine v_iload_n h pX4_greatest_0 5 rfl 1 rfl rfl ?_
    exact v_iret h pX4_greatest_0 6 hR hret rfl (()) rfl ⟨vI (by (have e := great_mx x y; simp [c1, -Int32.not_lt] at e; exact e)), rfl⟩
  · skip
    refine v_iload_n h pX4_greatest_0 3 rfl 0 rfl rfl (v_goto (tgt := 10) h pX4_greatest_0 4 rfl rfl ?_)
    exact v_iret h pX4_greatest_0 6 hR hret rfl (()) rfl ⟨vI (by (have e := great_mx x y; simp [c1, -Int32.not_lt] at e; exact e)), rfl⟩
set_option maxHeartbeats 300000 in
set_option maxRecDepth 100000 in
theorem kX4_isBed (l : Launch) (D : va_G) (cI cS : ClassId)   (x : Int32) : vDet l D (vT cI cS) yX4_isBed cX4_isBed 1 (some .boolean) 0 0 (fun _ : Unit => ([] : va_W)) [.int x] () (some (.int (bI (inB x 0 5)))) (()) := by
  refine vMet_of (by decide) rfl ?_
  intro K hl hD hnL hret h hR hEx
  subst hl hD
  show V K (([] : va_W)) 0 [(0, .int x)] []
  refine v_iload_n h pX4_isBed_0 0 rfl 0 rfl rfl ?_
  refine v_if_lt (tgt := 14) h pX4_isBed_0 1 rfl rfl (fun c1 => ?_) (fun c1 => ?_)
  · skip
    refine v_iconst h pX4_isBed_0 7 rfl ki_0 ?_
    exact v_zret h pX4_isBed_0 8 (Or.inl rfl) hR hret rfl (()) rfl ⟨vI (by simp [inB, bI, ← lt6, c1, -Int32.not_lt]), rfl⟩
  · skip
    refine v_iload_n h pX4_isBed_0 2 rfl 0 rfl rfl (v_bipush h pX4_isBed_0 3 rfl kb_6 ?_)
    refine v_icmp_ge2 (tgt := 14) h pX4_isBed_0 4 rfl rfl (fun c2 => ?_) (fun c2 => ?_)
    · skip
      refine v_iconst h pX4_isBed_0 7 rfl ki_0 ?_
      exact v_zret h pX4_isBed_0 8 (Or.inl rfl) hR hret rfl (()) rfl ⟨vI (by simp [inB, bI, ← lt6, c1, c2, -Int32.not_lt]), rfl⟩
    · skip
      refine v_iconst h pX4_isBed_0 5 rfl ki_1 (v_goto (tgt := 15) h pX4_isBed_0 6 rfl rfl ?_)
      exact v_zret h pX4_isBed_0 8 (Or.inr rfl) hR hret rfl (()) rfl ⟨vI (by simp [inB, bI, ← lt6, c1, c2, -Int32.not_lt]), rfl⟩
set_option maxHeartbeats 300000 in
set_option maxRecDepth 100000 in
theorem kX4_isSheet (l : Launch) (D : va_G) (cI cS : ClassId)   (x : Int32) : vDet l D (vT cI cS) yX4_isSheet cX4_isSheet 1 (some .boolean) 0 0 (fun _ : Unit => ([] : va_W)) [.int x] () (some (.int (bI (inB x 0 3)))) (()) := by
  refine vMet_of (by decide) rfl ?_
  intro K hl hD hnL hret h hR hEx
  subst hl hD
  show V K (([] : va_W)) 0 [(0, .int x)] []
  refine v_iload_n h pX4_isSheet_0 0 rfl 0 rfl rfl ?_
  refine v_if_lt (tgt := 13) h pX4_isSheet_0 1 rfl rfl (fun c1 => ?_) (fun c1 => ?_)
  · skip
    refine v_iconst h pX4_isSheet_0 7 rfl ki_0 ?_
    exact v_zret h pX4_isSheet_0 8 (Or.inl rfl) hR hret rfl (()) rfl ⟨vI (by simp [inB, bI, ← lt4, c1, -Int32.not_lt]), rfl⟩
  · skip
    refine v_iload_n h pX4_isSheet_0 2 rfl 0 rfl rfl (v_iconst h pX4_isSheet_0 3 rfl ki_4 ?_)
    refine v_icmp_ge2 (tgt := 13) h pX4_isSheet_0 4 rfl rfl (fun c2 => ?_) (fun c2 => ?_)
    · skip
      refine v_iconst h pX4_isSheet_0 7 rfl ki_0 ?_
      exact v_zret h pX4_isSheet_0 8 (Or.inl rfl) hR hret rfl (()) rfl ⟨vI (by simp [inB, bI, ← lt4, c1, c2, -Int32.not_lt]), rfl⟩
    · skip
      refine v_iconst h pX4_isSheet_0 5 rfl ki_1 (v_goto (tgt := 14) h pX4_isSheet_0 6 rfl rfl ?_)
      exact v_zret h pX4_isSheet_0 8 (Or.inr rfl) hR hret rfl (()) rfl ⟨vI (by simp [inB, bI, ← lt4, c1, c2, -Int32.not_lt]), rfl⟩
set_option maxHeartbeats 300000 in
set_option maxRecDepth 100000 in
theorem kX4_at (l : Launch) (D : va_G) (cI cS : ClassId)   (y w : Nat) : vDet l D (vT cI cS) yX4_at cX4_at 2 (some .int) 0 0 (fun _ : Unit => ([] : va_W)) [.int (nI y), .int (nI w)] () (some (.int (nI (16 + 6 * y + w)))) (()) := by
  refine vMet_of (by decide) rfl ?_
  intro K hl hD hnL hret h hR hEx
  subst hl hD
  show V K (([] : va_W)) 0 [(0, .int (nI y)), (1, .int (nI w))] []
  refine v_bipush h pX4_at_0 0 rfl kb_16 (v_bipush h pX4_at_0 1 rfl kb_6 (v_iload_n h pX4_at_0 2 rfl 0 rfl rfl (v_imuln h pX4_at_0 3 6 y rfl (v_iaddn h pX4_at_0 4 16 (6 * y) rfl (v_iload_n h pX4_at_0 5 rfl 1 rfl rfl ?_)))))
  refine v_iaddn h pX4_at_0 6 (16 + 6 * y) w rfl ?_
  exact v_iret h pX4_at_0 7 hR hret rfl (()) rfl ⟨vI rfl, rfl⟩
set_option maxHeartbeats 300000 in
set_option maxRecDepth 100000 in
theorem kX4_isOyster (l : Launch) (D : va_G) (cI cS : ClassId) (b : Nat → Nat) (E Kp Bf As Q : Nat → Nat → Int32) (n : Nat) (hN : E 9 0 = nI n) (y : Int32) : vDet l D (vT cI cS) yX4_isOyster cX4_isOyster 2 (some .boolean) 0 0 (mW cI b) [.ref (b 0), .int y] (E, Kp, Bf, As, Q) (some (.int (bI (oyB y n)))) ((E, Kp, Bf, As, Q)) := by
  refine vMet_of (by decide) rfl ?_
  intro K hl hD hnL hret h hR hEx
  subst hl hD
  show V K (mW cI b (E, Kp, Bf, As, Q)) 0 [(0, .ref (b 0)), (1, .int y)] []
  refine v_iload_n h pX4_isOyster_0 0 rfl 1 rfl rfl ?_
  refine v_if_lt (tgt := 18) h pX4_isOyster_0 1 rfl rfl (fun c1 => ?_) (fun c1 => ?_)
  · skip
    refine v_iconst h pX4_isOyster_0 10 rfl ki_0 ?_
    exact v_zret h pX4_isOyster_0 11 (Or.inl rfl) hR hret rfl ((E, Kp, Bf, As, Q)) rfl ⟨vI (by simp [oyB, bI, c1, ← hN, -Int32.not_lt]), rfl⟩
  · skip
    refine v_iload_n h pX4_isOyster_0 2 rfl 1 rfl rfl (v_aload_n h pX4_isOyster_0 3 rfl 0 rfl rfl (v_get h pX4_isOyster_0 4 fX4_7 0 rfl rfl rfl (v_iconst h pX4_isOyster_0 5 rfl ki_0 (v_iald h pX4_isOyster_0 6 0 1 0 rfl rfl rfl rfl rfl (by omega) (v_top (w := .int (E 9 0)) (congrArg Value.int rfl) ?_)))))
    refine v_icmp_ge2 (tgt := 18) h pX4_isOyster_0 7 rfl rfl (fun c2 => ?_) (fun c2 => ?_)
    · skip
      refine v_iconst h pX4_isOyster_0 10 rfl ki_0 ?_
      exact v_zret h pX4_isOyster_0 11 (Or.inl rfl) hR hret rfl ((E, Kp, Bf, As, Q)) rfl ⟨vI (by simp [oyB, bI, c1, c2, ← hN, -Int32.not_lt]), rfl⟩
    · skip
      refine v_iconst h pX4_isOyster_0 8 rfl ki_1 (v_goto (tgt := 19) h pX4_isOyster_0 9 rfl rfl ?_)
      exact v_zret h pX4_isOyster_0 11 (Or.inr rfl) hR hret rfl ((E, Kp, Bf, As, Q)) rfl ⟨vI (by simp [oyB, bI, c1, c2, ← hN, -Int32.not_lt]), rfl⟩
set_option maxHeartbeats 300000 in
set_option maxRecDepth 100000 in
theorem kX4_its (l : Launch) (D : va_G) (cI cS : ClassId) (b : Nat → Nat) (E Kp Bf As Q : Nat → Nat → Int32) (y w : Nat) (hy : y < 8) (hw : w < 6) : vDet l D (vT cI cS) yX4_its cX4_its 3 (some .int) 0 0 (mW cI b) [.ref (b 0), .int (nI y), .int (nI w)] (E, Kp, Bf, As, Q) (some (.int (E (2 + w) y))) ((E, Kp, Bf, As, Q)) := by
  refine vMet_of (by decide) rfl ?_
  intro K hl hD hnL hret h hR hEx
  subst hl hD
  show V K (mW cI b (E, Kp, Bf, As, Q)) 0 [(0, .ref (b 0)), (1, .int (nI y)), (2, .int (nI w))] []
  refine v_aload_n h pX4_its_0 0 rfl 0 rfl rfl (v_get h pX4_its_0 1 fX4_7 0 rfl rfl rfl (v_bipush h pX4_its_0 2 rfl kb_16 (v_bipush h pX4_its_0 3 rfl kb_6 (v_iload_n h pX4_its_0 4 rfl 1 rfl rfl (v_imuln h pX4_its_0 5 6 y rfl ?_)))))
  refine v_iaddn h pX4_its_0 6 16 (6 * y) rfl (v_iload_n h pX4_its_0 7 rfl 2 rfl rfl (v_iaddn h pX4_its_0 8 (16 + 6 * y) w rfl (v_iald h pX4_its_0 9 (16 + 6 * y + w) 1 0 rfl rfl rfl rfl rfl (by omega) (v_top (w := .int (E (2 + w) y)) (congrArg Value.int (fl_y _ (by omega) (by omega))) ?_))))
  exact v_iret h pX4_its_0 10 hR hret rfl ((E, Kp, Bf, As, Q)) rfl ⟨vI rfl, rfl⟩
set_option maxHeartbeats 300000 in
set_option maxRecDepth 100000 in
theorem kX4_finds (l : Launch) (D : va_G) (cI cS : ClassId) (b : Nat → Nat) (E Kp Bf As Q : Nat → Nat → Int32) (w : Nat) (hw : w ≤ 6) (v : Int32) (hv : (-1000001) - v + 1 = nI (w + 1)) : vDet l D (vT cI cS) yX4_finds cX4_finds 2 (some .int) 0 0 (mW cI b) [.ref (b 0), .int v] (E, Kp, Bf, As, Q) (some (.int v)) ((E, Kp, Bf, As, fndS Q w)) := by
  refine vMet_of (by decide) rfl ?_
  intro K hl hD hnL hret h hR hEx
  subst hl hD
  show V K (mW cI b (E, Kp, Bf, As, Q)) 0 [(0, .ref (b 0)), (1, .int v)] []
  refine v_aload_n h pX4_finds_0 0 rfl 0 rfl rfl (v_get h pX4_finds_0 1 fX4_22 0 rfl rfl rfl (v_iconst h pX4_finds_0 2 rfl ki_0 (v_dup2 h pX4_finds_0 3 rfl rfl rfl (v_iald h pX4_finds_0 4 0 5 0 rfl rfl rfl rfl rfl (by omega) (v_iconst h pX4_finds_0 5 rfl ki_1 ?_)))))
  refine v_iadd h pX4_finds_0 6 rfl (v_iast h pX4_finds_0 7 0 5 0 (ws' := mW cI b (E, Kp, Bf, As, up Q 0 0 ((Q 0 0) + 1))) rfl rfl rfl rfl rfl (by omega) mW_q0 (v_aload_n h pX4_finds_0 8 rfl 0 rfl rfl (v_get h pX4_finds_0 9 fX4_22 0 rfl rfl rfl (v_ldc h pX4_finds_0 10 wm_104 rfl (v_iload_n h pX4_finds_0 11 rfl 1 rfl rfl ?_)))))
  refine v_isub h pX4_finds_0 12 rfl (v_iconst h pX4_finds_0 13 rfl ki_1 (v_iadd h pX4_finds_0 14 rfl (v_dup2 h pX4_finds_0 15 rfl rfl rfl (v_iald h pX4_finds_0 16 (w + 1) 5 0 rfl rfl rfl rfl hv (by omega) (v_top (w := .int ((upd (Q 0) 0 ((Q 0 0) + 1)) (w + 1))) rfl ?_)))))
  refine v_top (w := .int (Q 0 (w + 1))) (congrArg Value.int (upd_n _ _ (by omega))) (v_iconst h pX4_finds_0 17 rfl ki_1 (v_iadd h pX4_finds_0 18 rfl (v_iast h pX4_finds_0 19 (w + 1) 5 0 (ws' := mW cI b (E, Kp, Bf, As, up (up Q 0 0 ((Q 0 0) + 1)) 0 (w + 1) ((Q 0 (w + 1)) + 1))) rfl rfl rfl rfl hv (by omega) mW_q0 (v_iload_n h pX4_finds_0 20 rfl 1 rfl rfl ?_))))
  exact v_iret h pX4_finds_0 21 hR hret rfl ((E, Kp, Bf, As, up (up Q 0 0 ((Q 0 0) + 1)) 0 (w + 1) ((Q 0 (w + 1)) + 1))) rfl ⟨vI rfl, rfl⟩
set_option maxHeartbeats 300000 in
set_option maxRecDepth 100000 in
theorem kX4_becomes (l : Launch) (D : va_G) (cI cS : ClassId) (b : Nat → Nat) (E Kp Bf As Q : Nat → Nat → Int32) (k : Nat) (hk : k < 74) (r i : Nat) (hkr : flR k = r) (hki : flI k = i) (hkv : fl E k = E r i) (v : Int32) : vDet l D (vT cI cS) yX4_becomes cX4_becomes 4 (some .int) 0 0 (mW cI b) [.ref (b 0), .int (nI k), .int v] (E, Kp, Bf, As, Q) (some (.int (E r i))) ((up E r i v, Kp, Bf, As, Q)) := by
  refine vMet_of (by decide) rfl ?_
  intro K hl hD hnL hret h hR hEx
  subst hl hD
  show V K (mW cI b (E, Kp, Bf, As, Q)) 0 [(0, .ref (b 0)), (1, .int (nI k)), (2, .int v)] []
  refine v_aload_n h pX4_becomes_0 0 rfl 0 rfl rfl (v_get h pX4_becomes_0 1 fX4_7 0 rfl rfl rfl (v_iload_n h pX4_becomes_0 2 rfl 1 rfl rfl (v_iald h pX4_becomes_0 3 k 1 0 rfl rfl rfl rfl rfl (by omega) (v_top (w := .int (E r i)) (congrArg Value.int hkv) (v_istore_n h pX4_becomes_0 4 (lv' := [(3, .int (E r i)), (0, .ref (b 0)), (1, .int (nI k)), (2, .int v)]) rfl rfl hnL rfl rfl ?_)))))
  refine v_aload_n h pX4_becomes_0 5 rfl 1 rfl rfl (v_get h pX4_becomes_0 6 fX4_7 0 rfl rfl rfl (v_iload_n h pX4_becomes_0 7 rfl 2 rfl rfl (v_iload_n h pX4_becomes_0 8 rfl 3 rfl rfl (v_iast h pX4_becomes_0 9 k 1 0 (ws' := mW cI b (up E r i v, Kp, Bf, As, Q)) rfl rfl rfl rfl rfl (by omega) (mW_s k r i hkr hki) (v_iload_n h pX4_becomes_0 10 rfl 0 rfl rfl ?_)))))
  exact v_iret h pX4_becomes_0 11 hR hret rfl ((up E r i v, Kp, Bf, As, Q)) rfl ⟨vI rfl, rfl⟩
set_option maxHeartbeats 300000 in
set_option maxRecDepth 100000 in
theorem kX4_copyRow (l : Launch) (D : va_G) (cI cS : ClassId) (p q : Nat) (R : Nat → Nat → Int32)  : vDet l D (vT cI cS) yX4_copyRow cX4_copyRow 3 none 0 0 (rW cI p q) [.ref p, .ref q] R (none) (cpr R) := by
  refine vMet_of (by decide) rfl ?_
  intro K hl hD hnL hret h hR hEx
  subst hl hD
  show V K (rW cI p q R) 0 [(0, .ref p), (1, .ref q)] []
  refine v_iconst h pX4_copyRow_0 0 rfl ki_0 (v_istore_n h pX4_copyRow_0 1 (lv' := [(2, .int 0), (0, .ref p), (1, .ref q)]) rfl rfl hnL rfl rfl ?_)
  refine v_lv [1, 2, 0] (lv' := [(0, .ref p), (1, .ref q), (2, .int 0)]) rfl ?_
  have L1 : ∀ (m i1 : Nat), i1 ≤ 74 → 74 + 1 ≤ i1 + m → V K (rW cI p q (cprK R i1)) 2 [(0, .ref p), (1, .ref q), (2, .int (nI i1))] [] := by
    intro m
    induction m with
    | zero => exact fun i1 h1 h2 => absurd h2 (by omega)
    | succ m ih1 =>
      intro i1 hle1 hlt1
      generalize hSA : cprK R i1 = SA
      have h0 : SA 0 = R 0 := by rw [← hSA]; rfl
      refine v_iload_n h pX4_copyRow_0 2 rfl 2 rfl rfl (v_bipush h pX4_copyRow_0 3 rfl kb_74 ?_)
      refine v_ncmp_ge (a := i1) (b := 74) (tgt := 20) h pX4_copyRow_0 4 rfl rfl (by omega) (by omega) (fun c3 => ?_) (fun c3 => ?_)
      · skip
        obtain rfl : 74 = i1 := by omega
        refine v_row (ws' := rW cI p q (cpr R)) 1 (R 0) rfl (fun j hj => by rw [← hSA]; exact fillK_in hj) (by rw [← hSA]; rfl) ?_
        exact v_vret h pX4_copyRow_0 13 hR hret rfl (cpr R) rfl ⟨rfl, rfl⟩
      · skip
        refine v_aload_n h pX4_copyRow_0 5 rfl 1 rfl rfl (v_iload_n h pX4_copyRow_0 6 rfl 2 rfl rfl (v_aload_n h pX4_copyRow_0 7 rfl 0 rfl rfl (v_iload_n h pX4_copyRow_0 8 rfl 2 rfl rfl (v_iald h pX4_copyRow_0 9 i1 0 0 rfl rfl rfl rfl rfl (by omega) ?_))))
        refine v_top (w := .int (R 0 i1)) (congrArg Value.int (congrFun h0 _)) (v_iast h pX4_copyRow_0 10 i1 1 0 (ws' := rW cI p q (up SA 1 i1 (R 0 i1))) rfl rfl rfl rfl rfl (by omega) rW_s1 (v_iinc h pX4_copyRow_0 11 (v := nI (i1 + 1)) (lv' := [(2, .int (nI (i1 + 1))), (0, .ref p), (1, .ref q)]) rfl 2 rfl hnL rfl rfl (nI_1 i1) (v_goto (tgt := 2) h pX4_copyRow_0 12 rfl rfl (v_lv [1, 2, 0] (lv' := [(0, .ref p), (1, .ref q), (2, .int (nI (i1 + 1)))]) rfl (v_eqw (ws' := rW cI p q (cprK R (i1 + 1))) (by rw [← hSA]; rw [cprK_s]) ?_)))))
        exact ih1 (i1 + 1) (by omega) (by omega)
  exact L1 (74 + 1) 0 (by omega) (by omega)
set_option maxHeartbeats 300000 in
set_option maxRecDepth 100000 in
theorem kX4_isTold (l : Launch) (D : va_G) (cI cS : ClassId) (b : Nat → Nat) (E Kp Bf As Q : Nat → Nat → Int32) (y : Nat) (hy : y < 8) : vDet l D (vT cI cS) yX4_isTold cX4_isTold 2 (some .boolean) 1 22 (mW cI b) [.ref (b 0), .int (nI y)] (E, Kp, Bf, As, Q) (some (.int (bI (toldS E y)))) ((E, Kp, Bf, As, Q)) := by
  refine vMet_of (by decide) rfl ?_
  intro K hl hD hnL hret h hR hEx
  subst hl hD
  show V K (mW cI b (E, Kp, Bf, As, Q)) 0 [(0, .ref (b 0)), (1, .int (nI y))] []
  refine v_aload_n h pX4_isTold_0 0 rfl 0 rfl rfl (v_iload_n h pX4_isTold_0 1 rfl 1 rfl rfl (v_iconst h pX4_isTold_0 2 rfl ki_2 ?_))
  refine v_callV h pX4_isTold_0 3 mX4_64 (As := [.int (nI y), .int 2]) (st := []) (kX4_its _ _ cI cS b E Kp Bf As Q y 2 (by omega) (by omega)) v0B v0C (vEmb_rf _ _) 0 rfl rfl rfl rfl rfl rfl rfl (vDet_k ?_)
  show V K (mW cI b (E, Kp, Bf, As, Q)) 6 [(0, .ref (b 0)), (1, .int (nI y))] [.int (E 4 y)]
  refine v_if_ne (tgt := 13) h pX4_isTold_0 4 rfl rfl (fun c1 => ?_) (fun c1 => ?_)
  · skip
    refine v_iconst h pX4_isTold_0 7 rfl ki_0 ?_
    exact v_zret h pX4_isTold_0 8 (Or.inl rfl) hR hret rfl ((E, Kp, Bf, As, Q)) rfl ⟨vI (by simp [toldS, bI, c1, -Int32.not_lt]), rfl⟩
  · skip
    refine v_iconst h pX4_isTold_0 5 rfl ki_1 (v_goto (tgt := 14) h pX4_isTold_0 6 rfl rfl ?_)
    exact v_zret h pX4_isTold_0 8 (Or.inr rfl) hR hret rfl ((E, Kp, Bf, As, Q)) rfl ⟨vI (by simp [toldS, bI, c1, -Int32.not_lt]), rfl⟩
set_option maxHeartbeats 300000 in
set_option maxRecDepth 100000 in
theorem kX4_takes (l : Launch) (D : va_G) (cI cS : ClassId) (b : Nat → Nat) (E Kp Bf As Q : Nat → Nat → Int32) (y : Nat) (hy : y < 8) : vDet l D (vT cI cS) yX4_takes cX4_takes 3 (some .int) 1 22 (mW cI b) [.ref (b 0), .int (nI y)] (E, Kp, Bf, As, Q) (some (.int (takesS E y))) ((E, Kp, Bf, As, Q)) := by
  refine vMet_of (by decide) rfl ?_
  intro K hl hD hnL hret h hR hEx
  subst hl hD
  show V K (mW cI b (E, Kp, Bf, As, Q)) 0 [(0, .ref (b 0)), (1, .int (nI y))] []
  refine v_bipush h pX4_takes_0 0 rfl kb_6 (v_aload_n h pX4_takes_0 1 rfl 0 rfl rfl (v_iload_n h pX4_takes_0 2 rfl 1 rfl rfl (v_iconst h pX4_takes_0 3 rfl ki_2 ?_)))
  refine v_callV h pX4_takes_0 4 mX4_64 (As := [.int (nI y), .int 2]) (st := [.int 6]) (kX4_its _ _ cI cS b E Kp Bf As Q y 2 (by omega) (by omega)) v0B v0C (vEmb_rf _ _) 0 rfl rfl rfl rfl rfl rfl rfl (vDet_k ?_)
  show V K (mW cI b (E, Kp, Bf, As, Q)) 8 [(0, .ref (b 0)), (1, .int (nI y))] [.int (E 4 y), .int 6]
  refine v_bipush h pX4_takes_0 5 rfl kb_10 (v_idiv h pX4_takes_0 6 rfl (by decide) (v_iadd h pX4_takes_0 7 rfl (v_istore_n h pX4_takes_0 8 (lv' := [(2, .int (6 + ((E 4 y) / 10))), (0, .ref (b 0)), (1, .int (nI y))]) rfl rfl hnL rfl rfl (v_aload_n h pX4_takes_0 9 rfl 1 rfl rfl (v_iload_n h pX4_takes_0 10 rfl 2 rfl rfl ?_)))))
  refine v_iconst h pX4_takes_0 11 rfl ki_0 ?_
  refine v_callV h pX4_takes_0 12 mX4_64 (As := [.int (nI y), .int 0]) (st := []) (kX4_its _ _ cI cS b E Kp Bf As Q y 0 (by omega) (by omega)) v0B v0C (vEmb_rf _ _) 0 rfl rfl rfl rfl rfl rfl rfl (vDet_k ?_)
  show V K (mW cI b (E, Kp, Bf, As, Q)) 19 [(2, .int (6 + ((E 4 y) / 10))), (0, .ref (b 0)), (1, .int (nI y))] [.int (E 2 y)]
  by_cases c1 : E 2 y = 1
  · skip
    refine v_tin (tgt := 56) h pX4_takes_0 13 c1 rfl (by decide) (by decide) rfl rfl (v_iload_n h pX4_takes_0 14 rfl 0 rfl rfl ?_)
    exact v_iret h pX4_takes_0 15 hR hret rfl ((E, Kp, Bf, As, Q)) rfl ⟨vI (by first | (simp only [takesS, c1, if_true, if_false, reduceIte, not_true_eq_false, not_false_eq_true]; done) | (simp [takesS, c1] <;> rfl)), rfl⟩
  by_cases c2 : E 2 y = 2
  · skip
    refine v_tin (tgt := 58) h pX4_takes_0 13 c2 rfl (by decide) (by decide) rfl rfl (v_iconst h pX4_takes_0 16 rfl ki_3 ?_)
    exact v_iret h pX4_takes_0 17 hR hret rfl ((E, Kp, Bf, As, Q)) rfl ⟨vI (by first | (simp only [takesS, c1, c2, if_true, if_false, reduceIte, not_true_eq_false, not_false_eq_true]; done) | (simp [takesS, c1, c2] <;> rfl)), rfl⟩
  by_cases c3 : E 2 y = 3
  · skip
    refine v_tin (tgt := 60) h pX4_takes_0 13 c3 rfl (by decide) (by decide) rfl rfl (v_iconst h pX4_takes_0 18 rfl ki_2 ?_)
    exact v_iret h pX4_takes_0 19 hR hret rfl ((E, Kp, Bf, As, Q)) rfl ⟨vI (by first | (simp only [takesS, c1, c2, c3, if_true, if_false, reduceIte, not_true_eq_false, not_false_eq_true]; done) | (simp [takesS, c1, c2, c3] <;> rfl)), rfl⟩
  by_cases c4 : E 2 y = 4
  · skip
    refine v_tin (tgt := 62) h pX4_takes_0 13 c4 rfl (by decide) (by decide) rfl rfl (v_aload_n h pX4_takes_0 20 rfl 1 rfl rfl (v_iload_n h pX4_takes_0 21 rfl 2 rfl rfl (v_iconst h pX4_takes_0 22 rfl ki_4 ?_)))
    refine v_callV h pX4_takes_0 23 mX4_64 (As := [.int (nI y), .int 4]) (st := []) (kX4_its _ _ cI cS b E Kp Bf As Q y 4 (by omega) (by omega)) v0B v0C (vEmb_rf _ _) 0 rfl rfl rfl rfl rfl rfl rfl (vDet_k ?_)
    show V K (mW cI b (E, Kp, Bf, As, Q)) 68 [(2, .int (6 + ((E 4 y) / 10))), (0, .ref (b 0)), (1, .int (nI y))] [.int (E 6 y)]
    refine v_iconst h pX4_takes_0 24 rfl ki_2 (v_irem2 h pX4_takes_0 25 rfl (by decide) ?_)
    refine v_if_ne (tgt := 77) h pX4_takes_0 26 rfl rfl (fun c5 => ?_) (fun c5 => ?_)
    · skip
      refine v_iconst h pX4_takes_0 29 rfl ki_0 ?_
      exact v_iret h pX4_takes_0 30 hR hret rfl ((E, Kp, Bf, As, Q)) rfl ⟨vI (by first | (simp only [takesS, c1, c2, c3, c4, c5, if_true, if_false, reduceIte, not_true_eq_false, not_false_eq_true]; done) | (simp [takesS, c1, c2, c3, c4, c5] <;> rfl)), rfl⟩
    · skip
      refine v_iconst h pX4_takes_0 27 rfl ki_2 (v_goto (tgt := 78) h pX4_takes_0 28 rfl rfl ?_)
      exact v_iret h pX4_takes_0 30 hR hret rfl ((E, Kp, Bf, As, Q)) rfl ⟨vI (by first | (simp only [takesS, c1, c2, c3, c4, c5, if_true, if_false, reduceIte, not_true_eq_false, not_false_eq_true]; done) | (simp [takesS, c1, c2, c3, c4, c5] <;> rfl)), rfl⟩
  by_cases c6 : E 2 y = 5
  · skip
    refine v_tin (tgt := 79) h pX4_takes_0 13 c6 rfl (by decide) (by decide) rfl rfl (v_bipush h pX4_takes_0 31 rfl kb_6 (v_bipush h pX4_takes_1 0 rfl kb_9 (v_aload_n h pX4_takes_1 1 rfl 1 rfl rfl (v_iload_n h pX4_takes_1 2 rfl 2 rfl rfl (v_iconst h pX4_takes_1 3 rfl ki_4 ?_)))))
    refine v_callV h pX4_takes_1 4 mX4_64 (As := [.int (nI y), .int 4]) (st := [.int 9, .int 6]) (kX4_its _ _ cI cS b E Kp Bf As Q y 4 (by omega) (by omega)) v0B v0C (vEmb_rf _ _) 0 rfl rfl rfl rfl rfl rfl rfl (vDet_k ?_)
    show V K (mW cI b (E, Kp, Bf, As, Q)) 89 [(2, .int (6 + ((E 4 y) / 10))), (0, .ref (b 0)), (1, .int (nI y))] [.int (E 6 y), .int 9, .int 6]
    refine v_bipush h pX4_takes_1 5 rfl kb_10 (v_idiv h pX4_takes_1 6 rfl (by decide) ?_)
    refine v_callS h pX4_takes_1 7 mX4_79 (As := [.int 9, .int ((E 6 y) / 10)]) (st := [.int 6]) (kX4_least _ _ cI cS 9 ((E 6 y) / 10)) v0B v0C (vEmb_u _) rfl rfl rfl rfl rfl (vDet_k ?_)
    show V K (mW cI b (E, Kp, Bf, As, Q)) 95 [(2, .int (6 + ((E 4 y) / 10))), (0, .ref (b 0)), (1, .int (nI y))] [.int (mn 9 ((E 6 y) / 10)), .int 6]
    refine v_iadd h pX4_takes_1 8 rfl ?_
    exact v_iret h pX4_takes_1 9 hR hret rfl ((E, Kp, Bf, As, Q)) rfl ⟨vI (by first | (simp only [takesS, c1, c2, c3, c4, c6, if_true, if_false, reduceIte, not_true_eq_false, not_false_eq_true]; done) | (simp [takesS, c1, c2, c3, c4, c6] <;> rfl)), rfl⟩
  by_cases c7 : E 2 y = 6
  · skip
    refine v_tin (tgt := 97) h pX4_takes_0 13 c7 rfl (by decide) (by decide) rfl rfl (v_iconst h pX4_takes_1 10 rfl ki_2 (v_iload_n h pX4_takes_1 11 rfl 0 rfl rfl (v_imul h pX4_takes_1 12 rfl ?_)))
    exact v_iret h pX4_takes_1 13 hR hret rfl ((E, Kp, Bf, As, Q)) rfl ⟨vI (by first | (simp only [takesS, c1, c2, c3, c4, c6, c7, if_true, if_false, reduceIte, not_true_eq_false, not_false_eq_true]; done) | (simp [takesS, c1, c2, c3, c4, c6, c7] <;> rfl)), rfl⟩
  refine v_tout (tgt := 101) h pX4_takes_0 13 rfl (sw_1_6 c1 c2 c3 c4 c6 c7) rfl (v_bipush h pX4_takes_1 14 rfl kb_6 ?_)
  exact v_iret h pX4_takes_1 15 hR hret rfl ((E, Kp, Bf, As, Q)) rfl ⟨vI (by first | (simp only [takesS, c1, c2, c3, c4, c6, c7, if_true, if_false, reduceIte, not_true_eq_false, not_false_eq_true]; done) | (simp [takesS, c1, c2, c3, c4, c6, c7] <;> rfl)), rfl⟩
set_option maxHeartbeats 300000 in
set_option maxRecDepth 100000 in
theorem kX4_needs (l : Launch) (D : va_G) (cI cS : ClassId) (b : Nat → Nat) (E Kp Bf As Q : Nat → Nat → Int32) (y : Nat) (hy : y < 8) (n : Nat) (hW : Wf E n) : vDet l D (vT cI cS) yX4_needs cX4_needs 3 (some .int) 1 22 (mW cI b) [.ref (b 0), .int (nI y)] (E, Kp, Bf, As, Q) (some (.int (needsS E y))) ((E, Kp, Bf, As, Q)) := by
  refine vMet_of (by decide) rfl ?_
  intro K hl hD hnL hret h hR hEx
  subst hl hD
  show V K (mW cI b (E, Kp, Bf, As, Q)) 0 [(0, .ref (b 0)), (1, .int (nI y))] []
  have hb := hW.homeL hy
  refine v_aload_n h pX4_needs_0 0 rfl 0 rfl rfl (v_iload_n h pX4_needs_0 1 rfl 1 rfl rfl (v_iconst h pX4_needs_0 2 rfl ki_2 ?_))
  refine v_callV h pX4_needs_0 3 mX4_64 (As := [.int (nI y), .int 2]) (st := []) (kX4_its _ _ cI cS b E Kp Bf As Q y 2 (by omega) (by omega)) v0B v0C (vEmb_rf _ _) 0 rfl rfl rfl rfl rfl rfl rfl (vDet_k ?_)
  show V K (mW cI b (E, Kp, Bf, As, Q)) 6 [(0, .ref (b 0)), (1, .int (nI y))] [.int (E 4 y)]
  refine v_istore_n h pX4_needs_0 4 (lv' := [(2, .int (E 4 y)), (0, .ref (b 0)), (1, .int (nI y))]) rfl rfl hnL rfl rfl (v_aload_n h pX4_needs_0 5 rfl 1 rfl rfl (v_iload_n h pX4_needs_0 6 rfl 2 rfl rfl (v_iconst h pX4_needs_0 7 rfl ki_0 ?_)))
  refine v_callV h pX4_needs_0 8 mX4_64 (As := [.int (nI y), .int 0]) (st := []) (kX4_its _ _ cI cS b E Kp Bf As Q y 0 (by omega) (by omega)) v0B v0C (vEmb_rf _ _) 0 rfl rfl rfl rfl rfl rfl rfl (vDet_k ?_)
  show V K (mW cI b (E, Kp, Bf, As, Q)) 13 [(2, .int (E 4 y)), (0, .ref (b 0)), (1, .int (nI y))] [.int (E 2 y)]
  by_cases c1 : E 2 y = 1
  · skip
    refine v_tin (tgt := 52) h pX4_needs_0 9 c1 rfl (by decide) (by decide) rfl rfl (v_iconst h pX4_needs_0 10 rfl ki_2 (v_iload_n h pX4_needs_0 11 rfl 0 rfl rfl (v_imul h pX4_needs_0 12 rfl ?_)))
    exact v_iret h pX4_needs_0 13 hR hret rfl ((E, Kp, Bf, As, Q)) rfl ⟨vI (by simp [needsS, c1]), rfl⟩
  by_cases c2 : E 2 y = 2
  · skip
    refine v_tin (tgt := 56) h pX4_needs_0 9 c2 rfl (by decide) (by decide) rfl rfl (v_iload_n h pX4_needs_0 14 rfl 0 rfl rfl (v_iconst h pX4_needs_0 15 rfl ki_2 (v_idiv h pX4_needs_0 16 rfl (by decide) ?_)))
    exact v_iret h pX4_needs_0 17 hR hret rfl ((E, Kp, Bf, As, Q)) rfl ⟨vI (by simp [needsS, c1, c2]), rfl⟩
  by_cases c3 : E 2 y = 3
  · skip
    refine v_tin (tgt := 60) h pX4_needs_0 9 c3 rfl (by decide) (by decide) rfl rfl (v_iconst h pX4_needs_0 18 rfl ki_0 (v_iload_n h pX4_needs_0 19 rfl 0 rfl rfl (v_iconst h pX4_needs_0 20 rfl ki_2 (v_idiv h pX4_needs_0 21 rfl (by decide) (v_aload_n h pX4_needs_0 22 rfl 1 rfl rfl ?_)))))
    refine v_get h pX4_needs_0 23 fX4_7 0 rfl rfl rfl (v_bipush h pX4_needs_0 24 rfl kb_10 (v_aload_n h pX4_needs_0 25 rfl 1 rfl rfl (v_iload_n h pX4_needs_0 26 rfl 2 rfl rfl (v_iconst h pX4_needs_0 27 rfl ki_1 ?_))))
    refine v_callV h pX4_needs_0 28 mX4_64 (As := [.int (nI y), .int 1]) (st := [.int 10, .ref (b 1), .int ((E 4 y) / 2), .int 0]) (kX4_its _ _ cI cS b E Kp Bf As Q y 1 (by omega) (by omega)) v0B v0C (vEmb_rf _ _) 0 rfl rfl rfl rfl rfl rfl rfl (vDet_k ?_)
    show V K (mW cI b (E, Kp, Bf, As, Q)) 76 [(2, .int (E 4 y)), (0, .ref (b 0)), (1, .int (nI y))] [.int (E 3 y), .int 10, .ref (b 1), .int ((E 4 y) / 2), .int 0]
    refine v_top (w := .int (nI (ix (E 3 y)))) (congrArg Value.int (hW.home (by omega))) (v_iaddn h pX4_needs_0 29 10 (ix (E 3 y)) rfl (v_iald h pX4_needs_0 30 (10 + ix (E 3 y)) 1 0 rfl rfl rfl rfl rfl (by omega) (v_top (w := .int (E 1 (ix (E 3 y)))) (congrArg Value.int (fl_c _ (by omega))) (v_isub h pX4_needs_0 31 rfl ?_))))
    refine v_callS h pX4_needs_1 0 mX4_82 (As := [.int 0, .int (((E 4 y) / 2) - (E 1 (ix (E 3 y))))]) (st := []) (kX4_greatest _ _ cI cS 0 (((E 4 y) / 2) - (E 1 (ix (E 3 y))))) v0B v0C (vEmb_u _) rfl rfl rfl rfl rfl (vDet_k ?_)
    show V K (mW cI b (E, Kp, Bf, As, Q)) 82 [(2, .int (E 4 y)), (0, .ref (b 0)), (1, .int (nI y))] [.int (mx 0 (((E 4 y) / 2) - (E 1 (ix (E 3 y)))))]
    exact v_iret h pX4_needs_1 1 hR hret rfl ((E, Kp, Bf, As, Q)) rfl ⟨vI (by simp [needsS, c1, c2, c3]), rfl⟩
  by_cases c4 : E 2 y = 4
  · skip
    refine v_tin (tgt := 60) h pX4_needs_0 9 c4 rfl (by decide) (by decide) rfl rfl (v_iconst h pX4_needs_0 18 rfl ki_0 (v_iload_n h pX4_needs_0 19 rfl 0 rfl rfl (v_iconst h pX4_needs_0 20 rfl ki_2 (v_idiv h pX4_needs_0 21 rfl (by decide) (v_aload_n h pX4_needs_0 22 rfl 1 rfl rfl ?_)))))
    refine v_get h pX4_needs_0 23 fX4_7 0 rfl rfl rfl (v_bipush h pX4_needs_0 24 rfl kb_10 (v_aload_n h pX4_needs_0 25 rfl 1 rfl rfl (v_iload_n h pX4_needs_0 26 rfl 2 rfl rfl (v_iconst h pX4_needs_0 27 rfl ki_1 ?_))))
    refine v_callV h pX4_needs_0 28 mX4_64 (As := [.int (nI y), .int 1]) (st := [.int 10, .ref (b 1), .int ((E 4 y) / 2), .int 0]) (kX4_its _ _ cI cS b E Kp Bf As Q y 1 (by omega) (by omega)) v0B v0C (vEmb_rf _ _) 0 rfl rfl rfl rfl rfl rfl rfl (vDet_k ?_)
    show V K (mW cI b (E, Kp, Bf, As, Q)) 76 [(2, .int (E 4 y)), (0, .ref (b 0)), (1, .int (nI y))] [.int (E 3 y), .int 10, .ref (b 1), .int ((E 4 y) / 2), .int 0]
    refine v_top (w := .int (nI (ix (E 3 y)))) (congrArg Value.int (hW.home (by omega))) (v_iaddn h pX4_needs_0 29 10 (ix (E 3 y)) rfl (v_iald h pX4_needs_0 30 (10 + ix (E 3 y)) 1 0 rfl rfl rfl rfl rfl (by omega) (v_top (w := .int (E 1 (ix (E 3 y)))) (congrArg Value.int (fl_c _ (by omega))) (v_isub h pX4_needs_0 31 rfl ?_))))
    refine v_callS h pX4_needs_1 0 mX4_82 (As := [.int 0, .int (((E 4 y) / 2) - (E 1 (ix (E 3 y))))]) (st := []) (kX4_greatest _ _ cI cS 0 (((E 4 y) / 2) - (E 1 (ix (E 3 y))))) v0B v0C (vEmb_u _) rfl rfl rfl rfl rfl (vDet_k ?_)
    show V K (mW cI b (E, Kp, Bf, As, Q)) 82 [(2, .int (E 4 y)), (0, .ref (b 0)), (1, .int (nI y))] [.int (mx 0 (((E 4 y) / 2) - (E 1 (ix (E 3 y)))))]
    exact v_iret h pX4_needs_1 1 hR hret rfl ((E, Kp, Bf, As, Q)) rfl ⟨vI (by simp [needsS, c1, c2, c3, c4]), rfl⟩
  by_cases c5 : E 2 y = 5
  · skip
    refine v_tin (tgt := 83) h pX4_needs_0 9 c5 rfl (by decide) (by decide) rfl rfl (v_iconst h pX4_needs_1 2 rfl ki_0 (v_iload_n h pX4_needs_1 3 rfl 0 rfl rfl (v_iconst h pX4_needs_1 4 rfl ki_5 (v_isub h pX4_needs_1 5 rfl ?_))))
    refine v_callS h pX4_needs_1 6 mX4_82 (As := [.int 0, .int ((E 4 y) - 5)]) (st := []) (kX4_greatest _ _ cI cS 0 ((E 4 y) - 5)) v0B v0C (vEmb_u _) rfl rfl rfl rfl rfl (vDet_k ?_)
    show V K (mW cI b (E, Kp, Bf, As, Q)) 90 [(2, .int (E 4 y)), (0, .ref (b 0)), (1, .int (nI y))] [.int (mx 0 ((E 4 y) - 5))]
    exact v_iret h pX4_needs_1 7 hR hret rfl ((E, Kp, Bf, As, Q)) rfl ⟨vI (by simp [needsS, c1, c2, c3, c4, c5]), rfl⟩
  by_cases c6 : E 2 y = 6
  · skip
    refine v_tin (tgt := 91) h pX4_needs_0 9 c6 rfl (by decide) (by decide) rfl rfl (v_iconst h pX4_needs_1 8 rfl ki_2 (v_iload_n h pX4_needs_1 9 rfl 0 rfl rfl (v_imul h pX4_needs_1 10 rfl (v_bipush h pX4_needs_1 11 rfl kb_10 (v_iadd h pX4_needs_1 12 rfl ?_)))))
    exact v_iret h pX4_needs_1 13 hR hret rfl ((E, Kp, Bf, As, Q)) rfl ⟨vI (by simp [needsS, c1, c2, c3, c4, c5, c6]), rfl⟩
  refine v_tout (tgt := 98) h pX4_needs_0 9 rfl (sw_1_6 c1 c2 c3 c4 c5 c6) rfl (v_iload_n h pX4_needs_1 14 rfl 0 rfl rfl ?_)
  exact v_iret h pX4_needs_1 15 hR hret rfl ((E, Kp, Bf, As, Q)) rfl ⟨vI (by simp [needsS, c1, c2, c3, c4, c5, c6]), rfl⟩
set_option maxHeartbeats 300000 in
set_option maxRecDepth 100000 in
theorem kX4_opens (l : Launch) (D : va_G) (cI cS : ClassId) (b : Nat → Nat) (E Kp Bf As Q : Nat → Nat → Int32) (y : Nat) (hy : y < 8) (n : Nat) (hW : Wf E n) : vDet l D (vT cI cS) yX4_opens cX4_opens 3 (some .boolean) 1 22 (mW cI b) [.ref (b 0), .int (nI y)] (E, Kp, Bf, As, Q) (some (.int (bI (opensS E y)))) ((E, Kp, Bf, As, Q)) := by
  refine vMet_of (by decide) rfl ?_
  intro K hl hD hnL hret h hR hEx
  subst hl hD
  show V K (mW cI b (E, Kp, Bf, As, Q)) 0 [(0, .ref (b 0)), (1, .int (nI y))] []
  have hb := hW.homeL hy
  refine v_aload_n h pX4_opens_0 0 rfl 0 rfl rfl (v_get h pX4_opens_0 1 fX4_7 0 rfl rfl rfl (v_bipush h pX4_opens_0 2 rfl kb_10 (v_aload_n h pX4_opens_0 3 rfl 0 rfl rfl (v_iload_n h pX4_opens_0 4 rfl 1 rfl rfl (v_iconst h pX4_opens_0 5 rfl ki_1 ?_)))))
  refine v_callV h pX4_opens_0 6 mX4_64 (As := [.int (nI y), .int 1]) (st := [.int 10, .ref (b 1)]) (kX4_its _ _ cI cS b E Kp Bf As Q y 1 (by omega) (by omega)) v0B v0C (vEmb_rf _ _) 0 rfl rfl rfl rfl rfl rfl rfl (vDet_k ?_)
  show V K (mW cI b (E, Kp, Bf, As, Q)) 12 [(0, .ref (b 0)), (1, .int (nI y))] [.int (E 3 y), .int 10, .ref (b 1)]
  refine v_top (w := .int (nI (ix (E 3 y)))) (congrArg Value.int (hW.home (by omega))) (v_iaddn h pX4_opens_0 7 10 (ix (E 3 y)) rfl (v_iald h pX4_opens_0 8 (10 + ix (E 3 y)) 1 0 rfl rfl rfl rfl rfl (by omega) (v_top (w := .int (E 1 (ix (E 3 y)))) (congrArg Value.int (fl_c _ (by omega))) (v_iconst h pX4_opens_0 9 rfl ki_3 ?_))))
  refine v_icmp_ge2 (tgt := 22) h pX4_opens_0 10 rfl rfl (fun c1 => ?_) (fun c1 => ?_)
  · skip
    refine v_iconst h pX4_opens_0 13 rfl ki_0 (v_istore_n h pX4_opens_0 14 (lv' := [(2, .int 0), (0, .ref (b 0)), (1, .int (nI y))]) rfl rfl hnL rfl rfl (v_aload_n h pX4_opens_0 15 rfl 1 rfl rfl (v_iload_n h pX4_opens_0 16 rfl 2 rfl rfl (v_iconst h pX4_opens_0 17 rfl ki_0 ?_))))
    refine v_callV h pX4_opens_0 18 mX4_64 (As := [.int (nI y), .int 0]) (st := []) (kX4_its _ _ cI cS b E Kp Bf As Q y 0 (by omega) (by omega)) v0B v0C (vEmb_rf _ _) 0 rfl rfl rfl rfl rfl rfl rfl (vDet_k ?_)
    show V K (mW cI b (E, Kp, Bf, As, Q)) 30 [(2, .int 0), (0, .ref (b 0)), (1, .int (nI y))] [.int (E 2 y)]
    by_cases c2 : E 2 y = 1
    · skip
      refine v_tin (tgt := 68) h pX4_opens_0 19 c2 rfl (by decide) (by decide) rfl rfl (v_iload_n h pX4_opens_0 20 rfl 0 rfl rfl ?_)
      refine v_if_eq (tgt := 87) h pX4_opens_0 21 rfl rfl (fun c3 => ?_) (fun c3 => absurd c3 (by decide))
      refine v_iconst h pX4_opens_0 30 rfl ki_0 ?_
      exact v_zret h pX4_opens_0 31 (Or.inl rfl) hR hret rfl ((E, Kp, Bf, As, Q)) rfl ⟨vI (by simp [opensS, warmS, bI, c1, c2, -Int32.not_lt]), rfl⟩
    by_cases c4 : E 2 y = 2
    · skip
      refine v_tin (tgt := 111) h pX4_opens_0 19 c4 rfl (by decide) (by decide) rfl rfl (v_iload_n h pX4_opens_1 16 rfl 0 rfl rfl ?_)
      exact v_zret h pX4_opens_1 17 (Or.inl rfl) hR hret rfl ((E, Kp, Bf, As, Q)) rfl ⟨vI (by simp [opensS, warmS, bI, c1, c2, c4, -Int32.not_lt]), rfl⟩
    by_cases c5 : E 2 y = 3
    · skip
      refine v_tin (tgt := 89) h pX4_opens_0 19 c5 rfl (by decide) (by decide) rfl rfl (v_iconst h pX4_opens_1 0 rfl ki_1 ?_)
      exact v_zret h pX4_opens_1 1 (Or.inr rfl) hR hret rfl ((E, Kp, Bf, As, Q)) rfl ⟨vI (by simp [opensS, warmS, bI, c1, c2, c4, c5, -Int32.not_lt]), rfl⟩
    by_cases c6 : E 2 y = 4
    · skip
      refine v_tin (tgt := 91) h pX4_opens_0 19 c6 rfl (by decide) (by decide) rfl rfl (v_aload_n h pX4_opens_1 2 rfl 1 rfl rfl (v_get h pX4_opens_1 3 fX4_7 0 rfl rfl rfl (v_iconst h pX4_opens_1 4 rfl ki_1 (v_iald h pX4_opens_1 5 1 1 0 rfl rfl rfl rfl rfl (by omega) (v_top (w := .int (E 9 2)) (congrArg Value.int rfl) ?_)))))
      refine v_iconst h pX4_opens_1 6 rfl ki_3 (v_irem2 h pX4_opens_1 7 rfl (by decide) (v_iconst h pX4_opens_1 8 rfl ki_2 ?_))
      refine v_icmp_ne (tgt := 107) h pX4_opens_1 9 rfl rfl (fun c7 => ?_) (fun c7 => ?_)
      · skip
        refine v_iconst h pX4_opens_1 12 rfl ki_0 ?_
        exact v_zret h pX4_opens_1 13 (Or.inl rfl) hR hret rfl ((E, Kp, Bf, As, Q)) rfl ⟨vI (by simp [opensS, warmS, bI, c1, c2, c4, c5, c6, c7, -Int32.not_lt]), rfl⟩
      · skip
        refine v_iconst h pX4_opens_1 10 rfl ki_1 (v_goto (tgt := 108) h pX4_opens_1 11 rfl rfl ?_)
        exact v_zret h pX4_opens_1 13 (Or.inr rfl) hR hret rfl ((E, Kp, Bf, As, Q)) rfl ⟨vI (by simp [opensS, warmS, bI, c1, c2, c4, c5, c6, c7, -Int32.not_lt]), rfl⟩
    by_cases c8 : E 2 y = 5
    · skip
      refine v_tin (tgt := 111) h pX4_opens_0 19 c8 rfl (by decide) (by decide) rfl rfl (v_iload_n h pX4_opens_1 16 rfl 0 rfl rfl ?_)
      exact v_zret h pX4_opens_1 17 (Or.inl rfl) hR hret rfl ((E, Kp, Bf, As, Q)) rfl ⟨vI (by simp [opensS, warmS, bI, c1, c2, c4, c5, c6, c8, -Int32.not_lt]), rfl⟩
    by_cases c9 : E 2 y = 6
    · skip
      refine v_tin (tgt := 109) h pX4_opens_0 19 c9 rfl (by decide) (by decide) rfl rfl (v_iconst h pX4_opens_1 14 rfl ki_0 ?_)
      exact v_zret h pX4_opens_1 15 (Or.inl rfl) hR hret rfl ((E, Kp, Bf, As, Q)) rfl ⟨vI (by simp [opensS, warmS, bI, c1, c2, c4, c5, c6, c8, c9, -Int32.not_lt]), rfl⟩
    refine v_tout (tgt := 111) h pX4_opens_0 19 rfl (sw_1_6 c2 c4 c5 c6 c8 c9) rfl (v_iload_n h pX4_opens_1 16 rfl 0 rfl rfl ?_)
    exact v_zret h pX4_opens_1 17 (Or.inl rfl) hR hret rfl ((E, Kp, Bf, As, Q)) rfl ⟨vI (by simp [opensS, warmS, bI, c1, c2, c4, c5, c6, c8, c9, -Int32.not_lt]), rfl⟩
  · skip
    refine v_iconst h pX4_opens_0 11 rfl ki_1 (v_goto (tgt := 23) h pX4_opens_0 12 rfl rfl (v_istore_n h pX4_opens_0 14 (lv' := [(2, .int 1), (0, .ref (b 0)), (1, .int (nI y))]) rfl rfl hnL rfl rfl (v_aload_n h pX4_opens_0 15 rfl 1 rfl rfl (v_iload_n h pX4_opens_0 16 rfl 2 rfl rfl (v_iconst h pX4_opens_0 17 rfl ki_0 ?_)))))
    refine v_callV h pX4_opens_0 18 mX4_64 (As := [.int (nI y), .int 0]) (st := []) (kX4_its _ _ cI cS b E Kp Bf As Q y 0 (by omega) (by omega)) v0B v0C (vEmb_rf _ _) 0 rfl rfl rfl rfl rfl rfl rfl (vDet_k ?_)
    show V K (mW cI b (E, Kp, Bf, As, Q)) 30 [(2, .int 1), (0, .ref (b 0)), (1, .int (nI y))] [.int (E 2 y)]
    by_cases c10 : E 2 y = 1
    · skip
      refine v_tin (tgt := 68) h pX4_opens_0 19 c10 rfl (by decide) (by decide) rfl rfl (v_iload_n h pX4_opens_0 20 rfl 0 rfl rfl ?_)
      refine v_if_eq (tgt := 87) h pX4_opens_0 21 rfl rfl (fun c11 => absurd c11 (by decide)) (fun c11 => ?_)
      refine v_aload_n h pX4_opens_0 22 rfl 1 rfl rfl (v_iload_n h pX4_opens_0 23 rfl 2 rfl rfl (v_iconst h pX4_opens_0 24 rfl ki_2 ?_))
      refine v_callV h pX4_opens_0 25 mX4_64 (As := [.int (nI y), .int 2]) (st := []) (kX4_its _ _ cI cS b E Kp Bf As Q y 2 (by omega) (by omega)) v0B v0C (vEmb_rf _ _) 0 rfl rfl rfl rfl rfl rfl rfl (vDet_k ?_)
      show V K (mW cI b (E, Kp, Bf, As, Q)) 78 [(2, .int 1), (0, .ref (b 0)), (1, .int (nI y))] [.int (E 4 y)]
      refine v_bipush h pX4_opens_0 26 rfl kb_50 ?_
      refine v_icmp_gt (tgt := 87) h pX4_opens_0 27 rfl rfl (fun c12 => ?_) (fun c12 => ?_)
      · skip
        refine v_iconst h pX4_opens_0 30 rfl ki_0 ?_
        exact v_zret h pX4_opens_0 31 (Or.inl rfl) hR hret rfl ((E, Kp, Bf, As, Q)) rfl ⟨vI (by simp [opensS, warmS, bI, c1, c10, c12, -Int32.not_lt]), rfl⟩
      · skip
        refine v_iconst h pX4_opens_0 28 rfl ki_1 (v_goto (tgt := 88) h pX4_opens_0 29 rfl rfl ?_)
        exact v_zret h pX4_opens_0 31 (Or.inr rfl) hR hret rfl ((E, Kp, Bf, As, Q)) rfl ⟨vI (by simp [opensS, warmS, bI, c1, c10, c12, -Int32.not_lt]), rfl⟩
    by_cases c13 : E 2 y = 2
    · skip
      refine v_tin (tgt := 111) h pX4_opens_0 19 c13 rfl (by decide) (by decide) rfl rfl (v_iload_n h pX4_opens_1 16 rfl 0 rfl rfl ?_)
      exact v_zret h pX4_opens_1 17 (Or.inr rfl) hR hret rfl ((E, Kp, Bf, As, Q)) rfl ⟨vI (by simp [opensS, warmS, bI, c1, c10, c13, -Int32.not_lt]), rfl⟩
    by_cases c14 : E 2 y = 3
    · skip
      refine v_tin (tgt := 89) h pX4_opens_0 19 c14 rfl (by decide) (by decide) rfl rfl (v_iconst h pX4_opens_1 0 rfl ki_1 ?_)
      exact v_zret h pX4_opens_1 1 (Or.inr rfl) hR hret rfl ((E, Kp, Bf, As, Q)) rfl ⟨vI (by simp [opensS, warmS, bI, c1, c10, c13, c14, -Int32.not_lt]), rfl⟩
    by_cases c15 : E 2 y = 4
    · skip
      refine v_tin (tgt := 91) h pX4_opens_0 19 c15 rfl (by decide) (by decide) rfl rfl (v_aload_n h pX4_opens_1 2 rfl 1 rfl rfl (v_get h pX4_opens_1 3 fX4_7 0 rfl rfl rfl (v_iconst h pX4_opens_1 4 rfl ki_1 (v_iald h pX4_opens_1 5 1 1 0 rfl rfl rfl rfl rfl (by omega) (v_top (w := .int (E 9 2)) (congrArg Value.int rfl) ?_)))))
      refine v_iconst h pX4_opens_1 6 rfl ki_3 (v_irem2 h pX4_opens_1 7 rfl (by decide) (v_iconst h pX4_opens_1 8 rfl ki_2 ?_))
      refine v_icmp_ne (tgt := 107) h pX4_opens_1 9 rfl rfl (fun c16 => ?_) (fun c16 => ?_)
      · skip
        refine v_iconst h pX4_opens_1 12 rfl ki_0 ?_
        exact v_zret h pX4_opens_1 13 (Or.inl rfl) hR hret rfl ((E, Kp, Bf, As, Q)) rfl ⟨vI (by simp [opensS, warmS, bI, c1, c10, c13, c14, c15, c16, -Int32.not_lt]), rfl⟩
      · skip
        refine v_iconst h pX4_opens_1 10 rfl ki_1 (v_goto (tgt := 108) h pX4_opens_1 11 rfl rfl ?_)
        exact v_zret h pX4_opens_1 13 (Or.inr rfl) hR hret rfl ((E, Kp, Bf, As, Q)) rfl ⟨vI (by simp [opensS, warmS, bI, c1, c10, c13, c14, c15, c16, -Int32.not_lt]), rfl⟩
    by_cases c17 : E 2 y = 5
    · skip
      refine v_tin (tgt := 111) h pX4_opens_0 19 c17 rfl (by decide) (by decide) rfl rfl (v_iload_n h pX4_opens_1 16 rfl 0 rfl rfl ?_)
      exact v_zret h pX4_opens_1 17 (Or.inr rfl) hR hret rfl ((E, Kp, Bf, As, Q)) rfl ⟨vI (by simp [opensS, warmS, bI, c1, c10, c13, c14, c15, c17, -Int32.not_lt]), rfl⟩
    by_cases c18 : E 2 y = 6
    · skip
      refine v_tin (tgt := 109) h pX4_opens_0 19 c18 rfl (by decide) (by decide) rfl rfl (v_iconst h pX4_opens_1 14 rfl ki_0 ?_)
      exact v_zret h pX4_opens_1 15 (Or.inl rfl) hR hret rfl ((E, Kp, Bf, As, Q)) rfl ⟨vI (by simp [opensS, warmS, bI, c1, c10, c13, c14, c15, c17, c18, -Int32.not_lt]), rfl⟩
    refine v_tout (tgt := 111) h pX4_opens_0 19 rfl (sw_1_6 c10 c13 c14 c15 c17 c18) rfl (v_iload_n h pX4_opens_1 16 rfl 0 rfl rfl ?_)
    exact v_zret h pX4_opens_1 17 (Or.inr rfl) hR hret rfl ((E, Kp, Bf, As, Q)) rfl ⟨vI (by simp [opensS, warmS, bI, c1, c10, c13, c14, c15, c17, c18, -Int32.not_lt]), rfl⟩
set_option maxHeartbeats 300000 in
set_option maxRecDepth 100000 in
theorem kX4_worthOf (l : Launch) (D : va_G) (cI cS : ClassId) (b : Nat → Nat) (E Kp Bf As Q : Nat → Nat → Int32) (y : Nat) (hy : y < 8) : vDet l D (vT cI cS) yX4_worthOf cX4_worthOf 4 (some .int) 2 43 (mW cI b) [.ref (b 0), .int (nI y)] (E, Kp, Bf, As, Q) (some (.int (worthS E y))) ((E, Kp, Bf, As, Q)) := by
  refine vMet_of (by decide) rfl ?_
  intro K hl hD hnL hret h hR hEx
  subst hl hD
  show V K (mW cI b (E, Kp, Bf, As, Q)) 0 [(0, .ref (b 0)), (1, .int (nI y))] []
  refine v_aload_n h pX4_worthOf_0 0 rfl 0 rfl rfl (v_iload_n h pX4_worthOf_0 1 rfl 1 rfl rfl (v_iconst h pX4_worthOf_0 2 rfl ki_3 ?_))
  refine v_callV h pX4_worthOf_0 3 mX4_64 (As := [.int (nI y), .int 3]) (st := []) (kX4_its _ _ cI cS b E Kp Bf As Q y 3 (by omega) (by omega)) v0B v0C (vEmb_rf _ _) 0 rfl rfl rfl rfl rfl rfl rfl (vDet_k ?_)
  show V K (mW cI b (E, Kp, Bf, As, Q)) 6 [(0, .ref (b 0)), (1, .int (nI y))] [.int (E 5 y)]
  refine v_istore_n h pX4_worthOf_0 4 (lv' := [(2, .int (E 5 y)), (0, .ref (b 0)), (1, .int (nI y))]) rfl rfl hnL rfl rfl (v_iload_n h pX4_worthOf_0 5 rfl 0 rfl rfl (v_aload_n h pX4_worthOf_0 6 rfl 1 rfl rfl (v_iload_n h pX4_worthOf_0 7 rfl 2 rfl rfl (v_iconst h pX4_worthOf_0 8 rfl ki_2 ?_))))
  refine v_callV h pX4_worthOf_0 9 mX4_64 (As := [.int (nI y), .int 2]) (st := [.int (E 5 y)]) (kX4_its _ _ cI cS b E Kp Bf As Q y 2 (by omega) (by omega)) v0B v0C (vEmb_rf _ _) 0 rfl rfl rfl rfl rfl rfl rfl (vDet_k ?_)
  show V K (mW cI b (E, Kp, Bf, As, Q)) 14 [(2, .int (E 5 y)), (0, .ref (b 0)), (1, .int (nI y))] [.int (E 4 y), .int (E 5 y)]
  refine v_iadd h pX4_worthOf_0 10 rfl (v_istore_n h pX4_worthOf_0 11 (lv' := [(3, .int ((E 5 y) + (E 4 y))), (2, .int (E 5 y)), (0, .ref (b 0)), (1, .int (nI y))]) rfl rfl hnL rfl rfl (v_aload_n h pX4_worthOf_0 12 rfl 2 rfl rfl (v_iload_n h pX4_worthOf_0 13 rfl 3 rfl rfl ?_)))
  refine v_callV h pX4_worthOf_0 14 mX4_85 (As := [.int (nI y)]) (st := []) (kX4_isTold _ _ cI cS b E Kp Bf As Q y (by omega)) v0B v0C (vEmb_rf _ _) 0 rfl rfl rfl rfl rfl rfl rfl (vDet_k ?_)
  show V K (mW cI b (E, Kp, Bf, As, Q)) 21 [(3, .int ((E 5 y) + (E 4 y))), (2, .int (E 5 y)), (0, .ref (b 0)), (1, .int (nI y))] [.int (bI (toldS E y))]
  refine v_bif_eq (tgt := 26) h pX4_worthOf_0 15 rfl rfl (fun c1 => ?_) (fun c1 => ?_)
  · skip
    refine v_aload_n h pX4_worthOf_0 18 rfl 2 rfl rfl (v_iload_n h pX4_worthOf_0 19 rfl 3 rfl rfl (v_iconst h pX4_worthOf_0 20 rfl ki_0 ?_))
    refine v_callV h pX4_worthOf_0 21 mX4_64 (As := [.int (nI y), .int 0]) (st := []) (kX4_its _ _ cI cS b E Kp Bf As Q y 0 (by omega) (by omega)) v0B v0C (vEmb_rf _ _) 0 rfl rfl rfl rfl rfl rfl rfl (vDet_k ?_)
    show V K (mW cI b (E, Kp, Bf, As, Q)) 32 [(3, .int ((E 5 y) + (E 4 y))), (2, .int (E 5 y)), (0, .ref (b 0)), (1, .int (nI y))] [.int (E 2 y)]
    by_cases c2 : E 2 y = 1
    · skip
      refine v_tin (tgt := 72) h pX4_worthOf_0 22 c2 rfl (by decide) (by decide) rfl rfl (v_iload_n h pX4_worthOf_0 23 rfl 0 rfl rfl ?_)
      exact v_iret h pX4_worthOf_0 24 hR hret rfl ((E, Kp, Bf, As, Q)) rfl ⟨vI (by simp [worthS, c1, c2]), rfl⟩
    by_cases c3 : E 2 y = 2
    · skip
      refine v_tin (tgt := 74) h pX4_worthOf_0 22 c3 rfl (by decide) (by decide) rfl rfl (v_iload_n h pX4_worthOf_0 25 rfl 1 rfl rfl (v_iconst h pX4_worthOf_0 26 rfl ki_2 (v_idiv h pX4_worthOf_0 27 rfl (by decide) ?_)))
      exact v_iret h pX4_worthOf_0 28 hR hret rfl ((E, Kp, Bf, As, Q)) rfl ⟨vI (by simp [worthS, c1, c2, c3]), rfl⟩
    by_cases c4 : E 2 y = 3
    · skip
      refine v_tin (tgt := 74) h pX4_worthOf_0 22 c4 rfl (by decide) (by decide) rfl rfl (v_iload_n h pX4_worthOf_0 25 rfl 1 rfl rfl (v_iconst h pX4_worthOf_0 26 rfl ki_2 (v_idiv h pX4_worthOf_0 27 rfl (by decide) ?_)))
      exact v_iret h pX4_worthOf_0 28 hR hret rfl ((E, Kp, Bf, As, Q)) rfl ⟨vI (by simp [worthS, c1, c2, c3, c4]), rfl⟩
    by_cases c5 : E 2 y = 4
    · skip
      refine v_tin (tgt := 74) h pX4_worthOf_0 22 c5 rfl (by decide) (by decide) rfl rfl (v_iload_n h pX4_worthOf_0 25 rfl 1 rfl rfl (v_iconst h pX4_worthOf_0 26 rfl ki_2 (v_idiv h pX4_worthOf_0 27 rfl (by decide) ?_)))
      exact v_iret h pX4_worthOf_0 28 hR hret rfl ((E, Kp, Bf, As, Q)) rfl ⟨vI (by simp [worthS, c1, c2, c3, c4, c5]), rfl⟩
    by_cases c6 : E 2 y = 5
    · skip
      refine v_tin (tgt := 78) h pX4_worthOf_0 22 c6 rfl (by decide) (by decide) rfl rfl (v_iconst h pX4_worthOf_0 29 rfl ki_3 (v_iload_n h pX4_worthOf_0 30 rfl 1 rfl rfl (v_imul h pX4_worthOf_0 31 rfl ?_)))
      exact v_iret h pX4_worthOf_1 0 hR hret rfl ((E, Kp, Bf, As, Q)) rfl ⟨vI (by simp [worthS, c1, c2, c3, c4, c5, c6]), rfl⟩
    by_cases c7 : E 2 y = 6
    · skip
      refine v_tin (tgt := 82) h pX4_worthOf_0 22 c7 rfl (by decide) (by decide) rfl rfl (v_iconst h pX4_worthOf_1 1 rfl ki_0 (v_iload_n h pX4_worthOf_1 2 rfl 0 rfl rfl (v_bipush h pX4_worthOf_1 3 rfl kb_10 (v_aload_n h pX4_worthOf_1 4 rfl 2 rfl rfl (v_iload_n h pX4_worthOf_1 5 rfl 3 rfl rfl ?_)))))
      refine v_iconst h pX4_worthOf_1 6 rfl ki_5 ?_
      refine v_callV h pX4_worthOf_1 7 mX4_64 (As := [.int (nI y), .int 5]) (st := [.int 10, .int ((E 5 y) + (E 4 y)), .int 0]) (kX4_its _ _ cI cS b E Kp Bf As Q y 5 (by omega) (by omega)) v0B v0C (vEmb_rf _ _) 0 rfl rfl rfl rfl rfl rfl rfl (vDet_k ?_)
      show V K (mW cI b (E, Kp, Bf, As, Q)) 92 [(3, .int ((E 5 y) + (E 4 y))), (2, .int (E 5 y)), (0, .ref (b 0)), (1, .int (nI y))] [.int (E 7 y), .int 10, .int ((E 5 y) + (E 4 y)), .int 0]
      refine v_imul h pX4_worthOf_1 8 rfl (v_isub h pX4_worthOf_1 9 rfl ?_)
      refine v_callS h pX4_worthOf_1 10 mX4_82 (As := [.int 0, .int (((E 5 y) + (E 4 y)) - (10 * (E 7 y)))]) (st := []) (kX4_greatest _ _ cI cS 0 (((E 5 y) + (E 4 y)) - (10 * (E 7 y)))) v0B v0C (vEmb_u _) rfl rfl rfl rfl rfl (vDet_k ?_)
      show V K (mW cI b (E, Kp, Bf, As, Q)) 97 [(3, .int ((E 5 y) + (E 4 y))), (2, .int (E 5 y)), (0, .ref (b 0)), (1, .int (nI y))] [.int (mx 0 (((E 5 y) + (E 4 y)) - (10 * (E 7 y))))]
      exact v_iret h pX4_worthOf_1 11 hR hret rfl ((E, Kp, Bf, As, Q)) rfl ⟨vI (by simp [worthS, c1, c2, c3, c4, c5, c6, c7]), rfl⟩
    refine v_tout (tgt := 98) h pX4_worthOf_0 22 rfl (sw_1_6 c2 c3 c4 c5 c6 c7) rfl (v_iload_n h pX4_worthOf_1 12 rfl 1 rfl rfl ?_)
    exact v_iret h pX4_worthOf_1 13 hR hret rfl ((E, Kp, Bf, As, Q)) rfl ⟨vI (by simp [worthS, c1, c2, c3, c4, c5, c6, c7]), rfl⟩
  · skip
    refine v_iconst h pX4_worthOf_0 16 rfl ki_0 ?_
    exact v_iret h pX4_worthOf_0 17 hR hret rfl ((E, Kp, Bf, As, Q)) rfl ⟨vI (by simp [worthS, c1]), rfl⟩
set_option maxHeartbeats 300000 in
set_option maxRecDepth 100000 in
theorem kX4_isHidden (l : Launch) (D : va_G) (cI cS : ClassId) (b : Nat → Nat) (E Kp Bf As Q : Nat → Nat → Int32) (y : Nat) (hy : y < 8) (n : Nat) (hW : Wf E n) : vDet l D (vT cI cS) yX4_isHidden cX4_isHidden 2 (some .boolean) 2 44 (mW cI b) [.ref (b 0), .int (nI y)] (E, Kp, Bf, As, Q) (some (.int (bI (hiddenS E y)))) ((E, Kp, Bf, As, Q)) := by
  refine vMet_of (by decide) rfl ?_
  intro K hl hD hnL hret h hR hEx
  subst hl hD
  show V K (mW cI b (E, Kp, Bf, As, Q)) 0 [(0, .ref (b 0)), (1, .int (nI y))] []
  refine v_aload_n h pX4_isHidden_0 0 rfl 0 rfl rfl (v_iload_n h pX4_isHidden_0 1 rfl 1 rfl rfl ?_)
  refine v_callV h pX4_isHidden_0 2 mX4_85 (As := [.int (nI y)]) (st := []) (kX4_isTold _ _ cI cS b E Kp Bf As Q y (by omega)) v0B v0C (vEmb_rf _ _) 0 rfl rfl rfl rfl rfl rfl rfl (vDet_k ?_)
  show V K (mW cI b (E, Kp, Bf, As, Q)) 5 [(0, .ref (b 0)), (1, .int (nI y))] [.int (bI (toldS E y))]
  refine v_bif_ne (tgt := 26) h pX4_isHidden_0 3 rfl rfl (fun c1 => ?_) (fun c1 => ?_)
  · skip
    refine v_iconst h pX4_isHidden_0 14 rfl ki_0 ?_
    exact v_zret h pX4_isHidden_0 15 (Or.inl rfl) hR hret rfl ((E, Kp, Bf, As, Q)) rfl ⟨vI (by simp [hiddenS, bI, c1, -Int32.not_lt]), rfl⟩
  · skip
    refine v_aload_n h pX4_isHidden_0 4 rfl 0 rfl rfl (v_iload_n h pX4_isHidden_0 5 rfl 1 rfl rfl (v_iconst h pX4_isHidden_0 6 rfl ki_3 ?_))
    refine v_callV h pX4_isHidden_0 7 mX4_64 (As := [.int (nI y), .int 3]) (st := []) (kX4_its _ _ cI cS b E Kp Bf As Q y 3 (by omega) (by omega)) v0B v0C (vEmb_rf _ _) 0 rfl rfl rfl rfl rfl rfl rfl (vDet_k ?_)
    show V K (mW cI b (E, Kp, Bf, As, Q)) 14 [(0, .ref (b 0)), (1, .int (nI y))] [.int (E 5 y)]
    refine v_aload_n h pX4_isHidden_0 8 rfl 0 rfl rfl (v_iload_n h pX4_isHidden_0 9 rfl 1 rfl rfl ?_)
    refine v_callV h pX4_isHidden_0 10 mX4_94 (As := [.int (nI y)]) (st := [.int (E 5 y)]) (kX4_needs _ _ cI cS b E Kp Bf As Q y (by omega) n hW) v0B v0C (vEmb_rf _ _) 0 rfl rfl rfl rfl rfl rfl rfl (vDet_k ?_)
    show V K (mW cI b (E, Kp, Bf, As, Q)) 19 [(0, .ref (b 0)), (1, .int (nI y))] [.int (needsS E y), .int (E 5 y)]
    refine v_icmp_lt (tgt := 26) h pX4_isHidden_0 11 rfl rfl (fun c2 => ?_) (fun c2 => ?_)
    · skip
      refine v_iconst h pX4_isHidden_0 14 rfl ki_0 ?_
      exact v_zret h pX4_isHidden_0 15 (Or.inl rfl) hR hret rfl ((E, Kp, Bf, As, Q)) rfl ⟨vI (by simp [hiddenS, bI, c1, c2, -Int32.not_lt]), rfl⟩
    · skip
      refine v_iconst h pX4_isHidden_0 12 rfl ki_1 (v_goto (tgt := 27) h pX4_isHidden_0 13 rfl rfl ?_)
      exact v_zret h pX4_isHidden_0 15 (Or.inr rfl) hR hret rfl ((E, Kp, Bf, As, Q)) rfl ⟨vI (by simp [hiddenS, bI, c1, c2, -Int32.not_lt]), rfl⟩
set_option maxHeartbeats 300000 in
set_option maxRecDepth 100000 in
theorem kX4_comesNew (l : Launch) (D : va_G) (cI cS : ClassId) (b : Nat → Nat) (E Kp Bf As Q : Nat → Nat → Int32) (n : Nat) (hW : Wf E n) (hn : n < 8) (k c : Int32) : vDet l D (vT cI cS) yX4_comesNew cX4_comesNew 4 none 1 21 (mW cI b) [.ref (b 0), .int k, .int c] (E, Kp, Bf, As, Q) (none) ((newS E n k c, Kp, Bf, As, Q)) := by
  refine vMet_of (by decide) rfl ?_
  intro K hl hD hnL hret h hR hEx
  subst hl hD
  show V K (mW cI b (E, Kp, Bf, As, Q)) 0 [(0, .ref (b 0)), (1, .int k), (2, .int c)] []
  have hn8 := hW.1
  refine v_aload_n h pX4_comesNew_0 0 rfl 0 rfl rfl (v_get h pX4_comesNew_0 1 fX4_7 0 rfl rfl rfl (v_iconst h pX4_comesNew_0 2 rfl ki_0 (v_iald h pX4_comesNew_0 3 0 1 0 rfl rfl rfl rfl rfl (by omega) (v_top (w := .int (E 9 0)) (congrArg Value.int rfl) (v_top (w := .int (nI n)) (congrArg Value.int hW.2.1) ?_)))))
  refine v_istore_n h pX4_comesNew_0 4 (lv' := [(3, .int (nI n)), (0, .ref (b 0)), (1, .int k), (2, .int c)]) rfl rfl hnL rfl rfl (v_aload_n h pX4_comesNew_0 5 rfl 1 rfl rfl (v_get h pX4_comesNew_0 6 fX4_7 0 rfl rfl rfl (v_iload_n h pX4_comesNew_0 7 rfl 0 rfl rfl (v_iconst h pX4_comesNew_0 8 rfl ki_0 ?_))))
  refine v_callS h pX4_comesNew_0 9 mX4_69 (As := [.int (nI n), .int 0]) (st := [.ref (b 1)]) (kX4_at _ _ cI cS n 0) v0B v0C (vEmb_u _) rfl rfl rfl rfl rfl (vDet_k ?_)
  show V K (mW cI b (E, Kp, Bf, As, Q)) 16 [(3, .int (nI n)), (0, .ref (b 0)), (1, .int k), (2, .int c)] [.int (nI (16 + 6 * n + 0)), .ref (b 1)]
  refine v_iload_n h pX4_comesNew_0 10 rfl 2 rfl rfl (v_iast h pX4_comesNew_0 11 (16 + 6 * n + 0) 1 0 (ws' := mW cI b (up E 2 n k, Kp, Bf, As, Q)) rfl rfl rfl rfl rfl (by omega) (mW_s (16 + 6 * n + 0) 2 n (flR_y (by omega) (by omega)) (flI_y (by omega) (by omega))) (v_aload_n h pX4_comesNew_0 12 rfl 1 rfl rfl (v_get h pX4_comesNew_0 13 fX4_7 0 rfl rfl rfl (v_iload_n h pX4_comesNew_0 14 rfl 0 rfl rfl (v_iconst h pX4_comesNew_0 15 rfl ki_1 ?_)))))
  refine v_callS h pX4_comesNew_0 16 mX4_69 (As := [.int (nI n), .int 1]) (st := [.ref (b 1)]) (kX4_at _ _ cI cS n 1) v0B v0C (vEmb_u _) rfl rfl rfl rfl rfl (vDet_k ?_)
  show V K (mW cI b (up E 2 n k, Kp, Bf, As, Q)) 27 [(3, .int (nI n)), (0, .ref (b 0)), (1, .int k), (2, .int c)] [.int (nI (16 + 6 * n + 1)), .ref (b 1)]
  refine v_iload_n h pX4_comesNew_0 17 rfl 3 rfl rfl (v_iast h pX4_comesNew_0 18 (16 + 6 * n + 1) 1 0 (ws' := mW cI b (up (up E 2 n k) 3 n c, Kp, Bf, As, Q)) rfl rfl rfl rfl rfl (by omega) (mW_s (16 + 6 * n + 1) 3 n (flR_y (by omega) (by omega)) (flI_y (by omega) (by omega))) (v_aload_n h pX4_comesNew_0 19 rfl 1 rfl rfl (v_get h pX4_comesNew_0 20 fX4_7 0 rfl rfl rfl (v_iload_n h pX4_comesNew_0 21 rfl 0 rfl rfl (v_iconst h pX4_comesNew_0 22 rfl ki_2 ?_)))))
  refine v_callS h pX4_comesNew_0 23 mX4_69 (As := [.int (nI n), .int 2]) (st := [.ref (b 1)]) (kX4_at _ _ cI cS n 2) v0B v0C (vEmb_u _) rfl rfl rfl rfl rfl (vDet_k ?_)
  show V K (mW cI b (up (up E 2 n k) 3 n c, Kp, Bf, As, Q)) 38 [(3, .int (nI n)), (0, .ref (b 0)), (1, .int k), (2, .int c)] [.int (nI (16 + 6 * n + 2)), .ref (b 1)]
  refine v_bipush h pX4_comesNew_0 24 rfl kb_10 (v_iast h pX4_comesNew_0 25 (16 + 6 * n + 2) 1 0 (ws' := mW cI b (up (up (up E 2 n k) 3 n c) 4 n 10, Kp, Bf, As, Q)) rfl rfl rfl rfl rfl (by omega) (mW_s (16 + 6 * n + 2) 4 n (flR_y (by omega) (by omega)) (flI_y (by omega) (by omega))) (v_aload_n h pX4_comesNew_0 26 rfl 1 rfl rfl (v_get h pX4_comesNew_0 27 fX4_7 0 rfl rfl rfl (v_iload_n h pX4_comesNew_0 28 rfl 0 rfl rfl (v_iconst h pX4_comesNew_0 29 rfl ki_3 ?_)))))
  refine v_callS h pX4_comesNew_0 30 mX4_69 (As := [.int (nI n), .int 3]) (st := [.ref (b 1)]) (kX4_at _ _ cI cS n 3) v0B v0C (vEmb_u _) rfl rfl rfl rfl rfl (vDet_k ?_)
  show V K (mW cI b (up (up (up E 2 n k) 3 n c) 4 n 10, Kp, Bf, As, Q)) 50 [(3, .int (nI n)), (0, .ref (b 0)), (1, .int k), (2, .int c)] [.int (nI (16 + 6 * n + 3)), .ref (b 1)]
  refine v_iconst h pX4_comesNew_0 31 rfl ki_0 (v_iast h pX4_comesNew_1 0 (16 + 6 * n + 3) 1 0 (ws' := mW cI b (up (up (up (up E 2 n k) 3 n c) 4 n 10) 5 n 0, Kp, Bf, As, Q)) rfl rfl rfl rfl rfl (by omega) (mW_s (16 + 6 * n + 3) 5 n (flR_y (by omega) (by omega)) (flI_y (by omega) (by omega))) (v_aload_n h pX4_comesNew_1 1 rfl 1 rfl rfl (v_get h pX4_comesNew_1 2 fX4_7 0 rfl rfl rfl (v_iload_n h pX4_comesNew_1 3 rfl 0 rfl rfl (v_iconst h pX4_comesNew_1 4 rfl ki_4 ?_)))))
  refine v_callS h pX4_comesNew_1 5 mX4_69 (As := [.int (nI n), .int 4]) (st := [.ref (b 1)]) (kX4_at _ _ cI cS n 4) v0B v0C (vEmb_u _) rfl rfl rfl rfl rfl (vDet_k ?_)
  show V K (mW cI b (up (up (up (up E 2 n k) 3 n c) 4 n 10) 5 n 0, Kp, Bf, As, Q)) 61 [(3, .int (nI n)), (0, .ref (b 0)), (1, .int k), (2, .int c)] [.int (nI (16 + 6 * n + 4)), .ref (b 1)]
  refine v_iconst h pX4_comesNew_1 6 rfl ki_0 (v_iast h pX4_comesNew_1 7 (16 + 6 * n + 4) 1 0 (ws' := mW cI b (up (up (up (up (up E 2 n k) 3 n c) 4 n 10) 5 n 0) 6 n 0, Kp, Bf, As, Q)) rfl rfl rfl rfl rfl (by omega) (mW_s (16 + 6 * n + 4) 6 n (flR_y (by omega) (by omega)) (flI_y (by omega) (by omega))) (v_aload_n h pX4_comesNew_1 8 rfl 1 rfl rfl (v_get h pX4_comesNew_1 9 fX4_7 0 rfl rfl rfl (v_iload_n h pX4_comesNew_1 10 rfl 0 rfl rfl (v_iconst h pX4_comesNew_1 11 rfl ki_5 ?_)))))
  refine v_callS h pX4_comesNew_1 12 mX4_69 (As := [.int (nI n), .int 5]) (st := [.ref (b 1)]) (kX4_at _ _ cI cS n 5) v0B v0C (vEmb_u _) rfl rfl rfl rfl rfl (vDet_k ?_)
  show V K (mW cI b (up (up (up (up (up E 2 n k) 3 n c) 4 n 10) 5 n 0) 6 n 0, Kp, Bf, As, Q)) 72 [(3, .int (nI n)), (0, .ref (b 0)), (1, .int k), (2, .int c)] [.int (nI (16 + 6 * n + 5)), .ref (b 1)]
  refine v_iconst h pX4_comesNew_1 13 rfl ki_0 (v_iast h pX4_comesNew_1 14 (16 + 6 * n + 5) 1 0 (ws' := mW cI b (up (up (up (up (up (up E 2 n k) 3 n c) 4 n 10) 5 n 0) 6 n 0) 7 n 0, Kp, Bf, As, Q)) rfl rfl rfl rfl rfl (by omega) (mW_s (16 + 6 * n + 5) 7 n (flR_y (by omega) (by omega)) (flI_y (by omega) (by omega))) (v_aload_n h pX4_comesNew_1 15 rfl 1 rfl rfl (v_get h pX4_comesNew_1 16 fX4_7 0 rfl rfl rfl (v_iconst h pX4_comesNew_1 17 rfl ki_0 (v_dup2 h pX4_comesNew_1 18 rfl rfl rfl ?_)))))
  refine v_iald h pX4_comesNew_1 19 0 1 0 rfl rfl rfl rfl rfl (by omega) (v_top (w := .int ((up (up (up (up (up (up E 2 n k) 3 n c) 4 n 10) 5 n 0) 6 n 0) 7 n 0) 9 0)) (congrArg Value.int rfl) (v_top (w := .int (E 9 0)) rfl (v_top (w := .int (nI n)) (congrArg Value.int hW.2.1) (v_iconst h pX4_comesNew_1 20 rfl ki_1 (v_iaddn h pX4_comesNew_1 21 n 1 rfl ?_)))))
  refine v_iast h pX4_comesNew_1 22 0 1 0 (ws' := mW cI b (up (up (up (up (up (up (up E 2 n k) 3 n c) 4 n 10) 5 n 0) 6 n 0) 7 n 0) 9 0 (nI (n + 1)), Kp, Bf, As, Q)) rfl rfl rfl rfl rfl (by omega) (mW_s 0 9 0 rfl rfl) ?_
  exact v_vret h pX4_comesNew_1 23 hR hret rfl ((up (up (up (up (up (up (up E 2 n k) 3 n c) 4 n 10) 5 n 0) 6 n 0) 7 n 0) 9 0 (nI (n + 1)), Kp, Bf, As, Q)) rfl ⟨rfl, (by exact congrArg (fun z : Nat → Nat → Int32 => ((z, Kp, Bf, As, Q) : mS)) (newS_m E n k c))⟩
set_option maxHeartbeats 300000 in
set_option maxRecDepth 100000 in
theorem kX4_toldOnes (l : Launch) (D : va_G) (cI cS : ClassId) (b : Nat → Nat) (E Kp Bf As Q : Nat → Nat → Int32) (n : Nat) (hW : Wf E n) : vDet l D (vT cI cS) yX4_toldOnes cX4_toldOnes 3 (some .int) 2 43 (mW cI b) [.ref (b 0)] (E, Kp, Bf, As, Q) (some (.int (setS (toldS E) n))) ((E, Kp, Bf, As, Q)) := by
  refine vMet_of (by decide) rfl ?_
  intro K hl hD hnL hret h hR hEx
  subst hl hD
  show V K (mW cI b (E, Kp, Bf, As, Q)) 0 [(0, .ref (b 0))] []
  have hn8 := hW.1
  refine v_iconst h pX4_toldOnes_0 0 rfl ki_0 (v_istore_n h pX4_toldOnes_0 1 (lv' := [(1, .int 0), (0, .ref (b 0))]) rfl rfl hnL rfl rfl (v_iconst h pX4_toldOnes_0 2 rfl ki_0 (v_istore_n h pX4_toldOnes_0 3 (lv' := [(2, .int 0), (1, .int 0), (0, .ref (b 0))]) rfl rfl hnL rfl rfl ?_)))
  refine v_lv [2, 1, 0] (lv' := [(0, .ref (b 0)), (1, .int 0), (2, .int 0)]) rfl ?_
  have L1 : ∀ (m i1 : Nat), i1 ≤ n → n + 1 ≤ i1 + m → V K (mW cI b (E, Kp, Bf, As, Q)) 4 [(0, .ref (b 0)), (1, .int (setS (toldS E) i1)), (2, .int (nI i1))] [] := by
    intro m
    induction m with
    | zero => exact fun i1 h1 h2 => absurd h2 (by omega)
    | succ m ih1 =>
      intro i1 hle1 hlt1
      refine v_iload_n h pX4_toldOnes_0 4 rfl 2 rfl rfl (v_aload_n h pX4_toldOnes_0 5 rfl 0 rfl rfl (v_get h pX4_toldOnes_0 6 fX4_7 0 rfl rfl rfl (v_iconst h pX4_toldOnes_0 7 rfl ki_0 (v_iald h pX4_toldOnes_0 8 0 1 0 rfl rfl rfl rfl rfl (by omega) (v_top (w := .int (E 9 0)) (congrArg Value.int rfl) ?_)))))
      refine v_top (w := .int (nI n)) (congrArg Value.int hW.2.1) ?_
      refine v_ncmp_ge (a := i1) (b := n) (tgt := 38) h pX4_toldOnes_0 9 rfl rfl (by omega) (by omega) (fun c2 => ?_) (fun c2 => ?_)
      · skip
        obtain rfl : n = i1 := by omega
        refine v_iload_n h pX4_toldOnes_0 24 rfl 1 rfl rfl ?_
        exact v_iret h pX4_toldOnes_0 25 hR hret rfl ((E, Kp, Bf, As, Q)) rfl ⟨vI rfl, rfl⟩
      · skip
        refine v_iload_n h pX4_toldOnes_0 10 rfl 1 rfl rfl (v_aload_n h pX4_toldOnes_0 11 rfl 0 rfl rfl (v_iload_n h pX4_toldOnes_0 12 rfl 2 rfl rfl ?_))
        refine v_callV h pX4_toldOnes_0 13 mX4_85 (As := [.int (nI i1)]) (st := [.int (setS (toldS E) i1)]) (kX4_isTold _ _ cI cS b E Kp Bf As Q i1 (by omega)) v0B v0C (vEmb_rf _ _) 0 rfl rfl rfl rfl rfl rfl rfl (vDet_k ?_)
        show V K (mW cI b (E, Kp, Bf, As, Q)) 20 [(0, .ref (b 0)), (1, .int (setS (toldS E) i1)), (2, .int (nI i1))] [.int (bI (toldS E i1)), .int (setS (toldS E) i1)]
        refine v_bif_eq (tgt := 29) h pX4_toldOnes_0 14 rfl rfl (fun c3 => ?_) (fun c3 => ?_)
        · skip
          refine v_iconst h pX4_toldOnes_0 19 rfl ki_0 (v_ior h pX4_toldOnes_0 20 rfl (v_istore_n h pX4_toldOnes_0 21 (lv' := [(1, .int ((setS (toldS E) i1) ||| 0)), (0, .ref (b 0)), (2, .int (nI i1))]) rfl rfl hnL rfl rfl (v_iinc h pX4_toldOnes_0 22 (v := nI (i1 + 1)) (lv' := [(2, .int (nI (i1 + 1))), (1, .int ((setS (toldS E) i1) ||| 0)), (0, .ref (b 0))]) rfl 2 rfl hnL rfl rfl (nI_1 i1) (v_goto (tgt := 4) h pX4_toldOnes_0 23 rfl rfl (v_lv [2, 1, 0] (lv' := [(0, .ref (b 0)), (1, .int ((setS (toldS E) i1) ||| 0)), (2, .int (nI (i1 + 1)))]) rfl ?_)))))
          refine v_eql (congrArg (fun z : Int32 => ([(0, .ref (b 0)), (1, .int z), (2, .int (nI (i1 + 1)))] : List (Nat × Value))) (by simp [setS, c2, c3] : (setS (toldS E) i1) ||| 0 = setS (toldS E) (i1 + 1))) ?_
          exact ih1 (i1 + 1) (by omega) (by omega)
        · skip
          refine v_iconst h pX4_toldOnes_0 15 rfl ki_1 (v_iload_n h pX4_toldOnes_0 16 rfl 2 rfl rfl (v_ishl h pX4_toldOnes_0 17 rfl (v_goto (tgt := 30) h pX4_toldOnes_0 18 rfl rfl (v_ior h pX4_toldOnes_0 20 rfl (v_istore_n h pX4_toldOnes_0 21 (lv' := [(1, .int ((setS (toldS E) i1) ||| (1 <<< ((nI i1) &&& 31)))), (0, .ref (b 0)), (2, .int (nI i1))]) rfl rfl hnL rfl rfl ?_)))))
          refine v_iinc h pX4_toldOnes_0 22 (v := nI (i1 + 1)) (lv' := [(2, .int (nI (i1 + 1))), (1, .int ((setS (toldS E) i1) ||| (1 <<< ((nI i1) &&& 31)))), (0, .ref (b 0))]) rfl 2 rfl hnL rfl rfl (nI_1 i1) (v_goto (tgt := 4) h pX4_toldOnes_0 23 rfl rfl (v_lv [2, 1, 0] (lv' := [(0, .ref (b 0)), (1, .int ((setS (toldS E) i1) ||| (1 <<< ((nI i1) &&& 31)))), (2, .int (nI (i1 + 1)))]) rfl (v_eql (congrArg (fun z : Int32 => ([(0, .ref (b 0)), (1, .int z), (2, .int (nI (i1 + 1)))] : List (Nat × Value))) (by simp [setS, c2, c3] : (setS (toldS E) i1) ||| (1 <<< ((nI i1) &&& 31)) = setS (toldS E) (i1 + 1))) ?_)))
          exact ih1 (i1 + 1) (by omega) (by omega)
  exact L1 (n + 1) 0 (by omega) (by omega)
set_option maxHeartbeats 300000 in
set_option maxRecDepth 100000 in
theorem kX4_hiddenOnes (l : Launch) (D : va_G) (cI cS : ClassId) (b : Nat → Nat) (E Kp Bf As Q : Nat → Nat → Int32) (n : Nat) (hW : Wf E n) : vDet l D (vT cI cS) yX4_hiddenOnes cX4_hiddenOnes 3 (some .int) 3 65 (mW cI b) [.ref (b 0)] (E, Kp, Bf, As, Q) (some (.int (setS (hiddenS E) n))) ((E, Kp, Bf, As, Q)) := by
  refine vMet_of (by decide) rfl ?_
  intro K hl hD hnL hret h hR hEx
  subst hl hD
  show V K (mW cI b (E, Kp, Bf, As, Q)) 0 [(0, .ref (b 0))] []
  have hn8 := hW.1
  refine v_iconst h pX4_hiddenOnes_0 0 rfl ki_0 (v_istore_n h pX4_hiddenOnes_0 1 (lv' := [(1, .int 0), (0, .ref (b 0))]) rfl rfl hnL rfl rfl (v_iconst h pX4_hiddenOnes_0 2 rfl ki_0 (v_istore_n h pX4_hiddenOnes_0 3 (lv' := [(2, .int 0), (1, .int 0), (0, .ref (b 0))]) rfl rfl hnL rfl rfl ?_)))
  refine v_lv [2, 1, 0] (lv' := [(0, .ref (b 0)), (1, .int 0), (2, .int 0)]) rfl ?_
  have L1 : ∀ (m i1 : Nat), i1 ≤ n → n + 1 ≤ i1 + m → V K (mW cI b (E, Kp, Bf, As, Q)) 4 [(0, .ref (b 0)), (1, .int (setS (hiddenS E) i1)), (2, .int (nI i1))] [] := by
    intro m
    induction m with
    | zero => exact fun i1 h1 h2 => absurd h2 (by omega)
    | succ m ih1 =>
      intro i1 hle1 hlt1
      refine v_iload_n h pX4_hiddenOnes_0 4 rfl 2 rfl rfl (v_aload_n h pX4_hiddenOnes_0 5 rfl 0 rfl rfl (v_get h pX4_hiddenOnes_0 6 fX4_7 0 rfl rfl rfl (v_iconst h pX4_hiddenOnes_0 7 rfl ki_0 (v_iald h pX4_hiddenOnes_0 8 0 1 0 rfl rfl rfl rfl rfl (by omega) (v_top (w := .int (E 9 0)) (congrArg Value.int rfl) ?_)))))
      refine v_top (w := .int (nI n)) (congrArg Value.int hW.2.1) ?_
      refine v_ncmp_ge (a := i1) (b := n) (tgt := 38) h pX4_hiddenOnes_0 9 rfl rfl (by omega) (by omega) (fun c2 => ?_) (fun c2 => ?_)
      · skip
        obtain rfl : n = i1 := by omega
        refine v_iload_n h pX4_hiddenOnes_0 24 rfl 1 rfl rfl ?_
        exact v_iret h pX4_hiddenOnes_0 25 hR hret rfl ((E, Kp, Bf, As, Q)) rfl ⟨vI rfl, rfl⟩
      · skip
        refine v_iload_n h pX4_hiddenOnes_0 10 rfl 1 rfl rfl (v_aload_n h pX4_hiddenOnes_0 11 rfl 0 rfl rfl (v_iload_n h pX4_hiddenOnes_0 12 rfl 2 rfl rfl ?_))
        refine v_callV h pX4_hiddenOnes_0 13 mX4_108 (As := [.int (nI i1)]) (st := [.int (setS (hiddenS E) i1)]) (kX4_isHidden _ _ cI cS b E Kp Bf As Q i1 (by omega) n hW) v0B v0C (vEmb_rf _ _) 0 rfl rfl rfl rfl rfl rfl rfl (vDet_k ?_)
        show V K (mW cI b (E, Kp, Bf, As, Q)) 20 [(0, .ref (b 0)), (1, .int (setS (hiddenS E) i1)), (2, .int (nI i1))] [.int (bI (hiddenS E i1)), .int (setS (hiddenS E) i1)]
        refine v_bif_eq (tgt := 29) h pX4_hiddenOnes_0 14 rfl rfl (fun c3 => ?_) (fun c3 => ?_)
        · skip
          refine v_iconst h pX4_hiddenOnes_0 19 rfl ki_0 (v_ior h pX4_hiddenOnes_0 20 rfl (v_istore_n h pX4_hiddenOnes_0 21 (lv' := [(1, .int ((setS (hiddenS E) i1) ||| 0)), (0, .ref (b 0)), (2, .int (nI i1))]) rfl rfl hnL rfl rfl (v_iinc h pX4_hiddenOnes_0 22 (v := nI (i1 + 1)) (lv' := [(2, .int (nI (i1 + 1))), (1, .int ((setS (hiddenS E) i1) ||| 0)), (0, .ref (b 0))]) rfl 2 rfl hnL rfl rfl (nI_1 i1) (v_goto (tgt := 4) h pX4_hiddenOnes_0 23 rfl rfl (v_lv [2, 1, 0] (lv' := [(0, .ref (b 0)), (1, .int ((setS (hiddenS E) i1) ||| 0)), (2, .int (nI (i1 + 1)))]) rfl ?_)))))
          refine v_eql (congrArg (fun z : Int32 => ([(0, .ref (b 0)), (1, .int z), (2, .int (nI (i1 + 1)))] : List (Nat × Value))) (by simp [setS, c2, c3] : (setS (hiddenS E) i1) ||| 0 = setS (hiddenS E) (i1 + 1))) ?_
          exact ih1 (i1 + 1) (by omega) (by omega)
        · skip
          refine v_iconst h pX4_hiddenOnes_0 15 rfl ki_1 (v_iload_n h pX4_hiddenOnes_0 16 rfl 2 rfl rfl (v_ishl h pX4_hiddenOnes_0 17 rfl (v_goto (tgt := 30) h pX4_hiddenOnes_0 18 rfl rfl (v_ior h pX4_hiddenOnes_0 20 rfl (v_istore_n h pX4_hiddenOnes_0 21 (lv' := [(1, .int ((setS (hiddenS E) i1) ||| (1 <<< ((nI i1) &&& 31)))), (0, .ref (b 0)), (2, .int (nI i1))]) rfl rfl hnL rfl rfl ?_)))))
          refine v_iinc h pX4_hiddenOnes_0 22 (v := nI (i1 + 1)) (lv' := [(2, .int (nI (i1 + 1))), (1, .int ((setS (hiddenS E) i1) ||| (1 <<< ((nI i1) &&& 31)))), (0, .ref (b 0))]) rfl 2 rfl hnL rfl rfl (nI_1 i1) (v_goto (tgt := 4) h pX4_hiddenOnes_0 23 rfl rfl (v_lv [2, 1, 0] (lv' := [(0, .ref (b 0)), (1, .int ((setS (hiddenS E) i1) ||| (1 <<< ((nI i1) &&& 31)))), (2, .int (nI (i1 + 1)))]) rfl (v_eql (congrArg (fun z : Int32 => ([(0, .ref (b 0)), (1, .int z), (2, .int (nI (i1 + 1)))] : List (Nat × Value))) (by simp [setS, c2, c3] : (setS (hiddenS E) i1) ||| (1 <<< ((nI i1) &&& 31)) = setS (hiddenS E) (i1 + 1))) ?_)))
          exact ih1 (i1 + 1) (by omega) (by omega)
  exact L1 (n + 1) 0 (by omega) (by omega)
set_option maxHeartbeats 300000 in
set_option maxRecDepth 100000 in
theorem kX4_sumOf (l : Launch) (D : va_G) (cI cS : ClassId) (b : Nat → Nat) (E Kp Bf As Q : Nat → Nat → Int32) (n : Nat) (hW : Wf E n) (w : Nat) (hw : w < 6) : vDet l D (vT cI cS) yX4_sumOf cX4_sumOf 4 (some .int) 1 22 (mW cI b) [.ref (b 0), .int (nI w)] (E, Kp, Bf, As, Q) (some (.int (sumS (E (2 + w)) n))) ((E, Kp, Bf, As, Q)) := by
  refine vMet_of (by decide) rfl ?_
  intro K hl hD hnL hret h hR hEx
  subst hl hD
  show V K (mW cI b (E, Kp, Bf, As, Q)) 0 [(0, .ref (b 0)), (1, .int (nI w))] []
  have hn8 := hW.1
  refine v_iconst h pX4_sumOf_0 0 rfl ki_0 (v_istore_n h pX4_sumOf_0 1 (lv' := [(2, .int 0), (0, .ref (b 0)), (1, .int (nI w))]) rfl rfl hnL rfl rfl (v_iconst h pX4_sumOf_0 2 rfl ki_0 (v_istore_n h pX4_sumOf_0 3 (lv' := [(3, .int 0), (2, .int 0), (0, .ref (b 0)), (1, .int (nI w))]) rfl rfl hnL rfl rfl ?_)))
  refine v_lv [2, 3, 1, 0] (lv' := [(0, .ref (b 0)), (1, .int (nI w)), (2, .int 0), (3, .int 0)]) rfl ?_
  have L1 : ∀ (m i1 : Nat), i1 ≤ n → n + 1 ≤ i1 + m → V K (mW cI b (E, Kp, Bf, As, Q)) 4 [(0, .ref (b 0)), (1, .int (nI w)), (2, .int (sumS (E (2 + w)) i1)), (3, .int (nI i1))] [] := by
    intro m
    induction m with
    | zero => exact fun i1 h1 h2 => absurd h2 (by omega)
    | succ m ih1 =>
      intro i1 hle1 hlt1
      refine v_iload_n h pX4_sumOf_0 4 rfl 3 rfl rfl (v_aload_n h pX4_sumOf_0 5 rfl 0 rfl rfl (v_get h pX4_sumOf_0 6 fX4_7 0 rfl rfl rfl (v_iconst h pX4_sumOf_0 7 rfl ki_0 (v_iald h pX4_sumOf_0 8 0 1 0 rfl rfl rfl rfl rfl (by omega) (v_top (w := .int (E 9 0)) (congrArg Value.int rfl) ?_)))))
      refine v_top (w := .int (nI n)) (congrArg Value.int hW.2.1) ?_
      refine v_ncmp_ge (a := i1) (b := n) (tgt := 29) h pX4_sumOf_0 9 rfl rfl (by omega) (by omega) (fun c2 => ?_) (fun c2 => ?_)
      · skip
        obtain rfl : n = i1 := by omega
        refine v_iload_n h pX4_sumOf_0 19 rfl 2 rfl rfl ?_
        exact v_iret h pX4_sumOf_0 20 hR hret rfl ((E, Kp, Bf, As, Q)) rfl ⟨vI rfl, rfl⟩
      · skip
        refine v_iload_n h pX4_sumOf_0 10 rfl 2 rfl rfl (v_aload_n h pX4_sumOf_0 11 rfl 0 rfl rfl (v_iload_n h pX4_sumOf_0 12 rfl 3 rfl rfl (v_iload_n h pX4_sumOf_0 13 rfl 1 rfl rfl ?_)))
        refine v_callV h pX4_sumOf_0 14 mX4_64 (As := [.int (nI i1), .int (nI w)]) (st := [.int (sumS (E (2 + w)) i1)]) (kX4_its _ _ cI cS b E Kp Bf As Q i1 w (by omega) (by omega)) v0B v0C (vEmb_rf _ _) 0 rfl rfl rfl rfl rfl rfl rfl (vDet_k ?_)
        show V K (mW cI b (E, Kp, Bf, As, Q)) 21 [(0, .ref (b 0)), (1, .int (nI w)), (2, .int (sumS (E (2 + w)) i1)), (3, .int (nI i1))] [.int (E (2 + w) i1), .int (sumS (E (2 + w)) i1)]
        refine v_iadd h pX4_sumOf_0 15 rfl (v_istore_n h pX4_sumOf_0 16 (lv' := [(2, .int ((sumS (E (2 + w)) i1) + (E (2 + w) i1))), (0, .ref (b 0)), (1, .int (nI w)), (3, .int (nI i1))]) rfl rfl hnL rfl rfl (v_iinc h pX4_sumOf_0 17 (v := nI (i1 + 1)) (lv' := [(3, .int (nI (i1 + 1))), (2, .int ((sumS (E (2 + w)) i1) + (E (2 + w) i1))), (0, .ref (b 0)), (1, .int (nI w))]) rfl 3 rfl hnL rfl rfl (nI_1 i1) (v_goto (tgt := 4) h pX4_sumOf_0 18 rfl rfl (v_lv [2, 3, 1, 0] (lv' := [(0, .ref (b 0)), (1, .int (nI w)), (2, .int ((sumS (E (2 + w)) i1) + (E (2 + w) i1))), (3, .int (nI (i1 + 1)))]) rfl ?_))))
        exact ih1 (i1 + 1) (by omega) (by omega)
  exact L1 (n + 1) 0 (by omega) (by omega)
set_option maxHeartbeats 300000 in
set_option maxRecDepth 100000 in
theorem kX4_yearBut (l : Launch) (D : va_G) (cI cS : ClassId) (b : Nat → Nat) (E Kp Bf As Q : Nat → Nat → Int32) (n : Nat) (hW : Wf E n) (yb : Nat) (hY : bd (E 9 2) yb) (hyb : yb + 1 ≤ 99999) (u : Int32) : vDet l D (vT cI cS) yX4_yearBut cX4_yearBut 5 none 3 65 (mW cI b) [.ref (b 0), .int u] (E, Kp, Bf, As, Q) (none) ((yearS n u E, Kp, Bf, As, Q)) := by
  refine vMet_of (by decide) rfl ?_
  intro K hl hD hnL hret h hR hEx
  subst hl hD
  show V K (mW cI b (E, Kp, Bf, As, Q)) 0 [(0, .ref (b 0)), (1, .int u)] []
  have hn8 := hW.1
  refine v_iconst h pX4_yearBut_0 0 rfl ki_0 (v_istore_n h pX4_yearBut_0 1 (lv' := [(2, .int 0), (0, .ref (b 0)), (1, .int u)]) rfl rfl hnL rfl rfl ?_)
  refine v_lv [1, 2, 0] (lv' := [(0, .ref (b 0)), (1, .int u), (2, .int 0)]) rfl ?_
  have L1 : ∀ (m i1 : Nat), i1 ≤ n → n + 1 ≤ i1 + m → V K (mW cI b (growN u E i1, Kp, Bf, As, Q)) 2 [(0, .ref (b 0)), (1, .int u), (2, .int (nI i1))] [] := by
    intro m
    induction m with
    | zero => exact fun i1 h1 h2 => absurd h2 (by omega)
    | succ m ih1 =>
      intro i1 hle1 hlt1
      have hWSA : Wf (growN u E i1) n := (Wf_growN hW u i1 (by omega))
      generalize hSA : growN u E i1 = SA at hWSA ⊢
      refine v_iload_n h pX4_yearBut_0 2 rfl 2 rfl rfl (v_aload_n h pX4_yearBut_0 3 rfl 0 rfl rfl (v_get h pX4_yearBut_0 4 fX4_7 0 rfl rfl rfl (v_iconst h pX4_yearBut_0 5 rfl ki_0 (v_iald h pX4_yearBut_0 6 0 1 0 rfl rfl rfl rfl rfl (by omega) (v_top (w := .int (SA 9 0)) (congrArg Value.int rfl) ?_)))))
      refine v_top (w := .int (nI n)) (congrArg Value.int hWSA.2.1) ?_
      refine v_ncmp_ge (a := i1) (b := n) (tgt := 100) h pX4_yearBut_0 7 rfl rfl (by omega) (by omega) (fun c3 => ?_) (fun c3 => ?_)
      · skip
        obtain rfl : n = i1 := by omega
        refine v_iconst h pX4_yearBut_1 29 rfl ki_0 (v_istore_n h pX4_yearBut_1 30 (lv' := [(2, .int 0), (0, .ref (b 0)), (1, .int u)]) rfl rfl hnL rfl rfl ?_)
        refine v_lv [1, 2, 0] (lv' := [(0, .ref (b 0)), (1, .int u), (2, .int 0)]) rfl ?_
        have L4 : ∀ (m i4 : Nat), i4 ≤ n → n + 1 ≤ i4 + m → V K (mW cI b (showN SA i4, Kp, Bf, As, Q)) 102 [(0, .ref (b 0)), (1, .int u), (2, .int (nI i4))] [] := by
          intro m
          induction m with
          | zero => exact fun i4 h1 h2 => absurd h2 (by omega)
          | succ m ih4 =>
            intro i4 hle4 hlt4
            have hWSB : Wf (showN SA i4) n := (Wf_showN hWSA i4 (by omega))
            generalize hSB : showN SA i4 = SB at hWSB ⊢
            refine v_iload_n h pX4_yearBut_1 31 rfl 2 rfl rfl (v_aload_n h pX4_yearBut_2 0 rfl 0 rfl rfl (v_get h pX4_yearBut_2 1 fX4_7 0 rfl rfl rfl (v_iconst h pX4_yearBut_2 2 rfl ki_0 (v_iald h pX4_yearBut_2 3 0 1 0 rfl rfl rfl rfl rfl (by omega) (v_top (w := .int (SB 9 0)) (congrArg Value.int rfl) ?_)))))
            refine v_top (w := .int (nI n)) (congrArg Value.int hWSB.2.1) ?_
            refine v_ncmp_ge (a := i4) (b := n) (tgt := 189) h pX4_yearBut_2 4 rfl rfl (by omega) (by omega) (fun c6 => ?_) (fun c6 => ?_)
            · skip
              obtain rfl : n = i4 := by omega
              refine v_iconst h pX4_yearBut_3 15 rfl ki_0 (v_istore_n h pX4_yearBut_3 16 (lv' := [(2, .int 0), (0, .ref (b 0)), (1, .int u)]) rfl rfl hnL rfl rfl ?_)
              refine v_lv [1, 2, 0] (lv' := [(0, .ref (b 0)), (1, .int u), (2, .int 0)]) rfl ?_
              have L7 : ∀ (m i7 : Nat), i7 ≤ n → n + 1 ≤ i7 + m → V K (mW cI b (ageN SB i7, Kp, Bf, As, Q)) 191 [(0, .ref (b 0)), (1, .int u), (2, .int (nI i7))] [] := by
                intro m
                induction m with
                | zero => exact fun i7 h1 h2 => absurd h2 (by omega)
                | succ m ih7 =>
                  intro i7 hle7 hlt7
                  have hWSC : Wf (ageN SB i7) n := (Wf_ageN hWSB i7 (by omega))
                  generalize hSC : ageN SB i7 = SC at hWSC ⊢
                  refine v_iload_n h pX4_yearBut_3 17 rfl 2 rfl rfl (v_aload_n h pX4_yearBut_3 18 rfl 0 rfl rfl (v_get h pX4_yearBut_3 19 fX4_7 0 rfl rfl rfl (v_iconst h pX4_yearBut_3 20 rfl ki_0 (v_iald h pX4_yearBut_3 21 0 1 0 rfl rfl rfl rfl rfl (by omega) (v_top (w := .int (SC 9 0)) (congrArg Value.int rfl) ?_)))))
                  refine v_top (w := .int (nI n)) (congrArg Value.int hWSC.2.1) ?_
                  refine v_ncmp_ge (a := i7) (b := n) (tgt := 231) h pX4_yearBut_3 22 rfl rfl (by omega) (by omega) (fun c9 => ?_) (fun c9 => ?_)
                  · skip
                    obtain rfl : n = i7 := by omega
                    refine v_iconst h pX4_yearBut_4 7 rfl ki_0 (v_istore_n h pX4_yearBut_4 8 (lv' := [(2, .int 0), (0, .ref (b 0)), (1, .int u)]) rfl rfl hnL rfl rfl ?_)
                    refine v_lv [1, 2, 0] (lv' := [(0, .ref (b 0)), (1, .int u), (2, .int 0)]) rfl ?_
                    have L10 : ∀ (m i10 : Nat), i10 ≤ 6 → 6 + 1 ≤ i10 + m → V K (mW cI b (nacN SC i10, Kp, Bf, As, Q)) 233 [(0, .ref (b 0)), (1, .int u), (2, .int (nI i10))] [] := by
                      intro m
                      induction m with
                      | zero => exact fun i10 h1 h2 => absurd h2 (by omega)
                      | succ m ih10 =>
                        intro i10 hle10 hlt10
                        generalize hSD : nacN SC i10 = SD
                        refine v_iload_n h pX4_yearBut_4 9 rfl 2 rfl rfl (v_bipush h pX4_yearBut_4 10 rfl kb_6 ?_)
                        refine v_ncmp_ge (a := i10) (b := 6) (tgt := 274) h pX4_yearBut_4 11 rfl rfl (by omega) (by omega) (fun c12 => ?_) (fun c12 => ?_)
                        · skip
                          obtain rfl : 6 = i10 := by omega
                          refine v_aload_n h pX4_yearBut_5 1 rfl 0 rfl rfl (v_get h pX4_yearBut_5 2 fX4_7 0 rfl rfl rfl (v_iconst h pX4_yearBut_5 3 rfl ki_1 (v_dup2 h pX4_yearBut_5 4 rfl rfl rfl (v_iald h pX4_yearBut_5 5 1 1 0 rfl rfl rfl rfl rfl (by omega) (v_top (w := .int (SD 9 2)) (congrArg Value.int rfl) ?_)))))
                          refine v_iconst h pX4_yearBut_5 6 rfl ki_1 (v_iadd h pX4_yearBut_5 7 rfl (v_iast h pX4_yearBut_5 8 1 1 0 (ws' := mW cI b (up SD 9 2 ((SD 9 2) + 1), Kp, Bf, As, Q)) rfl rfl rfl rfl rfl (by omega) (mW_s 1 9 2 rfl rfl) ?_))
                          exact v_vret h pX4_yearBut_5 9 hR hret rfl ((up SD 9 2 ((SD 9 2) + 1), Kp, Bf, As, Q)) rfl ⟨rfl, (by subst hSD; subst hSC; subst hSB; subst hSA; have e : yr0 n u E 9 2 = E 9 2 := congrFun (yr0_9 n u E) 2; exact congrArg (fun z : Nat → Nat → Int32 => ((z, Kp, Bf, As, Q) : mS)) (by unfold yearS; rw [e, year_in hY hyb, ← e]; rfl))⟩
                        · skip
                          refine v_aload_n h pX4_yearBut_4 12 rfl 0 rfl rfl (v_get h pX4_yearBut_4 13 fX4_7 0 rfl rfl rfl (v_iconst h pX4_yearBut_4 14 rfl ki_4 (v_iload_n h pX4_yearBut_4 15 rfl 2 rfl rfl (v_iaddn h pX4_yearBut_4 16 4 i10 rfl (v_sipush h pX4_yearBut_4 17 rfl ks_999 ?_)))))
                          refine v_aload_n h pX4_yearBut_4 18 rfl 0 rfl rfl (v_get h pX4_yearBut_4 19 fX4_7 0 rfl rfl rfl (v_iconst h pX4_yearBut_4 20 rfl ki_4 (v_iload_n h pX4_yearBut_4 21 rfl 2 rfl rfl (v_iaddn h pX4_yearBut_4 22 4 i10 rfl (v_iald h pX4_yearBut_4 23 (4 + i10) 1 0 rfl rfl rfl rfl rfl (by omega) ?_)))))
                          refine v_top (w := .int (SD 0 i10)) (congrArg Value.int (fl_n _ (by omega))) (v_aload_n h pX4_yearBut_4 24 rfl 0 rfl rfl (v_get h pX4_yearBut_4 25 fX4_7 0 rfl rfl rfl (v_iconst h pX4_yearBut_4 26 rfl ki_3 (v_iald h pX4_yearBut_4 27 3 1 0 rfl rfl rfl rfl rfl (by omega) (v_top (w := .int (SD 9 1)) (congrArg Value.int rfl) ?_)))))
                          refine v_iadd h pX4_yearBut_4 28 rfl ?_
                          refine v_callS h pX4_yearBut_4 29 mX4_79 (As := [.int 999, .int ((SD 0 i10) + (SD 9 1))]) (st := [.int (nI (4 + i10)), .ref (b 1)]) (kX4_least _ _ cI cS 999 ((SD 0 i10) + (SD 9 1))) v0B v0C (vEmb_u _) rfl rfl rfl rfl rfl (vDet_k ?_)
                          show V K (mW cI b (SD, Kp, Bf, As, Q)) 267 [(0, .ref (b 0)), (1, .int u), (2, .int (nI i10))] [.int (mn 999 ((SD 0 i10) + (SD 9 1))), .int (nI (4 + i10)), .ref (b 1)]
                          refine v_iast h pX4_yearBut_4 30 (4 + i10) 1 0 (ws' := mW cI b (up SD 0 i10 (mn 999 ((SD 0 i10) + (SD 9 1))), Kp, Bf, As, Q)) rfl rfl rfl rfl rfl (by omega) (mW_s (4 + i10) 0 i10 (flR_n (by omega)) (flI_n (by omega))) (v_iinc h pX4_yearBut_4 31 (v := nI (i10 + 1)) (lv' := [(2, .int (nI (i10 + 1))), (0, .ref (b 0)), (1, .int u)]) rfl 2 rfl hnL rfl rfl (nI_1 i10) (v_goto (tgt := 233) h pX4_yearBut_5 0 rfl rfl (v_lv [1, 2, 0] (lv' := [(0, .ref (b 0)), (1, .int u), (2, .int (nI (i10 + 1)))]) rfl (v_eqw (ws' := mW cI b (nacN SC (i10 + 1), Kp, Bf, As, Q)) (by rw [nacN, hSD]) ?_))))
                          exact ih10 (i10 + 1) (by omega) (by omega)
                    exact L10 (6 + 1) 0 (by omega) (by omega)
                  · skip
                    refine v_aload_n h pX4_yearBut_3 23 rfl 0 rfl rfl (v_get h pX4_yearBut_3 24 fX4_7 0 rfl rfl rfl (v_iload_n h pX4_yearBut_3 25 rfl 2 rfl rfl (v_iconst h pX4_yearBut_3 26 rfl ki_4 ?_)))
                    refine v_callS h pX4_yearBut_3 27 mX4_69 (As := [.int (nI i7), .int 4]) (st := [.ref (b 1)]) (kX4_at _ _ cI cS i7 4) v0B v0C (vEmb_u _) rfl rfl rfl rfl rfl (vDet_k ?_)
                    show V K (mW cI b (SC, Kp, Bf, As, Q)) 210 [(0, .ref (b 0)), (1, .int u), (2, .int (nI i7))] [.int (nI (16 + 6 * i7 + 4)), .ref (b 1)]
                    refine v_sipush h pX4_yearBut_3 28 rfl ks_999 (v_aload_n h pX4_yearBut_3 29 rfl 0 rfl rfl (v_iload_n h pX4_yearBut_3 30 rfl 2 rfl rfl (v_iconst h pX4_yearBut_3 31 rfl ki_4 ?_)))
                    refine v_callV h pX4_yearBut_4 0 mX4_64 (As := [.int (nI i7), .int 4]) (st := [.int 999, .int (nI (16 + 6 * i7 + 4)), .ref (b 1)]) (kX4_its _ _ cI cS b SC Kp Bf As Q i7 4 (by omega) (by omega)) v0B v0C (vEmb_rf _ _) 0 rfl rfl rfl rfl rfl rfl rfl (vDet_k ?_)
                    show V K (mW cI b (SC, Kp, Bf, As, Q)) 219 [(0, .ref (b 0)), (1, .int u), (2, .int (nI i7))] [.int (SC 6 i7), .int 999, .int (nI (16 + 6 * i7 + 4)), .ref (b 1)]
                    refine v_iconst h pX4_yearBut_4 1 rfl ki_1 (v_iadd h pX4_yearBut_4 2 rfl ?_)
                    refine v_callS h pX4_yearBut_4 3 mX4_79 (As := [.int 999, .int ((SC 6 i7) + 1)]) (st := [.int (nI (16 + 6 * i7 + 4)), .ref (b 1)]) (kX4_least _ _ cI cS 999 ((SC 6 i7) + 1)) v0B v0C (vEmb_u _) rfl rfl rfl rfl rfl (vDet_k ?_)
                    show V K (mW cI b (SC, Kp, Bf, As, Q)) 224 [(0, .ref (b 0)), (1, .int u), (2, .int (nI i7))] [.int (mn 999 ((SC 6 i7) + 1)), .int (nI (16 + 6 * i7 + 4)), .ref (b 1)]
                    refine v_iast h pX4_yearBut_4 4 (16 + 6 * i7 + 4) 1 0 (ws' := mW cI b (up SC 6 i7 (mn 999 ((SC 6 i7) + 1)), Kp, Bf, As, Q)) rfl rfl rfl rfl rfl (by omega) (mW_s (16 + 6 * i7 + 4) 6 i7 (flR_y (by omega) (by omega)) (flI_y (by omega) (by omega))) (v_iinc h pX4_yearBut_4 5 (v := nI (i7 + 1)) (lv' := [(2, .int (nI (i7 + 1))), (0, .ref (b 0)), (1, .int u)]) rfl 2 rfl hnL rfl rfl (nI_1 i7) (v_goto (tgt := 191) h pX4_yearBut_4 6 rfl rfl (v_lv [1, 2, 0] (lv' := [(0, .ref (b 0)), (1, .int u), (2, .int (nI (i7 + 1)))]) rfl (v_eqw (ws' := mW cI b (ageN SB (i7 + 1), Kp, Bf, As, Q)) (by rw [ageN, hSC]) ?_))))
                    exact ih7 (i7 + 1) (by omega) (by omega)
              exact L7 (n + 1) 0 (by omega) (by omega)
            · skip
              refine v_aload_n h pX4_yearBut_2 5 rfl 0 rfl rfl (v_iload_n h pX4_yearBut_2 6 rfl 2 rfl rfl ?_)
              refine v_callV h pX4_yearBut_2 7 mX4_85 (As := [.int (nI i4)]) (st := []) (kX4_isTold _ _ cI cS b SB Kp Bf As Q i4 (by omega)) v0B v0C (vEmb_rf _ _) 0 rfl rfl rfl rfl rfl rfl rfl (vDet_k ?_)
              show V K (mW cI b (SB, Kp, Bf, As, Q)) 117 [(0, .ref (b 0)), (1, .int u), (2, .int (nI i4))] [.int (bI (toldS SB i4))]
              refine v_bif_ne (tgt := 183) h pX4_yearBut_2 8 rfl rfl (fun c13 => ?_) (fun c13 => ?_)
              · skip
                refine v_iinc h pX4_yearBut_3 13 (v := nI (i4 + 1)) (lv' := [(2, .int (nI (i4 + 1))), (0, .ref (b 0)), (1, .int u)]) rfl 2 rfl hnL rfl rfl (nI_1 i4) (v_goto (tgt := 102) h pX4_yearBut_3 14 rfl rfl (v_lv [1, 2, 0] (lv' := [(0, .ref (b 0)), (1, .int u), (2, .int (nI (i4 + 1)))]) rfl (v_eqw (ws' := mW cI b (showN SA (i4 + 1), Kp, Bf, As, Q)) (by rw [showN, hSB]; simp [opsS, showS, c3, c6, c13]) ?_)))
                exact ih4 (i4 + 1) (by omega) (by omega)
              · skip
                refine v_aload_n h pX4_yearBut_2 9 rfl 0 rfl rfl (v_iload_n h pX4_yearBut_2 10 rfl 2 rfl rfl ?_)
                refine v_callV h pX4_yearBut_2 11 mX4_108 (As := [.int (nI i4)]) (st := []) (kX4_isHidden _ _ cI cS b SB Kp Bf As Q i4 (by omega) n hWSB) v0B v0C (vEmb_rf _ _) 0 rfl rfl rfl rfl rfl rfl rfl (vDet_k ?_)
                show V K (mW cI b (SB, Kp, Bf, As, Q)) 125 [(0, .ref (b 0)), (1, .int u), (2, .int (nI i4))] [.int (bI (hiddenS SB i4))]
                refine v_bif_ne (tgt := 183) h pX4_yearBut_2 12 rfl rfl (fun c14 => ?_) (fun c14 => ?_)
                · skip
                  refine v_iinc h pX4_yearBut_3 13 (v := nI (i4 + 1)) (lv' := [(2, .int (nI (i4 + 1))), (0, .ref (b 0)), (1, .int u)]) rfl 2 rfl hnL rfl rfl (nI_1 i4) (v_goto (tgt := 102) h pX4_yearBut_3 14 rfl rfl (v_lv [1, 2, 0] (lv' := [(0, .ref (b 0)), (1, .int u), (2, .int (nI (i4 + 1)))]) rfl (v_eqw (ws' := mW cI b (showN SA (i4 + 1), Kp, Bf, As, Q)) (by rw [showN, hSB]; simp [opsS, showS, c3, c6, c13, c14]) ?_)))
                  exact ih4 (i4 + 1) (by omega) (by omega)
                · skip
                  refine v_aload_n h pX4_yearBut_2 13 rfl 0 rfl rfl (v_iload_n h pX4_yearBut_2 14 rfl 2 rfl rfl ?_)
                  refine v_callV h pX4_yearBut_2 15 mX4_97 (As := [.int (nI i4)]) (st := []) (kX4_opens _ _ cI cS b SB Kp Bf As Q i4 (by omega) n hWSB) v0B v0C (vEmb_rf _ _) 0 rfl rfl rfl rfl rfl rfl rfl (vDet_k ?_)
                  show V K (mW cI b (SB, Kp, Bf, As, Q)) 133 [(0, .ref (b 0)), (1, .int u), (2, .int (nI i4))] [.int (bI (opensS SB i4))]
                  refine v_bif_eq (tgt := 183) h pX4_yearBut_2 16 rfl rfl (fun c15 => ?_) (fun c15 => ?_)
                  · skip
                    refine v_iinc h pX4_yearBut_3 13 (v := nI (i4 + 1)) (lv' := [(2, .int (nI (i4 + 1))), (0, .ref (b 0)), (1, .int u)]) rfl 2 rfl hnL rfl rfl (nI_1 i4) (v_goto (tgt := 102) h pX4_yearBut_3 14 rfl rfl (v_lv [1, 2, 0] (lv' := [(0, .ref (b 0)), (1, .int u), (2, .int (nI (i4 + 1)))]) rfl (v_eqw (ws' := mW cI b (showN SA (i4 + 1), Kp, Bf, As, Q)) (by rw [showN, hSB]; simp [opsS, showS, c3, c6, c13, c14, c15]) ?_)))
                    exact ih4 (i4 + 1) (by omega) (by omega)
                  · skip
                    refine v_aload_n h pX4_yearBut_2 17 rfl 0 rfl rfl (v_get h pX4_yearBut_2 18 fX4_7 0 rfl rfl rfl (v_iload_n h pX4_yearBut_2 19 rfl 2 rfl rfl (v_iconst h pX4_yearBut_2 20 rfl ki_5 ?_)))
                    refine v_callS h pX4_yearBut_2 21 mX4_69 (As := [.int (nI i4), .int 5]) (st := [.ref (b 1)]) (kX4_at _ _ cI cS i4 5) v0B v0C (vEmb_u _) rfl rfl rfl rfl rfl (vDet_k ?_)
                    show V K (mW cI b (SB, Kp, Bf, As, Q)) 145 [(0, .ref (b 0)), (1, .int u), (2, .int (nI i4))] [.int (nI (16 + 6 * i4 + 5)), .ref (b 1)]
                    refine v_sipush h pX4_yearBut_2 22 rfl ks_999 (v_aload_n h pX4_yearBut_2 23 rfl 0 rfl rfl (v_iload_n h pX4_yearBut_2 24 rfl 2 rfl rfl (v_iconst h pX4_yearBut_2 25 rfl ki_5 ?_)))
                    refine v_callV h pX4_yearBut_2 26 mX4_64 (As := [.int (nI i4), .int 5]) (st := [.int 999, .int (nI (16 + 6 * i4 + 5)), .ref (b 1)]) (kX4_its _ _ cI cS b SB Kp Bf As Q i4 5 (by omega) (by omega)) v0B v0C (vEmb_rf _ _) 0 rfl rfl rfl rfl rfl rfl rfl (vDet_k ?_)
                    show V K (mW cI b (SB, Kp, Bf, As, Q)) 154 [(0, .ref (b 0)), (1, .int u), (2, .int (nI i4))] [.int (SB 7 i4), .int 999, .int (nI (16 + 6 * i4 + 5)), .ref (b 1)]
                    refine v_iconst h pX4_yearBut_2 27 rfl ki_1 (v_iadd h pX4_yearBut_2 28 rfl ?_)
                    refine v_callS h pX4_yearBut_2 29 mX4_79 (As := [.int 999, .int ((SB 7 i4) + 1)]) (st := [.int (nI (16 + 6 * i4 + 5)), .ref (b 1)]) (kX4_least _ _ cI cS 999 ((SB 7 i4) + 1)) v0B v0C (vEmb_u _) rfl rfl rfl rfl rfl (vDet_k ?_)
                    show V K (mW cI b (SB, Kp, Bf, As, Q)) 159 [(0, .ref (b 0)), (1, .int u), (2, .int (nI i4))] [.int (mn 999 ((SB 7 i4) + 1)), .int (nI (16 + 6 * i4 + 5)), .ref (b 1)]
                    refine v_iast h pX4_yearBut_2 30 (16 + 6 * i4 + 5) 1 0 (ws' := mW cI b (up SB 7 i4 (mn 999 ((SB 7 i4) + 1)), Kp, Bf, As, Q)) rfl rfl rfl rfl rfl (by omega) (mW_s (16 + 6 * i4 + 5) 7 i4 (flR_y (by omega) (by omega)) (flI_y (by omega) (by omega))) (v_aload_n h pX4_yearBut_2 31 rfl 0 rfl rfl (v_get h pX4_yearBut_3 0 fX4_7 0 rfl rfl rfl (v_iload_n h pX4_yearBut_3 1 rfl 2 rfl rfl (v_iconst h pX4_yearBut_3 2 rfl ki_2 ?_))))
                    refine v_callS h pX4_yearBut_3 3 mX4_69 (As := [.int (nI i4), .int 2]) (st := [.ref (b 1)]) (kX4_at _ _ cI cS i4 2) v0B v0C (vEmb_u _) rfl rfl rfl rfl rfl (vDet_k ?_)
                    show V K (mW cI b (up SB 7 i4 (mn 999 ((SB 7 i4) + 1)), Kp, Bf, As, Q)) 169 [(0, .ref (b 0)), (1, .int u), (2, .int (nI i4))] [.int (nI (16 + 6 * i4 + 2)), .ref (b 1)]
                    refine v_iconst h pX4_yearBut_3 4 rfl ki_0 (v_aload_n h pX4_yearBut_3 5 rfl 0 rfl rfl (v_iload_n h pX4_yearBut_3 6 rfl 2 rfl rfl (v_iconst h pX4_yearBut_3 7 rfl ki_2 ?_)))
                    refine v_callV h pX4_yearBut_3 8 mX4_64 (As := [.int (nI i4), .int 2]) (st := [.int 0, .int (nI (16 + 6 * i4 + 2)), .ref (b 1)]) (kX4_its _ _ cI cS b (up SB 7 i4 (mn 999 ((SB 7 i4) + 1))) Kp Bf As Q i4 2 (by omega) (by omega)) v0B v0C (vEmb_rf _ _) 0 rfl rfl rfl rfl rfl rfl rfl (vDet_k ?_)
                    show V K (mW cI b (up SB 7 i4 (mn 999 ((SB 7 i4) + 1)), Kp, Bf, As, Q)) 176 [(0, .ref (b 0)), (1, .int u), (2, .int (nI i4))] [.int ((up SB 7 i4 (mn 999 ((SB 7 i4) + 1))) 4 i4), .int 0, .int (nI (16 + 6 * i4 + 2)), .ref (b 1)]
                    refine v_top (w := .int (SB 4 i4)) rfl (v_bipush h pX4_yearBut_3 9 rfl kb_7 (v_isub h pX4_yearBut_3 10 rfl ?_))
                    refine v_callS h pX4_yearBut_3 11 mX4_82 (As := [.int 0, .int ((SB 4 i4) - 7)]) (st := [.int (nI (16 + 6 * i4 + 2)), .ref (b 1)]) (kX4_greatest _ _ cI cS 0 ((SB 4 i4) - 7)) v0B v0C (vEmb_u _) rfl rfl rfl rfl rfl (vDet_k ?_)
                    show V K (mW cI b (up SB 7 i4 (mn 999 ((SB 7 i4) + 1)), Kp, Bf, As, Q)) 182 [(0, .ref (b 0)), (1, .int u), (2, .int (nI i4))] [.int (mx 0 ((SB 4 i4) - 7)), .int (nI (16 + 6 * i4 + 2)), .ref (b 1)]
                    refine v_iast h pX4_yearBut_3 12 (16 + 6 * i4 + 2) 1 0 (ws' := mW cI b (up (up SB 7 i4 (mn 999 ((SB 7 i4) + 1))) 4 i4 (mx 0 ((SB 4 i4) - 7)), Kp, Bf, As, Q)) rfl rfl rfl rfl rfl (by omega) (mW_s (16 + 6 * i4 + 2) 4 i4 (flR_y (by omega) (by omega)) (flI_y (by omega) (by omega))) (v_iinc h pX4_yearBut_3 13 (v := nI (i4 + 1)) (lv' := [(2, .int (nI (i4 + 1))), (0, .ref (b 0)), (1, .int u)]) rfl 2 rfl hnL rfl rfl (nI_1 i4) (v_goto (tgt := 102) h pX4_yearBut_3 14 rfl rfl (v_lv [1, 2, 0] (lv' := [(0, .ref (b 0)), (1, .int u), (2, .int (nI (i4 + 1)))]) rfl (v_eqw (ws' := mW cI b (showN SA (i4 + 1), Kp, Bf, As, Q)) (by rw [showN, hSB]; simp [opsS, showS, c3, c6, c13, c14, c15]) ?_))))
                    exact ih4 (i4 + 1) (by omega) (by omega)
        exact L4 (n + 1) 0 (by omega) (by omega)
      · skip
        refine v_iconst h pX4_yearBut_0 8 rfl ki_4 (v_aload_n h pX4_yearBut_0 9 rfl 0 rfl rfl (v_iload_n h pX4_yearBut_0 10 rfl 2 rfl rfl (v_iconst h pX4_yearBut_0 11 rfl ki_1 ?_)))
        have hb := hWSA.homeL (i := i1) (by omega)
        refine v_callV h pX4_yearBut_0 12 mX4_64 (As := [.int (nI i1), .int 1]) (st := [.int 4]) (kX4_its _ _ cI cS b SA Kp Bf As Q i1 1 (by omega) (by omega)) v0B v0C (vEmb_rf _ _) 0 rfl rfl rfl rfl rfl rfl rfl (vDet_k ?_)
        show V K (mW cI b (SA, Kp, Bf, As, Q)) 19 [(0, .ref (b 0)), (1, .int u), (2, .int (nI i1))] [.int (SA 3 i1), .int 4]
        refine v_top (w := .int (nI (ix (SA 3 i1)))) (congrArg Value.int (hWSA.home (by omega))) (v_iaddn h pX4_yearBut_0 13 4 (ix (SA 3 i1)) rfl (v_istore_n h pX4_yearBut_0 14 (lv' := [(3, .int (nI (4 + ix (SA 3 i1)))), (0, .ref (b 0)), (1, .int u), (2, .int (nI i1))]) rfl rfl hnL rfl rfl (v_aload_n h pX4_yearBut_0 15 rfl 1 rfl rfl (v_iload_n h pX4_yearBut_0 16 rfl 3 rfl rfl ?_))))
        refine v_callV h pX4_yearBut_0 17 mX4_85 (As := [.int (nI i1)]) (st := []) (kX4_isTold _ _ cI cS b SA Kp Bf As Q i1 (by omega)) v0B v0C (vEmb_rf _ _) 0 rfl rfl rfl rfl rfl rfl rfl (vDet_k ?_)
        show V K (mW cI b (SA, Kp, Bf, As, Q)) 26 [(3, .int (nI (4 + ix (SA 3 i1)))), (0, .ref (b 0)), (1, .int u), (2, .int (nI i1))] [.int (bI (toldS SA i1))]
        refine v_bif_ne (tgt := 38) h pX4_yearBut_0 18 rfl rfl (fun c16 => ?_) (fun c16 => ?_)
        · skip
          refine v_iconst h pX4_yearBut_0 26 rfl ki_0 (v_goto (tgt := 56) h pX4_yearBut_0 27 rfl rfl (v_istore h pX4_yearBut_1 4 (lv' := [(4, .int 0), (3, .int (nI (4 + ix (SA 3 i1)))), (0, .ref (b 0)), (1, .int u), (2, .int (nI i1))]) rfl hnL rfl rfl (v_aload_n h pX4_yearBut_1 5 rfl 2 rfl rfl (v_get h pX4_yearBut_1 6 fX4_7 0 rfl rfl rfl (v_iload_n h pX4_yearBut_1 7 rfl 1 rfl rfl ?_)))))
          refine v_dup2 h pX4_yearBut_1 8 rfl rfl rfl (v_iald h pX4_yearBut_1 9 (4 + ix (SA 3 i1)) 1 0 rfl rfl rfl rfl rfl (by omega) (v_top (w := .int (SA 0 (ix (SA 3 i1)))) (congrArg Value.int (fl_n _ (by omega))) (v_iload h pX4_yearBut_1 10 rfl 0 rfl (v_isub h pX4_yearBut_1 11 rfl (v_iast h pX4_yearBut_1 12 (4 + ix (SA 3 i1)) 1 0 (ws' := mW cI b (up SA 0 (ix (SA 3 i1)) ((SA 0 (ix (SA 3 i1))) - 0), Kp, Bf, As, Q)) rfl rfl rfl rfl rfl (by omega) (mW_s (4 + ix (SA 3 i1)) 0 (ix (SA 3 i1)) (flR_n (by omega)) (flI_n (by omega))) ?_)))))
          refine v_aload_n h pX4_yearBut_1 13 rfl 2 rfl rfl (v_get h pX4_yearBut_1 14 fX4_7 0 rfl rfl rfl (v_iload_n h pX4_yearBut_1 15 rfl 4 rfl rfl (v_iconst h pX4_yearBut_1 16 rfl ki_3 ?_)))
          refine v_callS h pX4_yearBut_1 17 mX4_69 (As := [.int (nI i1), .int 3]) (st := [.ref (b 1)]) (kX4_at _ _ cI cS i1 3) v0B v0C (vEmb_u _) rfl rfl rfl rfl rfl (vDet_k ?_)
          show V K (mW cI b (up SA 0 (ix (SA 3 i1)) ((SA 0 (ix (SA 3 i1))) - 0), Kp, Bf, As, Q)) 78 [(4, .int 0), (3, .int (nI (4 + ix (SA 3 i1)))), (0, .ref (b 0)), (1, .int u), (2, .int (nI i1))] [.int (nI (16 + 6 * i1 + 3)), .ref (b 1)]
          refine v_sipush h pX4_yearBut_1 18 rfl ks_999 (v_aload_n h pX4_yearBut_1 19 rfl 2 rfl rfl (v_iload_n h pX4_yearBut_1 20 rfl 4 rfl rfl (v_iconst h pX4_yearBut_1 21 rfl ki_3 ?_)))
          refine v_callV h pX4_yearBut_1 22 mX4_64 (As := [.int (nI i1), .int 3]) (st := [.int 999, .int (nI (16 + 6 * i1 + 3)), .ref (b 1)]) (kX4_its _ _ cI cS b (up SA 0 (ix (SA 3 i1)) ((SA 0 (ix (SA 3 i1))) - 0)) Kp Bf As Q i1 3 (by omega) (by omega)) v0B v0C (vEmb_rf _ _) 0 rfl rfl rfl rfl rfl rfl rfl (vDet_k ?_)
          show V K (mW cI b (up SA 0 (ix (SA 3 i1)) ((SA 0 (ix (SA 3 i1))) - 0), Kp, Bf, As, Q)) 87 [(4, .int 0), (3, .int (nI (4 + ix (SA 3 i1)))), (0, .ref (b 0)), (1, .int u), (2, .int (nI i1))] [.int ((up SA 0 (ix (SA 3 i1)) ((SA 0 (ix (SA 3 i1))) - 0)) 5 i1), .int 999, .int (nI (16 + 6 * i1 + 3)), .ref (b 1)]
          refine v_top (w := .int (SA 5 i1)) rfl (v_iload h pX4_yearBut_1 23 rfl 0 rfl (v_iadd h pX4_yearBut_1 24 rfl ?_))
          refine v_callS h pX4_yearBut_1 25 mX4_79 (As := [.int 999, .int ((SA 5 i1) + 0)]) (st := [.int (nI (16 + 6 * i1 + 3)), .ref (b 1)]) (kX4_least _ _ cI cS 999 ((SA 5 i1) + 0)) v0B v0C (vEmb_u _) rfl rfl rfl rfl rfl (vDet_k ?_)
          show V K (mW cI b (up SA 0 (ix (SA 3 i1)) ((SA 0 (ix (SA 3 i1))) - 0), Kp, Bf, As, Q)) 93 [(4, .int 0), (3, .int (nI (4 + ix (SA 3 i1)))), (0, .ref (b 0)), (1, .int u), (2, .int (nI i1))] [.int (mn 999 ((SA 5 i1) + 0)), .int (nI (16 + 6 * i1 + 3)), .ref (b 1)]
          refine v_iast h pX4_yearBut_1 26 (16 + 6 * i1 + 3) 1 0 (ws' := mW cI b (up (up SA 0 (ix (SA 3 i1)) ((SA 0 (ix (SA 3 i1))) - 0)) 5 i1 (mn 999 ((SA 5 i1) + 0)), Kp, Bf, As, Q)) rfl rfl rfl rfl rfl (by omega) (mW_s (16 + 6 * i1 + 3) 5 i1 (flR_y (by omega) (by omega)) (flI_y (by omega) (by omega))) (v_iinc h pX4_yearBut_1 27 (v := nI (i1 + 1)) (lv' := [(2, .int (nI (i1 + 1))), (4, .int 0), (3, .int (nI (4 + ix (SA 3 i1)))), (0, .ref (b 0)), (1, .int u)]) rfl 4 rfl hnL rfl rfl (nI_1 i1) (v_goto (tgt := 2) h pX4_yearBut_1 28 rfl rfl (v_lv [3, 4, 0] (lv' := [(0, .ref (b 0)), (1, .int u), (2, .int (nI (i1 + 1)))]) rfl (v_eqw (ws' := mW cI b (growN u E (i1 + 1), Kp, Bf, As, Q)) (by first | (rw [grow_0 hWSA (by omega), growN, hSA]; simp [c3, c16]; done) | (rw [growN, hSA]; simp [c3, c16]; rfl)) ?_))))
          exact ih1 (i1 + 1) (by omega) (by omega)
        · skip
          refine v_iload_n h pX4_yearBut_0 19 rfl 2 rfl rfl (v_iload_n h pX4_yearBut_0 20 rfl 3 rfl rfl (v_ishr h pX4_yearBut_0 21 rfl (v_iconst h pX4_yearBut_0 22 rfl ki_1 (v_iand h pX4_yearBut_0 23 rfl (v_iconst h pX4_yearBut_0 24 rfl ki_1 ?_)))))
          refine v_icmp_ne (tgt := 42) h pX4_yearBut_0 25 rfl rfl (fun c17 => ?_) (fun c17 => ?_)
          · skip
            rw [sh_bit u (by omega)] at c17
            refine v_aload_n h pX4_yearBut_0 28 rfl 1 rfl rfl (v_iload_n h pX4_yearBut_0 29 rfl 3 rfl rfl ?_)
            refine v_callV h pX4_yearBut_0 30 mX4_91 (As := [.int (nI i1)]) (st := []) (kX4_takes _ _ cI cS b SA Kp Bf As Q i1 (by omega)) v0B v0C (vEmb_rf _ _) 0 rfl rfl rfl rfl rfl rfl rfl (vDet_k ?_)
            show V K (mW cI b (SA, Kp, Bf, As, Q)) 47 [(3, .int (nI (4 + ix (SA 3 i1)))), (0, .ref (b 0)), (1, .int u), (2, .int (nI i1))] [.int (takesS SA i1)]
            refine v_aload_n h pX4_yearBut_0 31 rfl 1 rfl rfl (v_get h pX4_yearBut_1 0 fX4_7 0 rfl rfl rfl (v_iload_n h pX4_yearBut_1 1 rfl 0 rfl rfl (v_iald h pX4_yearBut_1 2 (4 + ix (SA 3 i1)) 1 0 rfl rfl rfl rfl rfl (by omega) (v_top (w := .int (SA 0 (ix (SA 3 i1)))) (congrArg Value.int (fl_n _ (by omega))) ?_))))
            refine v_callS h pX4_yearBut_1 3 mX4_79 (As := [.int (takesS SA i1), .int (SA 0 (ix (SA 3 i1)))]) (st := []) (kX4_least _ _ cI cS (takesS SA i1) (SA 0 (ix (SA 3 i1)))) v0B v0C (vEmb_u _) rfl rfl rfl rfl rfl (vDet_k ?_)
            show V K (mW cI b (SA, Kp, Bf, As, Q)) 56 [(3, .int (nI (4 + ix (SA 3 i1)))), (0, .ref (b 0)), (1, .int u), (2, .int (nI i1))] [.int (mn (takesS SA i1) (SA 0 (ix (SA 3 i1))))]
            refine v_istore h pX4_yearBut_1 4 (lv' := [(4, .int (mn (takesS SA i1) (SA 0 (ix (SA 3 i1))))), (3, .int (nI (4 + ix (SA 3 i1)))), (0, .ref (b 0)), (1, .int u), (2, .int (nI i1))]) rfl hnL rfl rfl (v_aload_n h pX4_yearBut_1 5 rfl 2 rfl rfl (v_get h pX4_yearBut_1 6 fX4_7 0 rfl rfl rfl (v_iload_n h pX4_yearBut_1 7 rfl 1 rfl rfl (v_dup2 h pX4_yearBut_1 8 rfl rfl rfl (v_iald h pX4_yearBut_1 9 (4 + ix (SA 3 i1)) 1 0 rfl rfl rfl rfl rfl (by omega) ?_)))))
            refine v_top (w := .int (SA 0 (ix (SA 3 i1)))) (congrArg Value.int (fl_n _ (by omega))) (v_iload h pX4_yearBut_1 10 rfl 0 rfl (v_isub h pX4_yearBut_1 11 rfl (v_iast h pX4_yearBut_1 12 (4 + ix (SA 3 i1)) 1 0 (ws' := mW cI b (up SA 0 (ix (SA 3 i1)) ((SA 0 (ix (SA 3 i1))) - (mn (takesS SA i1) (SA 0 (ix (SA 3 i1))))), Kp, Bf, As, Q)) rfl rfl rfl rfl rfl (by omega) (mW_s (4 + ix (SA 3 i1)) 0 (ix (SA 3 i1)) (flR_n (by omega)) (flI_n (by omega))) (v_aload_n h pX4_yearBut_1 13 rfl 2 rfl rfl (v_get h pX4_yearBut_1 14 fX4_7 0 rfl rfl rfl ?_)))))
            refine v_iload_n h pX4_yearBut_1 15 rfl 4 rfl rfl (v_iconst h pX4_yearBut_1 16 rfl ki_3 ?_)
            refine v_callS h pX4_yearBut_1 17 mX4_69 (As := [.int (nI i1), .int 3]) (st := [.ref (b 1)]) (kX4_at _ _ cI cS i1 3) v0B v0C (vEmb_u _) rfl rfl rfl rfl rfl (vDet_k ?_)
            show V K (mW cI b (up SA 0 (ix (SA 3 i1)) ((SA 0 (ix (SA 3 i1))) - (mn (takesS SA i1) (SA 0 (ix (SA 3 i1))))), Kp, Bf, As, Q)) 78 [(4, .int (mn (takesS SA i1) (SA 0 (ix (SA 3 i1))))), (3, .int (nI (4 + ix (SA 3 i1)))), (0, .ref (b 0)), (1, .int u), (2, .int (nI i1))] [.int (nI (16 + 6 * i1 + 3)), .ref (b 1)]
            refine v_sipush h pX4_yearBut_1 18 rfl ks_999 (v_aload_n h pX4_yearBut_1 19 rfl 2 rfl rfl (v_iload_n h pX4_yearBut_1 20 rfl 4 rfl rfl (v_iconst h pX4_yearBut_1 21 rfl ki_3 ?_)))
            refine v_callV h pX4_yearBut_1 22 mX4_64 (As := [.int (nI i1), .int 3]) (st := [.int 999, .int (nI (16 + 6 * i1 + 3)), .ref (b 1)]) (kX4_its _ _ cI cS b (up SA 0 (ix (SA 3 i1)) ((SA 0 (ix (SA 3 i1))) - (mn (takesS SA i1) (SA 0 (ix (SA 3 i1)))))) Kp Bf As Q i1 3 (by omega) (by omega)) v0B v0C (vEmb_rf _ _) 0 rfl rfl rfl rfl rfl rfl rfl (vDet_k ?_)
            show V K (mW cI b (up SA 0 (ix (SA 3 i1)) ((SA 0 (ix (SA 3 i1))) - (mn (takesS SA i1) (SA 0 (ix (SA 3 i1))))), Kp, Bf, As, Q)) 87 [(4, .int (mn (takesS SA i1) (SA 0 (ix (SA 3 i1))))), (3, .int (nI (4 + ix (SA 3 i1)))), (0, .ref (b 0)), (1, .int u), (2, .int (nI i1))] [.int ((up SA 0 (ix (SA 3 i1)) ((SA 0 (ix (SA 3 i1))) - (mn (takesS SA i1) (SA 0 (ix (SA 3 i1)))))) 5 i1), .int 999, .int (nI (16 + 6 * i1 + 3)), .ref (b 1)]
            refine v_top (w := .int (SA 5 i1)) rfl (v_iload h pX4_yearBut_1 23 rfl 0 rfl (v_iadd h pX4_yearBut_1 24 rfl ?_))
            refine v_callS h pX4_yearBut_1 25 mX4_79 (As := [.int 999, .int ((SA 5 i1) + (mn (takesS SA i1) (SA 0 (ix (SA 3 i1)))))]) (st := [.int (nI (16 + 6 * i1 + 3)), .ref (b 1)]) (kX4_least _ _ cI cS 999 ((SA 5 i1) + (mn (takesS SA i1) (SA 0 (ix (SA 3 i1)))))) v0B v0C (vEmb_u _) rfl rfl rfl rfl rfl (vDet_k ?_)
            show V K (mW cI b (up SA 0 (ix (SA 3 i1)) ((SA 0 (ix (SA 3 i1))) - (mn (takesS SA i1) (SA 0 (ix (SA 3 i1))))), Kp, Bf, As, Q)) 93 [(4, .int (mn (takesS SA i1) (SA 0 (ix (SA 3 i1))))), (3, .int (nI (4 + ix (SA 3 i1)))), (0, .ref (b 0)), (1, .int u), (2, .int (nI i1))] [.int (mn 999 ((SA 5 i1) + (mn (takesS SA i1) (SA 0 (ix (SA 3 i1)))))), .int (nI (16 + 6 * i1 + 3)), .ref (b 1)]
            refine v_iast h pX4_yearBut_1 26 (16 + 6 * i1 + 3) 1 0 (ws' := mW cI b (up (up SA 0 (ix (SA 3 i1)) ((SA 0 (ix (SA 3 i1))) - (mn (takesS SA i1) (SA 0 (ix (SA 3 i1)))))) 5 i1 (mn 999 ((SA 5 i1) + (mn (takesS SA i1) (SA 0 (ix (SA 3 i1)))))), Kp, Bf, As, Q)) rfl rfl rfl rfl rfl (by omega) (mW_s (16 + 6 * i1 + 3) 5 i1 (flR_y (by omega) (by omega)) (flI_y (by omega) (by omega))) (v_iinc h pX4_yearBut_1 27 (v := nI (i1 + 1)) (lv' := [(2, .int (nI (i1 + 1))), (4, .int (mn (takesS SA i1) (SA 0 (ix (SA 3 i1))))), (3, .int (nI (4 + ix (SA 3 i1)))), (0, .ref (b 0)), (1, .int u)]) rfl 4 rfl hnL rfl rfl (nI_1 i1) (v_goto (tgt := 2) h pX4_yearBut_1 28 rfl rfl (v_lv [3, 4, 0] (lv' := [(0, .ref (b 0)), (1, .int u), (2, .int (nI (i1 + 1)))]) rfl (v_eqw (ws' := mW cI b (growN u E (i1 + 1), Kp, Bf, As, Q)) (by first | (rw [grow_0 hWSA (by omega), growN, hSA]; simp [c3, c16, c17]; done) | (rw [growN, hSA]; simp [c3, c16, c17]; rfl)) ?_))))
            exact ih1 (i1 + 1) (by omega) (by omega)
          · skip
            rw [sh_bit u (by omega)] at c17
            refine v_iconst h pX4_yearBut_0 26 rfl ki_0 (v_goto (tgt := 56) h pX4_yearBut_0 27 rfl rfl (v_istore h pX4_yearBut_1 4 (lv' := [(4, .int 0), (3, .int (nI (4 + ix (SA 3 i1)))), (0, .ref (b 0)), (1, .int u), (2, .int (nI i1))]) rfl hnL rfl rfl (v_aload_n h pX4_yearBut_1 5 rfl 2 rfl rfl (v_get h pX4_yearBut_1 6 fX4_7 0 rfl rfl rfl (v_iload_n h pX4_yearBut_1 7 rfl 1 rfl rfl ?_)))))
            refine v_dup2 h pX4_yearBut_1 8 rfl rfl rfl (v_iald h pX4_yearBut_1 9 (4 + ix (SA 3 i1)) 1 0 rfl rfl rfl rfl rfl (by omega) (v_top (w := .int (SA 0 (ix (SA 3 i1)))) (congrArg Value.int (fl_n _ (by omega))) (v_iload h pX4_yearBut_1 10 rfl 0 rfl (v_isub h pX4_yearBut_1 11 rfl (v_iast h pX4_yearBut_1 12 (4 + ix (SA 3 i1)) 1 0 (ws' := mW cI b (up SA 0 (ix (SA 3 i1)) ((SA 0 (ix (SA 3 i1))) - 0), Kp, Bf, As, Q)) rfl rfl rfl rfl rfl (by omega) (mW_s (4 + ix (SA 3 i1)) 0 (ix (SA 3 i1)) (flR_n (by omega)) (flI_n (by omega))) ?_)))))
            refine v_aload_n h pX4_yearBut_1 13 rfl 2 rfl rfl (v_get h pX4_yearBut_1 14 fX4_7 0 rfl rfl rfl (v_iload_n h pX4_yearBut_1 15 rfl 4 rfl rfl (v_iconst h pX4_yearBut_1 16 rfl ki_3 ?_)))
            refine v_callS h pX4_yearBut_1 17 mX4_69 (As := [.int (nI i1), .int 3]) (st := [.ref (b 1)]) (kX4_at _ _ cI cS i1 3) v0B v0C (vEmb_u _) rfl rfl rfl rfl rfl (vDet_k ?_)
            show V K (mW cI b (up SA 0 (ix (SA 3 i1)) ((SA 0 (ix (SA 3 i1))) - 0), Kp, Bf, As, Q)) 78 [(4, .int 0), (3, .int (nI (4 + ix (SA 3 i1)))), (0, .ref (b 0)), (1, .int u), (2, .int (nI i1))] [.int (nI (16 + 6 * i1 + 3)), .ref (b 1)]
            refine v_sipush h pX4_yearBut_1 18 rfl ks_999 (v_aload_n h pX4_yearBut_1 19 rfl 2 rfl rfl (v_iload_n h pX4_yearBut_1 20 rfl 4 rfl rfl (v_iconst h pX4_yearBut_1 21 rfl ki_3 ?_)))
            refine v_callV h pX4_yearBut_1 22 mX4_64 (As := [.int (nI i1), .int 3]) (st := [.int 999, .int (nI (16 + 6 * i1 + 3)), .ref (b 1)]) (kX4_its _ _ cI cS b (up SA 0 (ix (SA 3 i1)) ((SA 0 (ix (SA 3 i1))) - 0)) Kp Bf As Q i1 3 (by omega) (by omega)) v0B v0C (vEmb_rf _ _) 0 rfl rfl rfl rfl rfl rfl rfl (vDet_k ?_)
            show V K (mW cI b (up SA 0 (ix (SA 3 i1)) ((SA 0 (ix (SA 3 i1))) - 0), Kp, Bf, As, Q)) 87 [(4, .int 0), (3, .int (nI (4 + ix (SA 3 i1)))), (0, .ref (b 0)), (1, .int u), (2, .int (nI i1))] [.int ((up SA 0 (ix (SA 3 i1)) ((SA 0 (ix (SA 3 i1))) - 0)) 5 i1), .int 999, .int (nI (16 + 6 * i1 + 3)), .ref (b 1)]
            refine v_top (w := .int (SA 5 i1)) rfl (v_iload h pX4_yearBut_1 23 rfl 0 rfl (v_iadd h pX4_yearBut_1 24 rfl ?_))
            refine v_callS h pX4_yearBut_1 25 mX4_79 (As := [.int 999, .int ((SA 5 i1) + 0)]) (st := [.int (nI (16 + 6 * i1 + 3)), .ref (b 1)]) (kX4_least _ _ cI cS 999 ((SA 5 i1) + 0)) v0B v0C (vEmb_u _) rfl rfl rfl rfl rfl (vDet_k ?_)
            show V K (mW cI b (up SA 0 (ix (SA 3 i1)) ((SA 0 (ix (SA 3 i1))) - 0), Kp, Bf, As, Q)) 93 [(4, .int 0), (3, .int (nI (4 + ix (SA 3 i1)))), (0, .ref (b 0)), (1, .int u), (2, .int (nI i1))] [.int (mn 999 ((SA 5 i1) + 0)), .int (nI (16 + 6 * i1 + 3)), .ref (b 1)]
            refine v_iast h pX4_yearBut_1 26 (16 + 6 * i1 + 3) 1 0 (ws' := mW cI b (up (up SA 0 (ix (SA 3 i1)) ((SA 0 (ix (SA 3 i1))) - 0)) 5 i1 (mn 999 ((SA 5 i1) + 0)), Kp, Bf, As, Q)) rfl rfl rfl rfl rfl (by omega) (mW_s (16 + 6 * i1 + 3) 5 i1 (flR_y (by omega) (by omega)) (flI_y (by omega) (by omega))) (v_iinc h pX4_yearBut_1 27 (v := nI (i1 + 1)) (lv' := [(2, .int (nI (i1 + 1))), (4, .int 0), (3, .int (nI (4 + ix (SA 3 i1)))), (0, .ref (b 0)), (1, .int u)]) rfl 4 rfl hnL rfl rfl (nI_1 i1) (v_goto (tgt := 2) h pX4_yearBut_1 28 rfl rfl (v_lv [3, 4, 0] (lv' := [(0, .ref (b 0)), (1, .int u), (2, .int (nI (i1 + 1)))]) rfl (v_eqw (ws' := mW cI b (growN u E (i1 + 1), Kp, Bf, As, Q)) (by first | (rw [grow_0 hWSA (by omega), growN, hSA]; simp [c3, c16, c17]; done) | (rw [growN, hSA]; simp [c3, c16, c17]; rfl)) ?_))))
            exact ih1 (i1 + 1) (by omega) (by omega)
  exact L1 (n + 1) 0 (by omega) (by omega)
set_option maxHeartbeats 300000 in
set_option maxRecDepth 100000 in
theorem kX4_goes (l : Launch) (D : va_G) (cI cS : ClassId) (b : Nat → Nat) (E Kp Bf As Q : Nat → Nat → Int32) (n : Nat) (hW : Wf E n) (yb : Nat) (hY : bd (E 9 2) yb) (k : Nat) (hk : yb + k ≤ 99999) : vDet l D (vT cI cS) yX4_goes cX4_goes 3 none 4 89 (mW cI b) [.ref (b 0), .int (nI k)] (E, Kp, Bf, As, Q) (none) ((yearsS n 0 E k, Kp, Bf, As, Q)) := by
  refine vMet_of (by decide) rfl ?_
  intro K hl hD hnL hret h hR hEx
  subst hl hD
  show V K (mW cI b (E, Kp, Bf, As, Q)) 0 [(0, .ref (b 0)), (1, .int (nI k))] []
  have hn8 := hW.1
  refine v_iconst h pX4_goes_0 0 rfl ki_0 (v_istore_n h pX4_goes_0 1 (lv' := [(2, .int 0), (0, .ref (b 0)), (1, .int (nI k))]) rfl rfl hnL rfl rfl ?_)
  refine v_lv [1, 2, 0] (lv' := [(0, .ref (b 0)), (1, .int (nI k)), (2, .int 0)]) rfl ?_
  have L1 : ∀ (m i1 : Nat), i1 ≤ k → k + 1 ≤ i1 + m → V K (mW cI b (yearsS n 0 E i1, Kp, Bf, As, Q)) 2 [(0, .ref (b 0)), (1, .int (nI k)), (2, .int (nI i1))] [] := by
    intro m
    induction m with
    | zero => exact fun i1 h1 h2 => absurd h2 (by omega)
    | succ m ih1 =>
      intro i1 hle1 hlt1
      have hWSA : Wf (yearsS n 0 E i1) n := (Wf_years hW 0 i1)
      generalize hSA : yearsS n 0 E i1 = SA at hWSA ⊢
      have hYA : bd (SA 9 2) (yb + i1) := by rw [← hSA]; exact years_bd hY _ (by omega)
      refine v_iload_n h pX4_goes_0 2 rfl 2 rfl rfl (v_iload_n h pX4_goes_0 3 rfl 1 rfl rfl ?_)
      refine v_ncmp_ge (a := i1) (b := k) (tgt := 18) h pX4_goes_0 4 rfl rfl (by omega) (by omega) (fun c3 => ?_) (fun c3 => ?_)
      · skip
        obtain rfl : k = i1 := by omega
        exact v_vret h pX4_goes_0 10 hR hret rfl ((SA, Kp, Bf, As, Q)) rfl ⟨rfl, (by subst hSA; rfl)⟩
      · skip
        refine v_aload_n h pX4_goes_0 5 rfl 0 rfl rfl (v_iconst h pX4_goes_0 6 rfl ki_0 ?_)
        refine v_callV h pX4_goes_0 7 mX4_111 (As := [.int 0]) (st := []) (kX4_yearBut _ _ cI cS b SA Kp Bf As Q n hWSA (yb + i1) hYA (by omega) 0) v0B v0C (vEmb_rf _ _) 0 rfl rfl rfl rfl rfl rfl rfl (vDet_k ?_)
        show V K (mW cI b (yearS n 0 SA, Kp, Bf, As, Q)) 12 [(0, .ref (b 0)), (1, .int (nI k)), (2, .int (nI i1))] []
        have hWS4 : Wf (yearS n 0 SA) n := (Wf_year hWSA _)
        generalize hS4 : yearS n 0 SA = S4 at hWS4 ⊢
        refine v_iinc h pX4_goes_0 8 (v := nI (i1 + 1)) (lv' := [(2, .int (nI (i1 + 1))), (0, .ref (b 0)), (1, .int (nI k))]) rfl 2 rfl hnL rfl rfl (nI_1 i1) (v_goto (tgt := 2) h pX4_goes_0 9 rfl rfl (v_lv [1, 2, 0] (lv' := [(0, .ref (b 0)), (1, .int (nI k)), (2, .int (nI (i1 + 1)))]) rfl (v_eqw (ws' := mW cI b (yearsS n 0 E (i1 + 1), Kp, Bf, As, Q)) (by subst hS4; rw [yearsS, hSA]) ?_)))
        exact ih1 (i1 + 1) (by omega) (by omega)
  exact L1 (k + 1) 0 (by omega) (by omega)
set_option maxHeartbeats 300000 in
set_option maxRecDepth 100000 in
theorem kX4_then (l : Launch) (D : va_G) (cI cS : ClassId) (b : Nat → Nat) (E Kp Bf As Q : Nat → Nat → Int32) (n : Nat) (hW : Wf E n) (yb : Nat) (hY : bd (E 9 2) yb) (y w k : Nat) (hy : y < 8) (hw : w < 6 ∨ w = 9) (hk : yb + k ≤ 99999) : vDet l D (vT cI cS) yX4_then cX4_then 5 (some .int) 5 111 (mW cI b) [.ref (b 0), .int (nI y), .int (nI w), .int (nI k)] (E, Kp, Bf, As, Q) (some (.int (thenS (yearsS n 0 E k) y w))) ((E, Kp, Bf, E, Q)) := by
  refine vMet_of (by decide) rfl ?_
  intro K hl hD hnL hret h hR hEx
  subst hl hD
  show V K (mW cI b (E, Kp, Bf, As, Q)) 0 [(0, .ref (b 0)), (1, .int (nI y)), (2, .int (nI w)), (3, .int (nI k))] []
  have hn8 := hW.1
  refine v_aload_n h pX4_then_0 0 rfl 0 rfl rfl (v_get h pX4_then_0 1 fX4_7 0 rfl rfl rfl (v_aload_n h pX4_then_0 2 rfl 0 rfl rfl (v_get h pX4_then_0 3 fX4_19 0 rfl rfl rfl ?_)))
  refine v_callS h pX4_then_0 4 mX4_132 (As := [.ref (b 1), .ref (b 4)]) (st := []) (kX4_copyRow _ _ cI cS (b 1) (b 4) (pr (fl E) (fl As))) v0B v0C emb_14 rfl rfl rfl rfl rfl (vDet_k ?_)
  show V K (mW cI b (E, Kp, Bf, E, Q)) 11 [(0, .ref (b 0)), (1, .int (nI y)), (2, .int (nI w)), (3, .int (nI k))] []
  refine v_aload_n h pX4_then_0 5 rfl 0 rfl rfl (v_iload_n h pX4_then_0 6 rfl 3 rfl rfl ?_)
  refine v_callV h pX4_then_0 7 mX4_119 (As := [.int (nI k)]) (st := []) (kX4_goes _ _ cI cS b E Kp Bf E Q n hW yb hY k (by omega)) v0B v0C (vEmb_rf _ _) 0 rfl rfl rfl rfl rfl rfl rfl (vDet_k ?_)
  show V K (mW cI b (yearsS n 0 E k, Kp, Bf, E, Q)) 16 [(0, .ref (b 0)), (1, .int (nI y)), (2, .int (nI w)), (3, .int (nI k))] []
  have hWS1 : Wf (yearsS n 0 E k) n := (Wf_years hW _ _)
  generalize hS1 : yearsS n 0 E k = S1 at hWS1 ⊢
  refine v_iload_n h pX4_then_0 8 rfl 2 rfl rfl (v_bipush h pX4_then_0 9 rfl kb_9 ?_)
  refine v_ncmp_ne (a := w) (b := 9) (tgt := 30) h pX4_then_0 10 rfl rfl (by omega) (by omega) (fun c2 => ?_) (fun c2 => ?_)
  · skip
    refine v_aload_n h pX4_then_0 15 rfl 0 rfl rfl (v_iload_n h pX4_then_0 16 rfl 1 rfl rfl (v_iload_n h pX4_then_0 17 rfl 2 rfl rfl ?_))
    refine v_callV h pX4_then_0 18 mX4_64 (As := [.int (nI y), .int (nI w)]) (st := []) (kX4_its _ _ cI cS b S1 Kp Bf E Q y w (by omega) (by omega)) v0B v0C (vEmb_rf _ _) 0 rfl rfl rfl rfl rfl rfl rfl (vDet_k ?_)
    show V K (mW cI b (S1, Kp, Bf, E, Q)) 36 [(0, .ref (b 0)), (1, .int (nI y)), (2, .int (nI w)), (3, .int (nI k))] [.int (S1 (2 + w) y)]
    refine v_istore h pX4_then_0 19 (lv' := [(4, .int (S1 (2 + w) y)), (0, .ref (b 0)), (1, .int (nI y)), (2, .int (nI w)), (3, .int (nI k))]) rfl hnL rfl rfl (v_aload_n h pX4_then_0 20 rfl 1 rfl rfl (v_get h pX4_then_0 21 fX4_19 0 rfl rfl rfl (v_aload_n h pX4_then_0 22 rfl 1 rfl rfl (v_get h pX4_then_0 23 fX4_7 0 rfl rfl rfl ?_))))
    refine v_callS h pX4_then_0 24 mX4_132 (As := [.ref (b 4), .ref (b 1)]) (st := []) (kX4_copyRow _ _ cI cS (b 4) (b 1) (pr (fl E) (fl S1))) v0B v0C emb_41 rfl rfl rfl rfl rfl (vDet_k ?_)
    show V K (mW cI b (E, Kp, Bf, E, Q)) 49 [(4, .int (S1 (2 + w) y)), (0, .ref (b 0)), (1, .int (nI y)), (2, .int (nI w)), (3, .int (nI k))] []
    refine v_iload h pX4_then_0 25 rfl 0 rfl ?_
    exact v_iret h pX4_then_0 26 hR hret rfl ((E, Kp, Bf, E, Q)) rfl ⟨vI (by simp [thenS, hS1, c2]), rfl⟩
  · skip
    refine v_aload_n h pX4_then_0 11 rfl 0 rfl rfl (v_iload_n h pX4_then_0 12 rfl 1 rfl rfl ?_)
    refine v_callV h pX4_then_0 13 mX4_100 (As := [.int (nI y)]) (st := []) (kX4_worthOf _ _ cI cS b S1 Kp Bf E Q y (by omega)) v0B v0C (vEmb_rf _ _) 0 rfl rfl rfl rfl rfl rfl rfl (vDet_k ?_)
    show V K (mW cI b (S1, Kp, Bf, E, Q)) 27 [(0, .ref (b 0)), (1, .int (nI y)), (2, .int (nI w)), (3, .int (nI k))] [.int (worthS S1 y)]
    refine v_goto (tgt := 36) h pX4_then_0 14 rfl rfl (v_istore h pX4_then_0 19 (lv' := [(4, .int (worthS S1 y)), (0, .ref (b 0)), (1, .int (nI y)), (2, .int (nI w)), (3, .int (nI k))]) rfl hnL rfl rfl (v_aload_n h pX4_then_0 20 rfl 1 rfl rfl (v_get h pX4_then_0 21 fX4_19 0 rfl rfl rfl (v_aload_n h pX4_then_0 22 rfl 1 rfl rfl (v_get h pX4_then_0 23 fX4_7 0 rfl rfl rfl ?_)))))
    refine v_callS h pX4_then_0 24 mX4_132 (As := [.ref (b 4), .ref (b 1)]) (st := []) (kX4_copyRow _ _ cI cS (b 4) (b 1) (pr (fl E) (fl S1))) v0B v0C emb_41 rfl rfl rfl rfl rfl (vDet_k ?_)
    show V K (mW cI b (E, Kp, Bf, E, Q)) 49 [(4, .int (worthS S1 y)), (0, .ref (b 0)), (1, .int (nI y)), (2, .int (nI w)), (3, .int (nI k))] []
    refine v_iload h pX4_then_0 25 rfl 0 rfl ?_
    exact v_iret h pX4_then_0 26 hR hret rfl ((E, Kp, Bf, E, Q)) rfl ⟨vI (by simp [thenS, hS1, c2]), rfl⟩
set_option maxHeartbeats 300000 in
set_option maxRecDepth 100000 in
theorem kX4_isHiddenThen (l : Launch) (D : va_G) (cI cS : ClassId) (b : Nat → Nat) (E Kp Bf As Q : Nat → Nat → Int32) (n : Nat) (hW : Wf E n) (yb : Nat) (hY : bd (E 9 2) yb) (y k : Nat) (hy : y < 8) (hk : yb + k ≤ 99999) : vDet l D (vT cI cS) yX4_isHiddenThen cX4_isHiddenThen 4 (some .boolean) 5 111 (mW cI b) [.ref (b 0), .int (nI y), .int (nI k)] (E, Kp, Bf, As, Q) (some (.int (bI (hiddenS (yearsS n 0 E k) y)))) ((E, Kp, Bf, E, Q)) := by
  refine vMet_of (by decide) rfl ?_
  intro K hl hD hnL hret h hR hEx
  subst hl hD
  show V K (mW cI b (E, Kp, Bf, As, Q)) 0 [(0, .ref (b 0)), (1, .int (nI y)), (2, .int (nI k))] []
  have hn8 := hW.1
  refine v_aload_n h pX4_isHiddenThen_0 0 rfl 0 rfl rfl (v_get h pX4_isHiddenThen_0 1 fX4_7 0 rfl rfl rfl (v_aload_n h pX4_isHiddenThen_0 2 rfl 0 rfl rfl (v_get h pX4_isHiddenThen_0 3 fX4_19 0 rfl rfl rfl ?_)))
  refine v_callS h pX4_isHiddenThen_0 4 mX4_132 (As := [.ref (b 1), .ref (b 4)]) (st := []) (kX4_copyRow _ _ cI cS (b 1) (b 4) (pr (fl E) (fl As))) v0B v0C emb_14 rfl rfl rfl rfl rfl (vDet_k ?_)
  show V K (mW cI b (E, Kp, Bf, E, Q)) 11 [(0, .ref (b 0)), (1, .int (nI y)), (2, .int (nI k))] []
  refine v_aload_n h pX4_isHiddenThen_0 5 rfl 0 rfl rfl (v_iload_n h pX4_isHiddenThen_0 6 rfl 2 rfl rfl ?_)
  refine v_callV h pX4_isHiddenThen_0 7 mX4_119 (As := [.int (nI k)]) (st := []) (kX4_goes _ _ cI cS b E Kp Bf E Q n hW yb hY k (by omega)) v0B v0C (vEmb_rf _ _) 0 rfl rfl rfl rfl rfl rfl rfl (vDet_k ?_)
  show V K (mW cI b (yearsS n 0 E k, Kp, Bf, E, Q)) 16 [(0, .ref (b 0)), (1, .int (nI y)), (2, .int (nI k))] []
  have hWS1 : Wf (yearsS n 0 E k) n := (Wf_years hW _ _)
  generalize hS1 : yearsS n 0 E k = S1 at hWS1 ⊢
  refine v_aload_n h pX4_isHiddenThen_0 8 rfl 0 rfl rfl (v_iload_n h pX4_isHiddenThen_0 9 rfl 1 rfl rfl ?_)
  refine v_callV h pX4_isHiddenThen_0 10 mX4_108 (As := [.int (nI y)]) (st := []) (kX4_isHidden _ _ cI cS b S1 Kp Bf E Q y (by omega) n hWS1) v0B v0C (vEmb_rf _ _) 0 rfl rfl rfl rfl rfl rfl rfl (vDet_k ?_)
  show V K (mW cI b (S1, Kp, Bf, E, Q)) 21 [(0, .ref (b 0)), (1, .int (nI y)), (2, .int (nI k))] [.int (bI (hiddenS S1 y))]
  refine v_istore_n h pX4_isHiddenThen_0 11 (lv' := [(3, .int (bI (hiddenS S1 y))), (0, .ref (b 0)), (1, .int (nI y)), (2, .int (nI k))]) rfl rfl hnL rfl rfl (v_aload_n h pX4_isHiddenThen_0 12 rfl 1 rfl rfl (v_get h pX4_isHiddenThen_0 13 fX4_19 0 rfl rfl rfl (v_aload_n h pX4_isHiddenThen_0 14 rfl 1 rfl rfl (v_get h pX4_isHiddenThen_0 15 fX4_7 0 rfl rfl rfl ?_))))
  refine v_callS h pX4_isHiddenThen_0 16 mX4_132 (As := [.ref (b 4), .ref (b 1)]) (st := []) (kX4_copyRow _ _ cI cS (b 4) (b 1) (pr (fl E) (fl S1))) v0B v0C emb_41 rfl rfl rfl rfl rfl (vDet_k ?_)
  show V K (mW cI b (E, Kp, Bf, E, Q)) 33 [(3, .int (bI (hiddenS S1 y))), (0, .ref (b 0)), (1, .int (nI y)), (2, .int (nI k))] []
  refine v_iload_n h pX4_isHiddenThen_0 17 rfl 0 rfl rfl ?_
  exact v_zret h pX4_isHiddenThen_0 18 (bI_01 _) hR hret rfl ((E, Kp, Bf, E, Q)) rfl ⟨vI (by rw [hS1]), rfl⟩
