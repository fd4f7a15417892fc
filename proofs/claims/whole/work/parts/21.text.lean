set_option maxHeartbeats 300000 in
set_option maxRecDepth 100000 in
theorem kX4_has3 (l : Launch) (D : va_G) (cI cS : ClassId) (b : Nat → Nat) (E Kp Bf As Q : Nat → Nat → Int32) (L f : Nat) (fa : Int32) (hfL : f ≤ L) (hL : Q 6 1 = nI L) (hLb : L ≤ 120) (hT : ∀ i, i < 120 → bd (Q 1 i) 255) (i : Nat) (hi : i ≤ 10) (x y z : Int32) : vDet l D (vT cI cS) yX4_has3 cX4_has3 5 (some .boolean) 1 21 (mW cI b) [.ref (b 0), .int (nI i), .int x, .int y, .int z] (E, Kp, Bf, As, tkF Q L f fa) (some (.int (bI (h3 (Q 1) L f i x y z)))) ((E, Kp, Bf, As, tkF Q L f fa)) := by
  refine vMet_of (by decide) rfl ?_
  intro K hl hD hnL hret h hR hEx
  subst hl hD
  show V K (mW cI b (E, Kp, Bf, As, tkF Q L f fa)) 0 [(0, .ref (b 0)), (1, .int (nI i)), (2, .int x), (3, .int y), (4, .int z)] []
  have htk4 := tk_le (Q 1) L f
  have hel := en_le (T := Q 1) hfL
  have heg := en_ge (Q 1) L f
  have hnl := nx_le (T := Q 1) hfL
  refine v_aload_n h pX4_has3_0 0 rfl 0 rfl rfl (v_aload_n h pX4_has3_0 1 rfl 0 rfl rfl (v_get h pX4_has3_0 2 fX4_199 0 rfl rfl rfl (v_top (w := .int (nI f)) rfl (v_iload_n h pX4_has3_0 3 rfl 1 rfl rfl (v_iaddn h pX4_has3_0 4 f i rfl ?_)))))
  refine v_callV h pX4_has3_0 5 mX4_202 (As := [.int (nI (f + i))]) (st := []) (kX4_byteAt _ _ cI cS b E Kp Bf As (tkF Q L f fa) (f + i) L (by omega) hL hLb) v0B v0C (vEmb_rf _ _) 0 rfl rfl rfl rfl rfl rfl rfl (vDet_k ?_)
  show V K (mW cI b (E, Kp, Bf, As, tkF Q L f fa)) 10 [(0, .ref (b 0)), (1, .int (nI i)), (2, .int x), (3, .int y), (4, .int z)] [.int (byS (Q 1) L (f + i))]
  refine v_iload_n h pX4_has3_0 6 rfl 2 rfl rfl ?_
  refine v_icmp_ne (tgt := 51) h pX4_has3_0 7 rfl rfl (fun c1 => ?_) (fun c1 => ?_)
  · skip
    refine v_iconst h pX4_has3_0 30 rfl ki_0 ?_
    exact v_zret h pX4_has3_0 31 (Or.inl rfl) hR hret rfl ((E, Kp, Bf, As, tkF Q L f fa)) rfl ⟨vI (by simp [h3, bI, c1]), rfl⟩
  · skip
    refine v_aload_n h pX4_has3_0 8 rfl 0 rfl rfl (v_aload_n h pX4_has3_0 9 rfl 0 rfl rfl (v_get h pX4_has3_0 10 fX4_199 0 rfl rfl rfl (v_top (w := .int (nI f)) rfl (v_iload_n h pX4_has3_0 11 rfl 1 rfl rfl (v_iaddn h pX4_has3_0 12 f i rfl ?_)))))
    refine v_iconst h pX4_has3_0 13 rfl ki_1 (v_iaddn h pX4_has3_0 14 (f + i) 1 rfl ?_)
    refine v_callV h pX4_has3_0 15 mX4_202 (As := [.int (nI (f + i + 1))]) (st := []) (kX4_byteAt _ _ cI cS b E Kp Bf As (tkF Q L f fa) (f + i + 1) L (by omega) hL hLb) v0B v0C (vEmb_rf _ _) 0 rfl rfl rfl rfl rfl rfl rfl (vDet_k ?_)
    show V K (mW cI b (E, Kp, Bf, As, tkF Q L f fa)) 26 [(0, .ref (b 0)), (1, .int (nI i)), (2, .int x), (3, .int y), (4, .int z)] [.int (byS (Q 1) L (f + i + 1))]
    refine v_iload_n h pX4_has3_0 16 rfl 3 rfl rfl ?_
    refine v_icmp_ne (tgt := 51) h pX4_has3_0 17 rfl rfl (fun c2 => ?_) (fun c2 => ?_)
    · skip
      refine v_iconst h pX4_has3_0 30 rfl ki_0 ?_
      exact v_zret h pX4_has3_0 31 (Or.inl rfl) hR hret rfl ((E, Kp, Bf, As, tkF Q L f fa)) rfl ⟨vI (by simp [h3, bI, (eq_true c1), c2]), rfl⟩
    · skip
      refine v_aload_n h pX4_has3_0 18 rfl 0 rfl rfl (v_aload_n h pX4_has3_0 19 rfl 0 rfl rfl (v_get h pX4_has3_0 20 fX4_199 0 rfl rfl rfl (v_top (w := .int (nI f)) rfl (v_iload_n h pX4_has3_0 21 rfl 1 rfl rfl (v_iaddn h pX4_has3_0 22 f i rfl ?_)))))
      refine v_iconst h pX4_has3_0 23 rfl ki_2 (v_iaddn h pX4_has3_0 24 (f + i) 2 rfl ?_)
      refine v_callV h pX4_has3_0 25 mX4_202 (As := [.int (nI (f + i + 2))]) (st := []) (kX4_byteAt _ _ cI cS b E Kp Bf As (tkF Q L f fa) (f + i + 2) L (by omega) hL hLb) v0B v0C (vEmb_rf _ _) 0 rfl rfl rfl rfl rfl rfl rfl (vDet_k ?_)
      show V K (mW cI b (E, Kp, Bf, As, tkF Q L f fa)) 42 [(0, .ref (b 0)), (1, .int (nI i)), (2, .int x), (3, .int y), (4, .int z)] [.int (byS (Q 1) L (f + i + 2))]
      refine v_iload h pX4_has3_0 26 rfl 4 rfl ?_
      refine v_icmp_ne (tgt := 51) h pX4_has3_0 27 rfl rfl (fun c3 => ?_) (fun c3 => ?_)
      · skip
        refine v_iconst h pX4_has3_0 30 rfl ki_0 ?_
        exact v_zret h pX4_has3_0 31 (Or.inl rfl) hR hret rfl ((E, Kp, Bf, As, tkF Q L f fa)) rfl ⟨vI (by simp [h3, bI, (eq_true c1), (eq_true c2), c3]), rfl⟩
      · skip
        refine v_iconst h pX4_has3_0 28 rfl ki_1 (v_goto (tgt := 52) h pX4_has3_0 29 rfl rfl ?_)
        exact v_zret h pX4_has3_0 31 (Or.inr rfl) hR hret rfl ((E, Kp, Bf, As, tkF Q L f fa)) rfl ⟨vI (by simp [h3, bI, (eq_true c1), (eq_true c2), (eq_true c3)]), rfl⟩
set_option maxHeartbeats 300000 in
set_option maxRecDepth 100000 in
theorem kX4_isWord (l : Launch) (D : va_G) (cI cS : ClassId) (b : Nat → Nat) (E Kp Bf As Q : Nat → Nat → Int32) (L f : Nat) (fa : Int32) (hfL : f ≤ L) (hL : Q 6 1 = nI L) (hLb : L ≤ 120) (hT : ∀ i, i < 120 → bd (Q 1 i) 255) (k : Nat) (hk : k ≤ 10) : vDet l D (vT cI cS) yX4_isWord cX4_isWord 2 (some .boolean) 0 0 (mW cI b) [.ref (b 0), .int (nI k)] (E, Kp, Bf, As, tkF Q L f fa) (some (.int (bI (wd (Q 1) L f k)))) ((E, Kp, Bf, As, tkF Q L f fa)) := by
  refine vMet_of (by decide) rfl ?_
  intro K hl hD hnL hret h hR hEx
  subst hl hD
  show V K (mW cI b (E, Kp, Bf, As, tkF Q L f fa)) 0 [(0, .ref (b 0)), (1, .int (nI k))] []
  have htk4 := tk_le (Q 1) L f
  have hel := en_le (T := Q 1) hfL
  have heg := en_ge (Q 1) L f
  have hnl := nx_le (T := Q 1) hfL
  refine v_aload_n h pX4_isWord_0 0 rfl 0 rfl rfl (v_get h pX4_isWord_0 1 fX4_211 0 rfl rfl rfl (v_top (w := .int (nI (tk (Q 1) L f))) rfl (v_iconst h pX4_isWord_0 2 rfl ki_1 ?_)))
  refine v_ncmp_ne (a := tk (Q 1) L f) (b := 1) (tgt := 25) h pX4_isWord_0 3 rfl rfl (by omega) (by omega) (fun c1 => ?_) (fun c1 => ?_)
  · skip
    refine v_iconst h pX4_isWord_0 13 rfl ki_0 ?_
    exact v_zret h pX4_isWord_0 14 (Or.inl rfl) hR hret rfl ((E, Kp, Bf, As, tkF Q L f fa)) rfl ⟨vI (by simp [wd, bI, c1]), rfl⟩
  · skip
    refine v_aload_n h pX4_isWord_0 4 rfl 0 rfl rfl (v_get h pX4_isWord_0 5 fX4_196 0 rfl rfl rfl (v_top (w := .int (nI (en (Q 1) L f))) rfl (v_aload_n h pX4_isWord_0 6 rfl 0 rfl rfl (v_get h pX4_isWord_0 7 fX4_199 0 rfl rfl rfl (v_top (w := .int (nI f)) rfl ?_)))))
    refine v_isub h pX4_isWord_0 8 rfl ?_
    refine v_top (w := .int (nI (en (Q 1) L f - f))) (congrArg Value.int (nI_sb heg)) (v_iload_n h pX4_isWord_0 9 rfl 1 rfl rfl ?_)
    refine v_ncmp_ne (a := (en (Q 1) L f - f)) (b := k) (tgt := 25) h pX4_isWord_0 10 rfl rfl (by omega) (by omega) (fun c2 => ?_) (fun c2 => ?_)
    · skip
      refine v_iconst h pX4_isWord_0 13 rfl ki_0 ?_
      exact v_zret h pX4_isWord_0 14 (Or.inl rfl) hR hret rfl ((E, Kp, Bf, As, tkF Q L f fa)) rfl ⟨vI (by simp [wd, bI, (eq_true c1), c2]), rfl⟩
    · skip
      refine v_iconst h pX4_isWord_0 11 rfl ki_1 (v_goto (tgt := 26) h pX4_isWord_0 12 rfl rfl ?_)
      exact v_zret h pX4_isWord_0 14 (Or.inr rfl) hR hret rfl ((E, Kp, Bf, As, tkF Q L f fa)) rfl ⟨vI (by simp [wd, bI, (eq_true c1), (eq_true c2)]), rfl⟩
set_option maxHeartbeats 300000 in
set_option maxRecDepth 100000 in
theorem kX4_fails (l : Launch) (D : va_G) (cI cS : ClassId) (b : Nat → Nat) (E Kp Bf As Q : Nat → Nat → Int32) (L f : Nat) (fa : Int32) (hfL : f ≤ L) (hL : Q 6 1 = nI L) (hLb : L ≤ 120) (hT : ∀ i, i < 120 → bd (Q 1 i) 255)  : vDet l D (vT cI cS) yX4_fails cX4_fails 1 (some .boolean) 0 0 (mW cI b) [.ref (b 0)] (E, Kp, Bf, As, tkF Q L f fa) (some (.int 0)) ((E, Kp, Bf, As, tkF Q L f (nI f))) := by
  refine vMet_of (by decide) rfl ?_
  intro K hl hD hnL hret h hR hEx
  subst hl hD
  show V K (mW cI b (E, Kp, Bf, As, tkF Q L f fa)) 0 [(0, .ref (b 0))] []
  have htk4 := tk_le (Q 1) L f
  have hel := en_le (T := Q 1) hfL
  have heg := en_ge (Q 1) L f
  have hnl := nx_le (T := Q 1) hfL
  refine v_aload_n h pX4_fails_0 0 rfl 0 rfl rfl (v_aload_n h pX4_fails_0 1 rfl 0 rfl rfl (v_get h pX4_fails_0 2 fX4_199 0 rfl rfl rfl (v_top (w := .int (nI f)) rfl (v_puti h pX4_fails_0 3 gX4_217 0 (ws' := mW cI b (E, Kp, Bf, As, tkF Q L f (nI f))) rfl rfl rfl mW_t8 (v_iconst h pX4_fails_0 4 rfl ki_0 ?_)))))
  exact v_zret h pX4_fails_0 5 (Or.inl rfl) hR hret rfl ((E, Kp, Bf, As, tkF Q L f (nI f))) rfl ⟨vI rfl, rfl⟩
set_option maxHeartbeats 300000 in
set_option maxRecDepth 100000 in
theorem kX4_isFour (l : Launch) (D : va_G) (cI cS : ClassId) (b : Nat → Nat) (E Kp Bf As Q : Nat → Nat → Int32) (L f : Nat) (fa : Int32) (hfL : f ≤ L) (hL : Q 6 1 = nI L) (hLb : L ≤ 120) (hT : ∀ i, i < 120 → bd (Q 1 i) 255) (x y z u : Int32) : vDet l D (vT cI cS) yX4_isFour cX4_isFour 5 (some .boolean) 2 45 (mW cI b) [.ref (b 0), .int x, .int y, .int z, .int u] (E, Kp, Bf, As, tkF Q L f fa) (some (.int (bI (w4 (Q 1) L f x y z u)))) ((E, Kp, Bf, As, tkF Q L f fa)) := by
  refine vMet_of (by decide) rfl ?_
  intro K hl hD hnL hret h hR hEx
  subst hl hD
  show V K (mW cI b (E, Kp, Bf, As, tkF Q L f fa)) 0 [(0, .ref (b 0)), (1, .int x), (2, .int y), (3, .int z), (4, .int u)] []
  have htk4 := tk_le (Q 1) L f
  have hel := en_le (T := Q 1) hfL
  have heg := en_ge (Q 1) L f
  have hnl := nx_le (T := Q 1) hfL
  refine v_aload_n h pX4_isFour_0 0 rfl 0 rfl rfl (v_iconst h pX4_isFour_0 1 rfl ki_4 ?_)
  refine v_callV h pX4_isFour_0 2 mX4_220 (As := [.int 4]) (st := []) (kX4_isWord _ _ cI cS b E Kp Bf As Q L f fa hfL hL hLb hT 4 (by decide)) v0B v0C (vEmb_rf _ _) 0 rfl rfl rfl rfl rfl rfl rfl (vDet_k ?_)
  show V K (mW cI b (E, Kp, Bf, As, tkF Q L f fa)) 5 [(0, .ref (b 0)), (1, .int x), (2, .int y), (3, .int z), (4, .int u)] [.int (bI (wd (Q 1) L f 4))]
  refine v_bif_eq (tgt := 35) h pX4_isFour_0 3 rfl rfl (fun c1 => ?_) (fun c1 => ?_)
  · skip
    refine v_iconst h pX4_isFour_0 20 rfl ki_0 ?_
    exact v_zret h pX4_isFour_0 21 (Or.inl rfl) hR hret rfl ((E, Kp, Bf, As, tkF Q L f fa)) rfl ⟨vI (by simp [w4, bI, c1]), rfl⟩
  · skip
    refine v_aload_n h pX4_isFour_0 4 rfl 0 rfl rfl (v_iconst h pX4_isFour_0 5 rfl ki_0 (v_iload_n h pX4_isFour_0 6 rfl 1 rfl rfl (v_iload_n h pX4_isFour_0 7 rfl 2 rfl rfl (v_iload_n h pX4_isFour_0 8 rfl 3 rfl rfl ?_))))
    refine v_callV h pX4_isFour_0 9 mX4_223 (As := [.int 0, .int x, .int y, .int z]) (st := []) (kX4_has3 _ _ cI cS b E Kp Bf As Q L f fa hfL hL hLb hT 0 (by decide) x y z) v0B v0C (vEmb_rf _ _) 0 rfl rfl rfl rfl rfl rfl rfl (vDet_k ?_)
    show V K (mW cI b (E, Kp, Bf, As, tkF Q L f fa)) 16 [(0, .ref (b 0)), (1, .int x), (2, .int y), (3, .int z), (4, .int u)] [.int (bI (h3 (Q 1) L f 0 x y z))]
    refine v_bif_eq (tgt := 35) h pX4_isFour_0 10 rfl rfl (fun c2 => ?_) (fun c2 => ?_)
    · skip
      refine v_iconst h pX4_isFour_0 20 rfl ki_0 ?_
      exact v_zret h pX4_isFour_0 21 (Or.inl rfl) hR hret rfl ((E, Kp, Bf, As, tkF Q L f fa)) rfl ⟨vI (by simp [w4, bI, c1, c2]), rfl⟩
    · skip
      refine v_aload_n h pX4_isFour_0 11 rfl 0 rfl rfl (v_iconst h pX4_isFour_0 12 rfl ki_1 (v_iload_n h pX4_isFour_0 13 rfl 2 rfl rfl (v_iload_n h pX4_isFour_0 14 rfl 3 rfl rfl (v_iload h pX4_isFour_0 15 rfl 4 rfl ?_))))
      refine v_callV h pX4_isFour_0 16 mX4_223 (As := [.int 1, .int y, .int z, .int u]) (st := []) (kX4_has3 _ _ cI cS b E Kp Bf As Q L f fa hfL hL hLb hT 1 (by decide) y z u) v0B v0C (vEmb_rf _ _) 0 rfl rfl rfl rfl rfl rfl rfl (vDet_k ?_)
      show V K (mW cI b (E, Kp, Bf, As, tkF Q L f fa)) 28 [(0, .ref (b 0)), (1, .int x), (2, .int y), (3, .int z), (4, .int u)] [.int (bI (h3 (Q 1) L f 1 y z u))]
      refine v_bif_eq (tgt := 35) h pX4_isFour_0 17 rfl rfl (fun c3 => ?_) (fun c3 => ?_)
      · skip
        refine v_iconst h pX4_isFour_0 20 rfl ki_0 ?_
        exact v_zret h pX4_isFour_0 21 (Or.inl rfl) hR hret rfl ((E, Kp, Bf, As, tkF Q L f fa)) rfl ⟨vI (by simp [w4, bI, c1, c2, c3]), rfl⟩
      · skip
        refine v_iconst h pX4_isFour_0 18 rfl ki_1 (v_goto (tgt := 36) h pX4_isFour_0 19 rfl rfl ?_)
        exact v_zret h pX4_isFour_0 21 (Or.inr rfl) hR hret rfl ((E, Kp, Bf, As, tkF Q L f fa)) rfl ⟨vI (by simp [w4, bI, c1, c2, c3]), rfl⟩
set_option maxHeartbeats 300000 in
set_option maxRecDepth 100000 in
theorem kX4_isFive (l : Launch) (D : va_G) (cI cS : ClassId) (b : Nat → Nat) (E Kp Bf As Q : Nat → Nat → Int32) (L f : Nat) (fa : Int32) (hfL : f ≤ L) (hL : Q 6 1 = nI L) (hLb : L ≤ 120) (hT : ∀ i, i < 120 → bd (Q 1 i) 255) (x y z u v : Int32) : vDet l D (vT cI cS) yX4_isFive cX4_isFive 6 (some .boolean) 2 45 (mW cI b) [.ref (b 0), .int x, .int y, .int z, .int u, .int v] (E, Kp, Bf, As, tkF Q L f fa) (some (.int (bI (w5 (Q 1) L f x y z u v)))) ((E, Kp, Bf, As, tkF Q L f fa)) := by
  refine vMet_of (by decide) rfl ?_
  intro K hl hD hnL hret h hR hEx
  subst hl hD
  show V K (mW cI b (E, Kp, Bf, As, tkF Q L f fa)) 0 [(0, .ref (b 0)), (1, .int x), (2, .int y), (3, .int z), (4, .int u), (5, .int v)] []
  have htk4 := tk_le (Q 1) L f
  have hel := en_le (T := Q 1) hfL
  have heg := en_ge (Q 1) L f
  have hnl := nx_le (T := Q 1) hfL
  refine v_aload_n h pX4_isFive_0 0 rfl 0 rfl rfl (v_iconst h pX4_isFive_0 1 rfl ki_5 ?_)
  refine v_callV h pX4_isFive_0 2 mX4_220 (As := [.int 5]) (st := []) (kX4_isWord _ _ cI cS b E Kp Bf As Q L f fa hfL hL hLb hT 5 (by decide)) v0B v0C (vEmb_rf _ _) 0 rfl rfl rfl rfl rfl rfl rfl (vDet_k ?_)
  show V K (mW cI b (E, Kp, Bf, As, tkF Q L f fa)) 5 [(0, .ref (b 0)), (1, .int x), (2, .int y), (3, .int z), (4, .int u), (5, .int v)] [.int (bI (wd (Q 1) L f 5))]
  refine v_bif_eq (tgt := 36) h pX4_isFive_0 3 rfl rfl (fun c1 => ?_) (fun c1 => ?_)
  · skip
    refine v_iconst h pX4_isFive_0 20 rfl ki_0 ?_
    exact v_zret h pX4_isFive_0 21 (Or.inl rfl) hR hret rfl ((E, Kp, Bf, As, tkF Q L f fa)) rfl ⟨vI (by simp [w5, bI, c1]), rfl⟩
  · skip
    refine v_aload_n h pX4_isFive_0 4 rfl 0 rfl rfl (v_iconst h pX4_isFive_0 5 rfl ki_0 (v_iload_n h pX4_isFive_0 6 rfl 1 rfl rfl (v_iload_n h pX4_isFive_0 7 rfl 2 rfl rfl (v_iload_n h pX4_isFive_0 8 rfl 3 rfl rfl ?_))))
    refine v_callV h pX4_isFive_0 9 mX4_223 (As := [.int 0, .int x, .int y, .int z]) (st := []) (kX4_has3 _ _ cI cS b E Kp Bf As Q L f fa hfL hL hLb hT 0 (by decide) x y z) v0B v0C (vEmb_rf _ _) 0 rfl rfl rfl rfl rfl rfl rfl (vDet_k ?_)
    show V K (mW cI b (E, Kp, Bf, As, tkF Q L f fa)) 16 [(0, .ref (b 0)), (1, .int x), (2, .int y), (3, .int z), (4, .int u), (5, .int v)] [.int (bI (h3 (Q 1) L f 0 x y z))]
    refine v_bif_eq (tgt := 36) h pX4_isFive_0 10 rfl rfl (fun c2 => ?_) (fun c2 => ?_)
    · skip
      refine v_iconst h pX4_isFive_0 20 rfl ki_0 ?_
      exact v_zret h pX4_isFive_0 21 (Or.inl rfl) hR hret rfl ((E, Kp, Bf, As, tkF Q L f fa)) rfl ⟨vI (by simp [w5, bI, c1, c2]), rfl⟩
    · skip
      refine v_aload_n h pX4_isFive_0 11 rfl 0 rfl rfl (v_iconst h pX4_isFive_0 12 rfl ki_2 (v_iload_n h pX4_isFive_0 13 rfl 3 rfl rfl (v_iload h pX4_isFive_0 14 rfl 4 rfl (v_iload h pX4_isFive_0 15 rfl 5 rfl ?_))))
      refine v_callV h pX4_isFive_0 16 mX4_223 (As := [.int 2, .int z, .int u, .int v]) (st := []) (kX4_has3 _ _ cI cS b E Kp Bf As Q L f fa hfL hL hLb hT 2 (by decide) z u v) v0B v0C (vEmb_rf _ _) 0 rfl rfl rfl rfl rfl rfl rfl (vDet_k ?_)
      show V K (mW cI b (E, Kp, Bf, As, tkF Q L f fa)) 29 [(0, .ref (b 0)), (1, .int x), (2, .int y), (3, .int z), (4, .int u), (5, .int v)] [.int (bI (h3 (Q 1) L f 2 z u v))]
      refine v_bif_eq (tgt := 36) h pX4_isFive_0 17 rfl rfl (fun c3 => ?_) (fun c3 => ?_)
      · skip
        refine v_iconst h pX4_isFive_0 20 rfl ki_0 ?_
        exact v_zret h pX4_isFive_0 21 (Or.inl rfl) hR hret rfl ((E, Kp, Bf, As, tkF Q L f fa)) rfl ⟨vI (by simp [w5, bI, c1, c2, c3]), rfl⟩
      · skip
        refine v_iconst h pX4_isFive_0 18 rfl ki_1 (v_goto (tgt := 37) h pX4_isFive_0 19 rfl rfl ?_)
        exact v_zret h pX4_isFive_0 21 (Or.inr rfl) hR hret rfl ((E, Kp, Bf, As, tkF Q L f fa)) rfl ⟨vI (by simp [w5, bI, c1, c2, c3]), rfl⟩
set_option maxHeartbeats 300000 in
set_option maxRecDepth 100000 in
theorem kX4_isSix (l : Launch) (D : va_G) (cI cS : ClassId) (b : Nat → Nat) (E Kp Bf As Q : Nat → Nat → Int32) (L f : Nat) (fa : Int32) (hfL : f ≤ L) (hL : Q 6 1 = nI L) (hLb : L ≤ 120) (hT : ∀ i, i < 120 → bd (Q 1 i) 255) (x y z u v q : Int32) : vDet l D (vT cI cS) yX4_isSix cX4_isSix 7 (some .boolean) 2 45 (mW cI b) [.ref (b 0), .int x, .int y, .int z, .int u, .int v, .int q] (E, Kp, Bf, As, tkF Q L f fa) (some (.int (bI (w6 (Q 1) L f x y z u v q)))) ((E, Kp, Bf, As, tkF Q L f fa)) := by
  refine vMet_of (by decide) rfl ?_
  intro K hl hD hnL hret h hR hEx
  subst hl hD
  show V K (mW cI b (E, Kp, Bf, As, tkF Q L f fa)) 0 [(0, .ref (b 0)), (1, .int x), (2, .int y), (3, .int z), (4, .int u), (5, .int v), (6, .int q)] []
  have htk4 := tk_le (Q 1) L f
  have hel := en_le (T := Q 1) hfL
  have heg := en_ge (Q 1) L f
  have hnl := nx_le (T := Q 1) hfL
  refine v_aload_n h pX4_isSix_0 0 rfl 0 rfl rfl (v_bipush h pX4_isSix_0 1 rfl kb_6 ?_)
  refine v_callV h pX4_isSix_0 2 mX4_220 (As := [.int 6]) (st := []) (kX4_isWord _ _ cI cS b E Kp Bf As Q L f fa hfL hL hLb hT 6 (by decide)) v0B v0C (vEmb_rf _ _) 0 rfl rfl rfl rfl rfl rfl rfl (vDet_k ?_)
  show V K (mW cI b (E, Kp, Bf, As, tkF Q L f fa)) 6 [(0, .ref (b 0)), (1, .int x), (2, .int y), (3, .int z), (4, .int u), (5, .int v), (6, .int q)] [.int (bI (wd (Q 1) L f 6))]
  refine v_bif_eq (tgt := 38) h pX4_isSix_0 3 rfl rfl (fun c1 => ?_) (fun c1 => ?_)
  · skip
    refine v_iconst h pX4_isSix_0 20 rfl ki_0 ?_
    exact v_zret h pX4_isSix_0 21 (Or.inl rfl) hR hret rfl ((E, Kp, Bf, As, tkF Q L f fa)) rfl ⟨vI (by simp [w6, bI, c1]), rfl⟩
  · skip
    refine v_aload_n h pX4_isSix_0 4 rfl 0 rfl rfl (v_iconst h pX4_isSix_0 5 rfl ki_0 (v_iload_n h pX4_isSix_0 6 rfl 1 rfl rfl (v_iload_n h pX4_isSix_0 7 rfl 2 rfl rfl (v_iload_n h pX4_isSix_0 8 rfl 3 rfl rfl ?_))))
    refine v_callV h pX4_isSix_0 9 mX4_223 (As := [.int 0, .int x, .int y, .int z]) (st := []) (kX4_has3 _ _ cI cS b E Kp Bf As Q L f fa hfL hL hLb hT 0 (by decide) x y z) v0B v0C (vEmb_rf _ _) 0 rfl rfl rfl rfl rfl rfl rfl (vDet_k ?_)
    show V K (mW cI b (E, Kp, Bf, As, tkF Q L f fa)) 17 [(0, .ref (b 0)), (1, .int x), (2, .int y), (3, .int z), (4, .int u), (5, .int v), (6, .int q)] [.int (bI (h3 (Q 1) L f 0 x y z))]
    refine v_bif_eq (tgt := 38) h pX4_isSix_0 10 rfl rfl (fun c2 => ?_) (fun c2 => ?_)
    · skip
      refine v_iconst h pX4_isSix_0 20 rfl ki_0 ?_
      exact v_zret h pX4_isSix_0 21 (Or.inl rfl) hR hret rfl ((E, Kp, Bf, As, tkF Q L f fa)) rfl ⟨vI (by simp [w6, bI, c1, c2]), rfl⟩
    · skip
      refine v_aload_n h pX4_isSix_0 11 rfl 0 rfl rfl (v_iconst h pX4_isSix_0 12 rfl ki_3 (v_iload h pX4_isSix_0 13 rfl 4 rfl (v_iload h pX4_isSix_0 14 rfl 5 rfl (v_iload h pX4_isSix_0 15 rfl 6 rfl ?_))))
      refine v_callV h pX4_isSix_0 16 mX4_223 (As := [.int 3, .int u, .int v, .int q]) (st := []) (kX4_has3 _ _ cI cS b E Kp Bf As Q L f fa hfL hL hLb hT 3 (by decide) u v q) v0B v0C (vEmb_rf _ _) 0 rfl rfl rfl rfl rfl rfl rfl (vDet_k ?_)
      show V K (mW cI b (E, Kp, Bf, As, tkF Q L f fa)) 31 [(0, .ref (b 0)), (1, .int x), (2, .int y), (3, .int z), (4, .int u), (5, .int v), (6, .int q)] [.int (bI (h3 (Q 1) L f 3 u v q))]
      refine v_bif_eq (tgt := 38) h pX4_isSix_0 17 rfl rfl (fun c3 => ?_) (fun c3 => ?_)
      · skip
        refine v_iconst h pX4_isSix_0 20 rfl ki_0 ?_
        exact v_zret h pX4_isSix_0 21 (Or.inl rfl) hR hret rfl ((E, Kp, Bf, As, tkF Q L f fa)) rfl ⟨vI (by simp [w6, bI, c1, c2, c3]), rfl⟩
      · skip
        refine v_iconst h pX4_isSix_0 18 rfl ki_1 (v_goto (tgt := 39) h pX4_isSix_0 19 rfl rfl ?_)
        exact v_zret h pX4_isSix_0 21 (Or.inr rfl) hR hret rfl ((E, Kp, Bf, As, tkF Q L f fa)) rfl ⟨vI (by simp [w6, bI, c1, c2, c3]), rfl⟩
set_option maxHeartbeats 300000 in
set_option maxRecDepth 100000 in
theorem kX4_isNumber (l : Launch) (D : va_G) (cI cS : ClassId) (b : Nat → Nat) (E Kp Bf As Q : Nat → Nat → Int32) (L f : Nat) (fa : Int32) (hfL : f ≤ L) (hL : Q 6 1 = nI L) (hLb : L ≤ 120) (hT : ∀ i, i < 120 → bd (Q 1 i) 255) (k : Nat) (hk : k < 2147483648) : vDet l D (vT cI cS) yX4_isNumber cX4_isNumber 3 (some .boolean) 1 25 (mW cI b) [.ref (b 0), .int 0, .int (nI k)] (E, Kp, Bf, As, tkF Q L f fa) (some (.int (bI (nmOK (Q 1) L f k)))) ((E, Kp, Bf, As, tkF Q L f (faN (nmOK (Q 1) L f k) f fa))) := by
  refine vMet_of (by decide) rfl ?_
  intro K hl hD hnL hret h hR hEx
  subst hl hD
  show V K (mW cI b (E, Kp, Bf, As, tkF Q L f fa)) 0 [(0, .ref (b 0)), (1, .int 0), (2, .int (nI k))] []
  have htk4 := tk_le (Q 1) L f
  have hel := en_le (T := Q 1) hfL
  have heg := en_ge (Q 1) L f
  have hnl := nx_le (T := Q 1) hfL
  refine v_aload_n h pX4_isNumber_0 0 rfl 0 rfl rfl (v_get h pX4_isNumber_0 1 fX4_211 0 rfl rfl rfl (v_top (w := .int (nI (tk (Q 1) L f))) rfl (v_iconst h pX4_isNumber_0 2 rfl ki_2 ?_)))
  refine v_ncmp_ne (a := tk (Q 1) L f) (b := 2) (tgt := 23) h pX4_isNumber_0 3 rfl rfl (by omega) (by omega) (fun c1 => ?_) (fun c1 => ?_)
  · skip
    refine v_aload_n h pX4_isNumber_0 13 rfl 0 rfl rfl ?_
    refine v_callV h pX4_isNumber_0 14 mX4_227 (As := []) (st := []) (kX4_fails _ _ cI cS b E Kp Bf As Q L f fa hfL hL hLb hT) v0B v0C (vEmb_rf _ _) 0 rfl rfl rfl rfl rfl rfl rfl (vDet_k ?_)
    show V K (mW cI b (E, Kp, Bf, As, tkF Q L f (nI f))) 27 [(0, .ref (b 0)), (1, .int 0), (2, .int (nI k))] [.int 0]
    refine v_if_eq (tgt := 34) h pX4_isNumber_0 15 rfl rfl (fun c2 => ?_) (fun c2 => absurd c2 (by decide))
    refine v_iconst h pX4_isNumber_0 18 rfl ki_0 ?_
    exact v_zret h pX4_isNumber_0 19 (Or.inl rfl) hR hret rfl ((E, Kp, Bf, As, tkF Q L f (nI f))) rfl ⟨vI (by simp [nmOK, bI, c1]), (by exact congrArg (fun q => ((E, Kp, Bf, As, tkF Q L f q) : mS)) (by simp [faN, nmOK, c1]))⟩
  · skip
    refine v_aload_n h pX4_isNumber_0 4 rfl 0 rfl rfl (v_get h pX4_isNumber_0 5 fX4_214 0 rfl rfl rfl (v_top (w := .int (nmV (Q 1) L f)) rfl (v_i2l h pX4_isNumber_0 6 rfl (v_iload_n h pX4_isNumber_0 7 rfl 1 rfl rfl (v_i2l h pX4_isNumber_0 8 rfl ?_)))))
    refine v_iload_n h pX4_isNumber_0 9 rfl 2 rfl rfl (v_i2l h pX4_isNumber_0 10 rfl ?_)
    refine v_callS h pX4_isNumber_0 11 mX4_50 (As := [.long ((nmV (Q 1) L f : Int32).toInt64), .long ((0 : Int32).toInt64), .long ((nI k : Int32).toInt64)]) (st := []) (kX4_isIn _ _ cI cS (nmV (Q 1) L f) 0 (nI k)) v0B v0C (vEmb_u _) rfl rfl rfl rfl rfl (vDet_k ?_)
    show V K (mW cI b (E, Kp, Bf, As, tkF Q L f fa)) 20 [(0, .ref (b 0)), (1, .int 0), (2, .int (nI k))] [.int (bI (inB (nmV (Q 1) L f) 0 (nI k)))]
    refine v_bif_ne (tgt := 30) h pX4_isNumber_0 12 rfl rfl (fun c3 => ?_) (fun c3 => ?_)
    · skip
      refine v_iconst h pX4_isNumber_0 16 rfl ki_1 (v_goto (tgt := 35) h pX4_isNumber_0 17 rfl rfl ?_)
      exact v_zret h pX4_isNumber_0 19 (Or.inr rfl) hR hret rfl ((E, Kp, Bf, As, tkF Q L f fa)) rfl ⟨vI (by simp [nmOK, bI, (eq_true c1), c3]), (by exact congrArg (fun q => ((E, Kp, Bf, As, tkF Q L f q) : mS)) (by simp [faN, nmOK, c1, c3]))⟩
    · skip
      refine v_aload_n h pX4_isNumber_0 13 rfl 0 rfl rfl ?_
      refine v_callV h pX4_isNumber_0 14 mX4_227 (As := []) (st := []) (kX4_fails _ _ cI cS b E Kp Bf As Q L f fa hfL hL hLb hT) v0B v0C (vEmb_rf _ _) 0 rfl rfl rfl rfl rfl rfl rfl (vDet_k ?_)
      show V K (mW cI b (E, Kp, Bf, As, tkF Q L f (nI f))) 27 [(0, .ref (b 0)), (1, .int 0), (2, .int (nI k))] [.int 0]
      refine v_if_eq (tgt := 34) h pX4_isNumber_0 15 rfl rfl (fun c4 => ?_) (fun c4 => absurd c4 (by decide))
      refine v_iconst h pX4_isNumber_0 18 rfl ki_0 ?_
      exact v_zret h pX4_isNumber_0 19 (Or.inl rfl) hR hret rfl ((E, Kp, Bf, As, tkF Q L f (nI f))) rfl ⟨vI (by simp [nmOK, bI, (eq_true c1), c3]), (by exact congrArg (fun q => ((E, Kp, Bf, As, tkF Q L f q) : mS)) (by simp [faN, nmOK, c1, c3]))⟩
set_option maxHeartbeats 300000 in
set_option maxRecDepth 100000 in
theorem kX4_kindHere (l : Launch) (D : va_G) (cI cS : ClassId) (b : Nat → Nat) (E Kp Bf As Q : Nat → Nat → Int32) (L f : Nat) (fa : Int32) (hfL : f ≤ L) (hL : Q 6 1 = nI L) (hLb : L ≤ 120) (hT : ∀ i, i < 120 → bd (Q 1 i) 255)  : vDet l D (vT cI cS) yX4_kindHere cX4_kindHere 1 (some .int) 3 71 (mW cI b) [.ref (b 0)] (E, Kp, Bf, As, tkF Q L f fa) (some (.int (kdS (Q 1) L f))) ((E, Kp, Bf, As, tkF Q L f fa)) := by
  refine vMet_of (by decide) rfl ?_
  intro K hl hD hnL hret h hR hEx
  subst hl hD
  show V K (mW cI b (E, Kp, Bf, As, tkF Q L f fa)) 0 [(0, .ref (b 0))] []
  have htk4 := tk_le (Q 1) L f
  have hel := en_le (T := Q 1) hfL
  have heg := en_ge (Q 1) L f
  have hnl := nx_le (T := Q 1) hfL
  refine v_aload_n h pX4_kindHere_0 0 rfl 0 rfl rfl (v_bipush h pX4_kindHere_0 1 rfl kb_111 (v_bipush h pX4_kindHere_0 2 rfl kb_121 (v_bipush h pX4_kindHere_0 3 rfl kb_115 (v_bipush h pX4_kindHere_0 4 rfl kb_116 (v_bipush h pX4_kindHere_0 5 rfl kb_101 ?_)))))
  refine v_bipush h pX4_kindHere_0 6 rfl kb_114 ?_
  refine v_callV h pX4_kindHere_0 7 mX4_231 (As := [.int 111, .int 121, .int 115, .int 116, .int 101, .int 114]) (st := []) (kX4_isSix _ _ cI cS b E Kp Bf As Q L f fa hfL hL hLb hT 111 121 115 116 101 114) v0B v0C (vEmb_rf _ _) 0 rfl rfl rfl rfl rfl rfl rfl (vDet_k ?_)
  show V K (mW cI b (E, Kp, Bf, As, tkF Q L f fa)) 16 [(0, .ref (b 0))] [.int (bI (w6 (Q 1) L f 111 121 115 116 101 114))]
  refine v_top (w := .int (bI (decide (so (Q 1) L f = 0)))) (congrArg (fun z => Value.int (bI z)) (word_0 hfL)) ?_
  refine v_bif_eq (tgt := 21) h pX4_kindHere_0 8 rfl rfl (fun c1 => ?_) (fun c1 => ?_)
  · skip
    have c1s := of_decide_eq_false c1
    refine v_aload_n h pX4_kindHere_0 11 rfl 0 rfl rfl (v_bipush h pX4_kindHere_0 12 rfl kb_98 (v_bipush h pX4_kindHere_0 13 rfl kb_108 (v_bipush h pX4_kindHere_0 14 rfl kb_97 (v_bipush h pX4_kindHere_0 15 rfl kb_99 (v_bipush h pX4_kindHere_0 16 rfl kb_107 ?_)))))
    refine v_callV h pX4_kindHere_0 17 mX4_235 (As := [.int 98, .int 108, .int 97, .int 99, .int 107]) (st := []) (kX4_isFive _ _ cI cS b E Kp Bf As Q L f fa hfL hL hLb hT 98 108 97 99 107) v0B v0C (vEmb_rf _ _) 0 rfl rfl rfl rfl rfl rfl rfl (vDet_k ?_)
    show V K (mW cI b (E, Kp, Bf, As, tkF Q L f fa)) 35 [(0, .ref (b 0))] [.int (bI (w5 (Q 1) L f 98 108 97 99 107))]
    refine v_top (w := .int (bI (decide (so (Q 1) L f = 1)))) (congrArg (fun z => Value.int (bI z)) (word_1 hfL)) ?_
    refine v_bif_eq (tgt := 40) h pX4_kindHere_0 18 rfl rfl (fun c2 => ?_) (fun c2 => ?_)
    · skip
      have c2s := of_decide_eq_false c2
      refine v_aload_n h pX4_kindHere_0 21 rfl 0 rfl rfl (v_bipush h pX4_kindHere_0 22 rfl kb_115 (v_bipush h pX4_kindHere_0 23 rfl kb_101 (v_bipush h pX4_kindHere_0 24 rfl kb_101 (v_bipush h pX4_kindHere_0 25 rfl kb_100 ?_))))
      refine v_callV h pX4_kindHere_0 26 mX4_239 (As := [.int 115, .int 101, .int 101, .int 100]) (st := []) (kX4_isFour _ _ cI cS b E Kp Bf As Q L f fa hfL hL hLb hT 115 101 101 100) v0B v0C (vEmb_rf _ _) 0 rfl rfl rfl rfl rfl rfl rfl (vDet_k ?_)
      show V K (mW cI b (E, Kp, Bf, As, tkF Q L f fa)) 52 [(0, .ref (b 0))] [.int (bI (w4 (Q 1) L f 115 101 101 100))]
      refine v_top (w := .int (bI (decide (so (Q 1) L f = 2)))) (congrArg (fun z => Value.int (bI z)) (word_2 hfL)) ?_
      refine v_bif_eq (tgt := 57) h pX4_kindHere_0 27 rfl rfl (fun c3 => ?_) (fun c3 => ?_)
      · skip
        have c3s := of_decide_eq_false c3
        refine v_aload_n h pX4_kindHere_0 30 rfl 0 rfl rfl (v_bipush h pX4_kindHere_0 31 rfl kb_112 (v_bipush h pX4_kindHere_1 0 rfl kb_111 (v_bipush h pX4_kindHere_1 1 rfl kb_111 (v_bipush h pX4_kindHere_1 2 rfl kb_114 ?_))))
        refine v_callV h pX4_kindHere_1 3 mX4_239 (As := [.int 112, .int 111, .int 111, .int 114]) (st := []) (kX4_isFour _ _ cI cS b E Kp Bf As Q L f fa hfL hL hLb hT 112 111 111 114) v0B v0C (vEmb_rf _ _) 0 rfl rfl rfl rfl rfl rfl rfl (vDet_k ?_)
        show V K (mW cI b (E, Kp, Bf, As, tkF Q L f fa)) 69 [(0, .ref (b 0))] [.int (bI (w4 (Q 1) L f 112 111 111 114))]
        refine v_top (w := .int (bI (decide (so (Q 1) L f = 3)))) (congrArg (fun z => Value.int (bI z)) (word_3 hfL)) ?_
        refine v_bif_eq (tgt := 74) h pX4_kindHere_1 4 rfl rfl (fun c4 => ?_) (fun c4 => ?_)
        · skip
          have c4s := of_decide_eq_false c4
          refine v_aload_n h pX4_kindHere_1 7 rfl 0 rfl rfl (v_bipush h pX4_kindHere_1 8 rfl kb_109 (v_bipush h pX4_kindHere_1 9 rfl kb_111 (v_bipush h pX4_kindHere_1 10 rfl kb_111 (v_bipush h pX4_kindHere_1 11 rfl kb_110 ?_))))
          refine v_callV h pX4_kindHere_1 12 mX4_239 (As := [.int 109, .int 111, .int 111, .int 110]) (st := []) (kX4_isFour _ _ cI cS b E Kp Bf As Q L f fa hfL hL hLb hT 109 111 111 110) v0B v0C (vEmb_rf _ _) 0 rfl rfl rfl rfl rfl rfl rfl (vDet_k ?_)
          show V K (mW cI b (E, Kp, Bf, As, tkF Q L f fa)) 86 [(0, .ref (b 0))] [.int (bI (w4 (Q 1) L f 109 111 111 110))]
          refine v_top (w := .int (bI (decide (so (Q 1) L f = 4)))) (congrArg (fun z => Value.int (bI z)) (word_4 hfL)) ?_
          refine v_bif_eq (tgt := 91) h pX4_kindHere_1 13 rfl rfl (fun c5 => ?_) (fun c5 => ?_)
          · skip
            have c5s := of_decide_eq_false c5
            refine v_aload_n h pX4_kindHere_1 16 rfl 0 rfl rfl (v_bipush h pX4_kindHere_1 17 rfl kb_100 (v_bipush h pX4_kindHere_1 18 rfl kb_101 (v_bipush h pX4_kindHere_1 19 rfl kb_97 (v_bipush h pX4_kindHere_1 20 rfl kb_114 ?_))))
            refine v_callV h pX4_kindHere_1 21 mX4_239 (As := [.int 100, .int 101, .int 97, .int 114]) (st := []) (kX4_isFour _ _ cI cS b E Kp Bf As Q L f fa hfL hL hLb hT 100 101 97 114) v0B v0C (vEmb_rf _ _) 0 rfl rfl rfl rfl rfl rfl rfl (vDet_k ?_)
            show V K (mW cI b (E, Kp, Bf, As, tkF Q L f fa)) 103 [(0, .ref (b 0))] [.int (bI (w4 (Q 1) L f 100 101 97 114))]
            refine v_top (w := .int (bI (decide (so (Q 1) L f = 5)))) (congrArg (fun z => Value.int (bI z)) (word_5 hfL)) ?_
            refine v_bif_eq (tgt := 108) h pX4_kindHere_1 22 rfl rfl (fun c6 => ?_) (fun c6 => ?_)
            · skip
              have c6s := of_decide_eq_false c6
              refine v_aload_n h pX4_kindHere_1 25 rfl 0 rfl rfl (v_bipush h pX4_kindHere_1 26 rfl kb_8 ?_)
              refine v_callV h pX4_kindHere_1 27 mX4_220 (As := [.int 8]) (st := []) (kX4_isWord _ _ cI cS b E Kp Bf As Q L f fa hfL hL hLb hT 8 (by decide)) v0B v0C (vEmb_rf _ _) 0 rfl rfl rfl rfl rfl rfl rfl (vDet_k ?_)
              show V K (mW cI b (E, Kp, Bf, As, tkF Q L f fa)) 114 [(0, .ref (b 0))] [.int (bI (wd (Q 1) L f 8))]
              refine v_bif_eq (tgt := 164) h pX4_kindHere_1 28 rfl rfl (fun c7 => ?_) (fun c7 => ?_)
              · skip
                refine v_iconst h pX4_kindHere_2 20 rfl ki_m1 ?_
                exact v_iret h pX4_kindHere_2 21 hR hret rfl ((E, Kp, Bf, As, tkF Q L f fa)) rfl ⟨vI (by first | exact kd_k (k := 0) (by decide) (by assumption) | exact kd_k (k := 1) (by decide) (by assumption) | exact kd_k (k := 2) (by decide) (by assumption) | exact kd_k (k := 3) (by decide) (by assumption) | exact kd_k (k := 4) (by decide) (by assumption) | exact kd_k (k := 5) (by decide) (by assumption) | (have e6 : so (Q 1) L f = 6 := of_decide_eq_true ((word_6 hfL).symm.trans (by simp [c1, c2, c3, c4, c5, c6, c7])); exact kd_k (k := 6) (by decide) e6) | (have e6 : ¬ so (Q 1) L f = 6 := of_decide_eq_false ((word_6 hfL).symm.trans (by simp [c1, c2, c3, c4, c5, c6, c7])); rw [kdS, if_neg (by omega)])), rfl⟩
              · skip
                refine v_aload_n h pX4_kindHere_1 29 rfl 0 rfl rfl (v_iconst h pX4_kindHere_1 30 rfl ki_0 (v_bipush h pX4_kindHere_1 31 rfl kb_109 (v_bipush h pX4_kindHere_2 0 rfl kb_105 (v_bipush h pX4_kindHere_2 1 rfl kb_110 ?_))))
                refine v_callV h pX4_kindHere_2 2 mX4_223 (As := [.int 0, .int 109, .int 105, .int 110]) (st := []) (kX4_has3 _ _ cI cS b E Kp Bf As Q L f fa hfL hL hLb hT 0 (by decide) 109 105 110) v0B v0C (vEmb_rf _ _) 0 rfl rfl rfl rfl rfl rfl rfl (vDet_k ?_)
                show V K (mW cI b (E, Kp, Bf, As, tkF Q L f fa)) 128 [(0, .ref (b 0))] [.int (bI (h3 (Q 1) L f 0 109 105 110))]
                refine v_bif_eq (tgt := 164) h pX4_kindHere_2 3 rfl rfl (fun c8 => ?_) (fun c8 => ?_)
                · skip
                  refine v_iconst h pX4_kindHere_2 20 rfl ki_m1 ?_
                  exact v_iret h pX4_kindHere_2 21 hR hret rfl ((E, Kp, Bf, As, tkF Q L f fa)) rfl ⟨vI (by first | exact kd_k (k := 0) (by decide) (by assumption) | exact kd_k (k := 1) (by decide) (by assumption) | exact kd_k (k := 2) (by decide) (by assumption) | exact kd_k (k := 3) (by decide) (by assumption) | exact kd_k (k := 4) (by decide) (by assumption) | exact kd_k (k := 5) (by decide) (by assumption) | (have e6 : so (Q 1) L f = 6 := of_decide_eq_true ((word_6 hfL).symm.trans (by simp [c1, c2, c3, c4, c5, c6, c7, c8])); exact kd_k (k := 6) (by decide) e6) | (have e6 : ¬ so (Q 1) L f = 6 := of_decide_eq_false ((word_6 hfL).symm.trans (by simp [c1, c2, c3, c4, c5, c6, c7, c8])); rw [kdS, if_neg (by omega)])), rfl⟩
                · skip
                  refine v_aload_n h pX4_kindHere_2 4 rfl 0 rfl rfl (v_iconst h pX4_kindHere_2 5 rfl ki_3 (v_bipush h pX4_kindHere_2 6 rfl kb_105 (v_bipush h pX4_kindHere_2 7 rfl kb_115 (v_bipush h pX4_kindHere_2 8 rfl kb_116 ?_))))
                  refine v_callV h pX4_kindHere_2 9 mX4_223 (As := [.int 3, .int 105, .int 115, .int 116]) (st := []) (kX4_has3 _ _ cI cS b E Kp Bf As Q L f fa hfL hL hLb hT 3 (by decide) 105 115 116) v0B v0C (vEmb_rf _ _) 0 rfl rfl rfl rfl rfl rfl rfl (vDet_k ?_)
                  show V K (mW cI b (E, Kp, Bf, As, tkF Q L f fa)) 142 [(0, .ref (b 0))] [.int (bI (h3 (Q 1) L f 3 105 115 116))]
                  refine v_bif_eq (tgt := 164) h pX4_kindHere_2 10 rfl rfl (fun c9 => ?_) (fun c9 => ?_)
                  · skip
                    refine v_iconst h pX4_kindHere_2 20 rfl ki_m1 ?_
                    exact v_iret h pX4_kindHere_2 21 hR hret rfl ((E, Kp, Bf, As, tkF Q L f fa)) rfl ⟨vI (by first | exact kd_k (k := 0) (by decide) (by assumption) | exact kd_k (k := 1) (by decide) (by assumption) | exact kd_k (k := 2) (by decide) (by assumption) | exact kd_k (k := 3) (by decide) (by assumption) | exact kd_k (k := 4) (by decide) (by assumption) | exact kd_k (k := 5) (by decide) (by assumption) | (have e6 : so (Q 1) L f = 6 := of_decide_eq_true ((word_6 hfL).symm.trans (by simp [c1, c2, c3, c4, c5, c6, c7, c8, c9])); exact kd_k (k := 6) (by decide) e6) | (have e6 : ¬ so (Q 1) L f = 6 := of_decide_eq_false ((word_6 hfL).symm.trans (by simp [c1, c2, c3, c4, c5, c6, c7, c8, c9])); rw [kdS, if_neg (by omega)])), rfl⟩
                  · skip
                    refine v_aload_n h pX4_kindHere_2 11 rfl 0 rfl rfl (v_iconst h pX4_kindHere_2 12 rfl ki_5 (v_bipush h pX4_kindHere_2 13 rfl kb_116 (v_bipush h pX4_kindHere_2 14 rfl kb_101 (v_bipush h pX4_kindHere_2 15 rfl kb_114 ?_))))
                    refine v_callV h pX4_kindHere_2 16 mX4_223 (As := [.int 5, .int 116, .int 101, .int 114]) (st := []) (kX4_has3 _ _ cI cS b E Kp Bf As Q L f fa hfL hL hLb hT 5 (by decide) 116 101 114) v0B v0C (vEmb_rf _ _) 0 rfl rfl rfl rfl rfl rfl rfl (vDet_k ?_)
                    show V K (mW cI b (E, Kp, Bf, As, tkF Q L f fa)) 156 [(0, .ref (b 0))] [.int (bI (h3 (Q 1) L f 5 116 101 114))]
                    refine v_bif_eq (tgt := 164) h pX4_kindHere_2 17 rfl rfl (fun c10 => ?_) (fun c10 => ?_)
                    · skip
                      refine v_iconst h pX4_kindHere_2 20 rfl ki_m1 ?_
                      exact v_iret h pX4_kindHere_2 21 hR hret rfl ((E, Kp, Bf, As, tkF Q L f fa)) rfl ⟨vI (by first | exact kd_k (k := 0) (by decide) (by assumption) | exact kd_k (k := 1) (by decide) (by assumption) | exact kd_k (k := 2) (by decide) (by assumption) | exact kd_k (k := 3) (by decide) (by assumption) | exact kd_k (k := 4) (by decide) (by assumption) | exact kd_k (k := 5) (by decide) (by assumption) | (have e6 : so (Q 1) L f = 6 := of_decide_eq_true ((word_6 hfL).symm.trans (by simp [c1, c2, c3, c4, c5, c6, c7, c8, c9, c10])); exact kd_k (k := 6) (by decide) e6) | (have e6 : ¬ so (Q 1) L f = 6 := of_decide_eq_false ((word_6 hfL).symm.trans (by simp [c1, c2, c3, c4, c5, c6, c7, c8, c9, c10])); rw [kdS, if_neg (by omega)])), rfl⟩
                    · skip
                      refine v_bipush h pX4_kindHere_2 18 rfl kb_6 (v_goto (tgt := 165) h pX4_kindHere_2 19 rfl rfl ?_)
                      exact v_iret h pX4_kindHere_2 21 hR hret rfl ((E, Kp, Bf, As, tkF Q L f fa)) rfl ⟨vI (by first | exact kd_k (k := 0) (by decide) (by assumption) | exact kd_k (k := 1) (by decide) (by assumption) | exact kd_k (k := 2) (by decide) (by assumption) | exact kd_k (k := 3) (by decide) (by assumption) | exact kd_k (k := 4) (by decide) (by assumption) | exact kd_k (k := 5) (by decide) (by assumption) | (have e6 : so (Q 1) L f = 6 := of_decide_eq_true ((word_6 hfL).symm.trans (by simp [c1, c2, c3, c4, c5, c6, c7, c8, c9, c10])); exact kd_k (k := 6) (by decide) e6) | (have e6 : ¬ so (Q 1) L f = 6 := of_decide_eq_false ((word_6 hfL).symm.trans (by simp [c1, c2, c3, c4, c5, c6, c7, c8, c9, c10])); rw [kdS, if_neg (by omega)])), rfl⟩
            · skip
              have c6s := of_decide_eq_true c6
              refine v_iconst h pX4_kindHere_1 23 rfl ki_5 ?_
              exact v_iret h pX4_kindHere_1 24 hR hret rfl ((E, Kp, Bf, As, tkF Q L f fa)) rfl ⟨vI (by first | exact kd_k (k := 0) (by decide) (by assumption) | exact kd_k (k := 1) (by decide) (by assumption) | exact kd_k (k := 2) (by decide) (by assumption) | exact kd_k (k := 3) (by decide) (by assumption) | exact kd_k (k := 4) (by decide) (by assumption) | exact kd_k (k := 5) (by decide) (by assumption) | (have e6 : so (Q 1) L f = 6 := of_decide_eq_true ((word_6 hfL).symm.trans (by simp [c1, c2, c3, c4, c5, c6])); exact kd_k (k := 6) (by decide) e6) | (have e6 : ¬ so (Q 1) L f = 6 := of_decide_eq_false ((word_6 hfL).symm.trans (by simp [c1, c2, c3, c4, c5, c6])); rw [kdS, if_neg (by omega)])), rfl⟩
          · skip
            have c5s := of_decide_eq_true c5
            refine v_iconst h pX4_kindHere_1 14 rfl ki_4 ?_
            exact v_iret h pX4_kindHere_1 15 hR hret rfl ((E, Kp, Bf, As, tkF Q L f fa)) rfl ⟨vI (by first | exact kd_k (k := 0) (by decide) (by assumption) | exact kd_k (k := 1) (by decide) (by assumption) | exact kd_k (k := 2) (by decide) (by assumption) | exact kd_k (k := 3) (by decide) (by assumption) | exact kd_k (k := 4) (by decide) (by assumption) | exact kd_k (k := 5) (by decide) (by assumption) | (have e6 : so (Q 1) L f = 6 := of_decide_eq_true ((word_6 hfL).symm.trans (by simp [c1, c2, c3, c4, c5])); exact kd_k (k := 6) (by decide) e6) | (have e6 : ¬ so (Q 1) L f = 6 := of_decide_eq_false ((word_6 hfL).symm.trans (by simp [c1, c2, c3, c4, c5])); rw [kdS, if_neg (by omega)])), rfl⟩
        · skip
          have c4s := of_decide_eq_true c4
          refine v_iconst h pX4_kindHere_1 5 rfl ki_3 ?_
          exact v_iret h pX4_kindHere_1 6 hR hret rfl ((E, Kp, Bf, As, tkF Q L f fa)) rfl ⟨vI (by first | exact kd_k (k := 0) (by decide) (by assumption) | exact kd_k (k := 1) (by decide) (by assumption) | exact kd_k (k := 2) (by decide) (by assumption) | exact kd_k (k := 3) (by decide) (by assumption) | exact kd_k (k := 4) (by decide) (by assumption) | exact kd_k (k := 5) (by decide) (by assumption) | (have e6 : so (Q 1) L f = 6 := of_decide_eq_true ((word_6 hfL).symm.trans (by simp [c1, c2, c3, c4])); exact kd_k (k := 6) (by decide) e6) | (have e6 : ¬ so (Q 1) L f = 6 := of_decide_eq_false ((word_6 hfL).symm.trans (by simp [c1, c2, c3, c4])); rw [kdS, if_neg (by omega)])), rfl⟩
      · skip
        have c3s := of_decide_eq_true c3
        refine v_iconst h pX4_kindHere_0 28 rfl ki_2 ?_
        exact v_iret h pX4_kindHere_0 29 hR hret rfl ((E, Kp, Bf, As, tkF Q L f fa)) rfl ⟨vI (by first | exact kd_k (k := 0) (by decide) (by assumption) | exact kd_k (k := 1) (by decide) (by assumption) | exact kd_k (k := 2) (by decide) (by assumption) | exact kd_k (k := 3) (by decide) (by assumption) | exact kd_k (k := 4) (by decide) (by assumption) | exact kd_k (k := 5) (by decide) (by assumption) | (have e6 : so (Q 1) L f = 6 := of_decide_eq_true ((word_6 hfL).symm.trans (by simp [c1, c2, c3])); exact kd_k (k := 6) (by decide) e6) | (have e6 : ¬ so (Q 1) L f = 6 := of_decide_eq_false ((word_6 hfL).symm.trans (by simp [c1, c2, c3])); rw [kdS, if_neg (by omega)])), rfl⟩
    · skip
      have c2s := of_decide_eq_true c2
      refine v_iconst h pX4_kindHere_0 19 rfl ki_1 ?_
      exact v_iret h pX4_kindHere_0 20 hR hret rfl ((E, Kp, Bf, As, tkF Q L f fa)) rfl ⟨vI (by first | exact kd_k (k := 0) (by decide) (by assumption) | exact kd_k (k := 1) (by decide) (by assumption) | exact kd_k (k := 2) (by decide) (by assumption) | exact kd_k (k := 3) (by decide) (by assumption) | exact kd_k (k := 4) (by decide) (by assumption) | exact kd_k (k := 5) (by decide) (by assumption) | (have e6 : so (Q 1) L f = 6 := of_decide_eq_true ((word_6 hfL).symm.trans (by simp [c1, c2])); exact kd_k (k := 6) (by decide) e6) | (have e6 : ¬ so (Q 1) L f = 6 := of_decide_eq_false ((word_6 hfL).symm.trans (by simp [c1, c2])); rw [kdS, if_neg (by omega)])), rfl⟩
  · skip
    have c1s := of_decide_eq_true c1
    refine v_iconst h pX4_kindHere_0 9 rfl ki_0 ?_
    exact v_iret h pX4_kindHere_0 10 hR hret rfl ((E, Kp, Bf, As, tkF Q L f fa)) rfl ⟨vI (by first | exact kd_k (k := 0) (by decide) (by assumption) | exact kd_k (k := 1) (by decide) (by assumption) | exact kd_k (k := 2) (by decide) (by assumption) | exact kd_k (k := 3) (by decide) (by assumption) | exact kd_k (k := 4) (by decide) (by assumption) | exact kd_k (k := 5) (by decide) (by assumption) | (have e6 : so (Q 1) L f = 6 := of_decide_eq_true ((word_6 hfL).symm.trans (by simp [c1])); exact kd_k (k := 6) (by decide) e6) | (have e6 : ¬ so (Q 1) L f = 6 := of_decide_eq_false ((word_6 hfL).symm.trans (by simp [c1])); rw [kdS, if_neg (by omega)])), rfl⟩
set_option maxHeartbeats 300000 in
set_option maxRecDepth 100000 in
theorem kX4_perhaps (l : Launch) (D : va_G) (cI cS : ClassId) (b : Nat → Nat) (E Kp Bf As Q : Nat → Nat → Int32) (L f : Nat) (fa : Int32) (hfL : f ≤ L) (hL : Q 6 1 = nI L) (hLb : L ≤ 120) (hT : ∀ i, i < 120 → bd (Q 1 i) 255) (c : Bool) (k : Nat) (hk : k < 74) (r i : Nat) (hkr : flR k = r) (hki : flI k = i) (m : Nat) (hm : m < 2147483648) : vDet l D (vT cI cS) yX4_perhaps cX4_perhaps 4 (some .boolean) 2 47 (mW cI b) [.ref (b 0), .int (bI c), .int (nI k), .int (nI m)] (E, Kp, Bf, As, tkF Q L f fa) (some (.int (bI (pB c (Q 1) L f m)))) ((pE c (Q 1) L f m E r i, Kp, Bf, As, tkF Q L (pF c (Q 1) L f m) (pA c (Q 1) L f m fa))) := by
  refine vMet_of (by decide) rfl ?_
  intro K hl hD hnL hret h hR hEx
  subst hl hD
  show V K (mW cI b (E, Kp, Bf, As, tkF Q L f fa)) 0 [(0, .ref (b 0)), (1, .int (bI c)), (2, .int (nI k)), (3, .int (nI m))] []
  have htk4 := tk_le (Q 1) L f
  have hel := en_le (T := Q 1) hfL
  have heg := en_ge (Q 1) L f
  have hnl := nx_le (T := Q 1) hfL
  refine v_iload_n h pX4_perhaps_0 0 rfl 1 rfl rfl ?_
  refine v_bif_ne (tgt := 6) h pX4_perhaps_0 1 rfl rfl (fun c1 => ?_) (fun c1 => ?_)
  · skip
    refine v_aload_n h pX4_perhaps_0 4 rfl 0 rfl rfl ?_
    refine v_callV h pX4_perhaps_0 5 mX4_242 (As := []) (st := []) (kX4_nextToken _ _ cI cS b E Kp Bf As (tkF Q L f fa) (en (Q 1) L f) L rfl (en_le hfL) hL hLb hT) v0B v0C (vEmb_rf _ _) 0 rfl rfl rfl rfl rfl rfl rfl (vDet_k ?_)
    show V K (mW cI b (E, Kp, Bf, As, tkF (tkF Q L f fa) L (nx (Q 1) L f) fa)) 10 [(0, .ref (b 0)), (1, .int (bI c)), (2, .int (nI k)), (3, .int (nI m))] []
    refine v_eqw (ws' := mW cI b (E, Kp, Bf, As, tkF Q L (nx (Q 1) L f) fa)) (by rw [tkF_tkF]) ?_
    refine v_aload_n h pX4_perhaps_0 6 rfl 0 rfl rfl (v_iconst h pX4_perhaps_0 7 rfl ki_0 (v_iload_n h pX4_perhaps_0 8 rfl 3 rfl rfl ?_))
    refine v_callV h pX4_perhaps_0 9 mX4_245 (As := [.int 0, .int (nI m)]) (st := []) (kX4_isNumber _ _ cI cS b E Kp Bf As Q L (nx (Q 1) L f) fa (nx_le hfL) hL hLb hT m (by first | assumption | decide | omega)) v0B v0C (vEmb_rf _ _) 0 rfl rfl rfl rfl rfl rfl rfl (vDet_k ?_)
    show V K (mW cI b (E, Kp, Bf, As, tkF Q L (nx (Q 1) L f) (faN (nmOK (Q 1) L (nx (Q 1) L f) m) (nx (Q 1) L f) fa))) 16 [(0, .ref (b 0)), (1, .int (bI c)), (2, .int (nI k)), (3, .int (nI m))] [.int (bI (nmOK (Q 1) L (nx (Q 1) L f) m))]
    refine v_bif_ne (tgt := 21) h pX4_perhaps_0 10 rfl rfl (fun c2 => ?_) (fun c2 => ?_)
    · skip
      refine v_aload_n h pX4_perhaps_0 13 rfl 0 rfl rfl (v_get h pX4_perhaps_0 14 fX4_7 0 rfl rfl rfl (v_iload_n h pX4_perhaps_0 15 rfl 2 rfl rfl (v_aload_n h pX4_perhaps_0 16 rfl 0 rfl rfl (v_get h pX4_perhaps_0 17 fX4_214 0 rfl rfl rfl (v_top (w := .int (nmV (Q 1) L (nx (Q 1) L f))) rfl ?_)))))
      refine v_iast h pX4_perhaps_0 18 k 1 0 (ws' := mW cI b (up E r i (nmV (Q 1) L (nx (Q 1) L f)), Kp, Bf, As, tkF Q L (nx (Q 1) L f) (faN (nmOK (Q 1) L (nx (Q 1) L f) m) (nx (Q 1) L f) fa))) rfl rfl rfl rfl rfl (by omega) (mW_s k r i hkr hki) (v_aload_n h pX4_perhaps_0 19 rfl 0 rfl rfl ?_)
      refine v_callV h pX4_perhaps_0 20 mX4_242 (As := []) (st := []) (kX4_nextToken _ _ cI cS b (up E r i (nmV (Q 1) L (nx (Q 1) L f))) Kp Bf As (tkF Q L (nx (Q 1) L f) (faN (nmOK (Q 1) L (nx (Q 1) L f) m) (nx (Q 1) L f) fa)) (en (Q 1) L (nx (Q 1) L f)) L rfl (en_le (nx_le hfL)) hL hLb hT) v0B v0C (vEmb_rf _ _) 0 rfl rfl rfl rfl rfl rfl rfl (vDet_k ?_)
      show V K (mW cI b (up E r i (nmV (Q 1) L (nx (Q 1) L f)), Kp, Bf, As, tkF (tkF Q L (nx (Q 1) L f) (faN (nmOK (Q 1) L (nx (Q 1) L f) m) (nx (Q 1) L f) fa)) L (nx (Q 1) L (nx (Q 1) L f)) (faN (nmOK (Q 1) L (nx (Q 1) L f) m) (nx (Q 1) L f) fa))) 35 [(0, .ref (b 0)), (1, .int (bI c)), (2, .int (nI k)), (3, .int (nI m))] []
      refine v_eqw (ws' := mW cI b (up E r i (nmV (Q 1) L (nx (Q 1) L f)), Kp, Bf, As, tkF Q L (nx (Q 1) L (nx (Q 1) L f)) (faN (nmOK (Q 1) L (nx (Q 1) L f) m) (nx (Q 1) L f) fa))) (by rw [tkF_tkF]) ?_
      refine v_iconst h pX4_perhaps_0 21 rfl ki_1 ?_
      exact v_zret h pX4_perhaps_0 22 (Or.inr rfl) hR hret rfl ((up E r i (nmV (Q 1) L (nx (Q 1) L f)), Kp, Bf, As, tkF Q L (nx (Q 1) L (nx (Q 1) L f)) (faN (nmOK (Q 1) L (nx (Q 1) L f) m) (nx (Q 1) L f) fa))) rfl ⟨vI (by simp [pB, bI, c1, c2]), (by simp [pE, pF, pA, faN, c1, c2])⟩
    · skip
      refine v_iconst h pX4_perhaps_0 11 rfl ki_0 ?_
      exact v_zret h pX4_perhaps_0 12 (Or.inl rfl) hR hret rfl ((E, Kp, Bf, As, tkF Q L (nx (Q 1) L f) (faN (nmOK (Q 1) L (nx (Q 1) L f) m) (nx (Q 1) L f) fa))) rfl ⟨vI (by simp [pB, bI, c1, c2]), (by simp [pE, pF, pA, faN, c1, c2])⟩
  · skip
    refine v_iconst h pX4_perhaps_0 2 rfl ki_1 ?_
    exact v_zret h pX4_perhaps_0 3 (Or.inr rfl) hR hret rfl ((E, Kp, Bf, As, tkF Q L f fa)) rfl ⟨vI (by simp [pB, bI, c1]), (by simp [pE, pF, pA, faN, c1])⟩
set_option maxHeartbeats 300000 in
set_option maxRecDepth 100000 in
theorem kX4_oysterHere (l : Launch) (D : va_G) (cI cS : ClassId) (b : Nat → Nat) (E Kp Bf As Q : Nat → Nat → Int32) (L f : Nat) (fa : Int32) (hfL : f ≤ L) (hL : Q 6 1 = nI L) (hLb : L ≤ 120) (hT : ∀ i, i < 120 → bd (Q 1 i) 255) (n : Nat) (hW : Wf E n) (kd : Int32) : vMet l D (vT cI cS) yX4_oysterHere cX4_oysterHere 3 (some .boolean) 3 71 (mW cI b) v0 [.ref (b 0), .int kd] (E, Kp, Bf, As, tkF Q L f fa) (itP Kp Bf As Q L fa (oyS (Q 1) L E n kd f)) := by
  refine vMet_of (by decide) rfl ?_
  intro K hl hD hnL hret h hR hEx
  subst hl hD
  show V K (mW cI b (E, Kp, Bf, As, tkF Q L f fa)) 0 [(0, .ref (b 0)), (1, .int kd)] []
  have hn8 := hW.1
  have htk4 := tk_le (Q 1) L f
  have hel := en_le (T := Q 1) hfL
  have heg := en_ge (Q 1) L f
  have hnl := nx_le (T := Q 1) hfL
  refine v_aload_n h pX4_oysterHere_0 0 rfl 0 rfl rfl (v_get h pX4_oysterHere_0 1 fX4_7 0 rfl rfl rfl (v_iconst h pX4_oysterHere_0 2 rfl ki_0 (v_iald h pX4_oysterHere_0 3 0 1 0 rfl rfl rfl rfl rfl (by omega) (v_top (w := .int (E 9 0)) (congrArg Value.int rfl) (v_top (w := .int (nI n)) (congrArg Value.int hW.2.1) ?_)))))
  refine v_bipush h pX4_oysterHere_0 4 rfl kb_8 ?_
  refine v_ncmp_ne (a := n) (b := 8) (tgt := 16) h pX4_oysterHere_0 5 rfl rfl (by omega) (by omega) (fun c1 => ?_) (fun c1 => ?_)
  · skip
    refine v_aload_n h pX4_oysterHere_0 9 rfl 0 rfl rfl (v_iload_n h pX4_oysterHere_0 10 rfl 1 rfl rfl (v_iconst h pX4_oysterHere_0 11 rfl ki_0 ?_))
    refine v_callV h pX4_oysterHere_0 12 mX4_75 (As := [.int kd, .int 0]) (st := []) (kX4_comesNew _ _ cI cS b E Kp Bf As (tkF Q L f fa) n hW (by omega) kd 0) v0B v0C (vEmb_rf _ _) 0 rfl rfl rfl rfl rfl rfl rfl (vDet_k ?_)
    show V K (mW cI b (newS E n kd 0, Kp, Bf, As, tkF Q L f fa)) 22 [(0, .ref (b 0)), (1, .int kd)] []
    refine v_aload_n h pX4_oysterHere_0 13 rfl 0 rfl rfl (v_get h pX4_oysterHere_0 14 fX4_7 0 rfl rfl rfl (v_iconst h pX4_oysterHere_0 15 rfl ki_0 (v_iald h pX4_oysterHere_0 16 0 1 0 rfl rfl rfl rfl rfl (by omega) (v_top (w := .int ((newS E n kd 0) 9 0)) (congrArg Value.int rfl) ?_))))
    refine v_top (w := .int (nI (n + 1))) (congrArg Value.int (show newS E n kd 0 9 0 = nI (n + 1) from rfl)) (v_iconst h pX4_oysterHere_0 17 rfl ki_1 (v_isub h pX4_oysterHere_0 18 rfl ?_))
    refine v_top (w := .int (nI n)) (congrArg Value.int (nI_prd n)) (v_istore_n h pX4_oysterHere_0 19 (lv' := [(2, .int (nI n)), (0, .ref (b 0)), (1, .int kd)]) rfl rfl hnL rfl rfl (v_aload_n h pX4_oysterHere_0 20 rfl 1 rfl rfl ?_))
    refine v_callV h pX4_oysterHere_0 21 mX4_242 (As := []) (st := []) (kX4_nextToken _ _ cI cS b (newS E n kd 0) Kp Bf As (tkF Q L f fa) (en (Q 1) L f) L rfl (en_le hfL) hL hLb hT) v0B v0C (vEmb_rf _ _) 0 rfl rfl rfl rfl rfl rfl rfl (vDet_k ?_)
    show V K (mW cI b (newS E n kd 0, Kp, Bf, As, tkF (tkF Q L f fa) L (nx (Q 1) L f) fa)) 35 [(2, .int (nI n)), (0, .ref (b 0)), (1, .int kd)] []
    refine v_eqw (ws' := mW cI b (newS E n kd 0, Kp, Bf, As, tkF Q L (nx (Q 1) L f) fa)) (by rw [tkF_tkF]) ?_
    have LJ : V K (mW cI b (newS E n kd 0, Kp, Bf, As, tkF Q L (nx (Q 1) L f) fa)) 77 [(2, .int (nI n)), (0, .ref (b 0)), (1, .int kd)] [.int (bI (decide (so (Q 1) L (nx (Q 1) L f) = 9))), .ref (b 0)] := by
      refine v_iload_n h pX4_oysterHere_1 12 rfl 0 rfl rfl (v_iconst h pX4_oysterHere_1 13 rfl ki_1 ?_)
      refine v_callS h pX4_oysterHere_1 14 mX4_69 (As := [.int (nI n), .int 1]) (st := [.int (bI (decide (so (Q 1) L (nx (Q 1) L f) = 9))), .ref (b 0)]) (kX4_at _ _ cI cS n 1) v0B v0C (vEmb_u _) rfl rfl rfl rfl rfl (vDet_k ?_)
      show V K (mW cI b (newS E n kd 0, Kp, Bf, As, tkF Q L (nx (Q 1) L f) fa)) 82 [(2, .int (nI n)), (0, .ref (b 0)), (1, .int kd)] [.int (nI (16 + 6 * n + 1)), .int (bI (decide (so (Q 1) L (nx (Q 1) L f) = 9))), .ref (b 0)]
      refine v_iconst h pX4_oysterHere_1 15 rfl ki_5 ?_
      refine v_callV h pX4_oysterHere_1 16 mX4_248 (As := [.int (bI (decide (so (Q 1) L (nx (Q 1) L f) = 9))), .int (nI (16 + 6 * n + 1)), .int 5]) (st := []) (kX4_perhaps _ _ cI cS b (newS E n kd 0) Kp Bf As Q L (nx (Q 1) L f) fa (nx_le hfL) hL hLb hT (decide (so (Q 1) L (nx (Q 1) L f) = 9)) (16 + 6 * n + 1) (by omega) 3 n (flR_y (by omega) (by omega)) (flI_y (by omega) (by omega)) 5 (by decide)) v0B v0C (vEmb_rf _ _) 0 rfl rfl rfl rfl rfl rfl rfl (vDet_k ?_)
      show V K (mW cI b (pE (decide (so (Q 1) L (nx (Q 1) L f) = 9)) (Q 1) L (nx (Q 1) L f) 5 (newS E n kd 0) 3 n, Kp, Bf, As, tkF Q L (pF (decide (so (Q 1) L (nx (Q 1) L f) = 9)) (Q 1) L (nx (Q 1) L f) 5) (pA (decide (so (Q 1) L (nx (Q 1) L f) = 9)) (Q 1) L (nx (Q 1) L f) 5 fa))) 86 [(2, .int (nI n)), (0, .ref (b 0)), (1, .int kd)] [.int (bI (pB (decide (so (Q 1) L (nx (Q 1) L f) = 9)) (Q 1) L (nx (Q 1) L f) 5))]
      refine v_bif_eq (tgt := 154) h pX4_oysterHere_1 17 rfl rfl (fun c2 => ?_) (fun c2 => ?_)
      · skip
        refine v_iconst h pX4_oysterHere_2 18 rfl ki_0 ?_
        exact v_zret h pX4_oysterHere_2 19 (Or.inl rfl) hR hret rfl ((pE (decide (so (Q 1) L (nx (Q 1) L f) = 9)) (Q 1) L (nx (Q 1) L f) 5 (newS E n kd 0) 3 n, Kp, Bf, As, tkF Q L (pF (decide (so (Q 1) L (nx (Q 1) L f) = 9)) (Q 1) L (nx (Q 1) L f) 5) (pA (decide (so (Q 1) L (nx (Q 1) L f) = 9)) (Q 1) L (nx (Q 1) L f) 5 fa))) rfl (Or.inr ⟨_, _, _, (by rw [oyS, if_neg c1, if_neg (by rw [c2]; decide)]), rfl, (by rw [pA_f c2])⟩)
      · skip
        refine v_aload_n h pX4_oysterHere_1 18 rfl 1 rfl rfl (v_aload_n h pX4_oysterHere_1 19 rfl 1 rfl rfl (v_bipush h pX4_oysterHere_1 20 rfl kb_119 (v_bipush h pX4_oysterHere_1 21 rfl kb_101 (v_bipush h pX4_oysterHere_1 22 rfl kb_105 (v_bipush h pX4_oysterHere_1 23 rfl kb_103 ?_)))))
        refine v_bipush h pX4_oysterHere_1 24 rfl kb_104 (v_bipush h pX4_oysterHere_1 25 rfl kb_115 ?_)
        refine v_callV h pX4_oysterHere_1 26 mX4_231 (As := [.int 119, .int 101, .int 105, .int 103, .int 104, .int 115]) (st := [.ref (b 0)]) (kX4_isSix _ _ cI cS b (pE (decide (so (Q 1) L (nx (Q 1) L f) = 9)) (Q 1) L (nx (Q 1) L f) 5 (newS E n kd 0) 3 n) Kp Bf As Q L (pF (decide (so (Q 1) L (nx (Q 1) L f) = 9)) (Q 1) L (nx (Q 1) L f) 5) (pA (decide (so (Q 1) L (nx (Q 1) L f) = 9)) (Q 1) L (nx (Q 1) L f) 5 fa) (pF_le _ _ _ (nx_le hfL)) hL hLb hT 119 101 105 103 104 115) v0B v0C (vEmb_rf _ _) 0 rfl rfl rfl rfl rfl rfl rfl (vDet_k ?_)
        show V K (mW cI b (pE (decide (so (Q 1) L (nx (Q 1) L f) = 9)) (Q 1) L (nx (Q 1) L f) 5 (newS E n kd 0) 3 n, Kp, Bf, As, tkF Q L (pF (decide (so (Q 1) L (nx (Q 1) L f) = 9)) (Q 1) L (nx (Q 1) L f) 5) (pA (decide (so (Q 1) L (nx (Q 1) L f) = 9)) (Q 1) L (nx (Q 1) L f) 5 fa))) 106 [(2, .int (nI n)), (0, .ref (b 0)), (1, .int kd)] [.int (bI (w6 (Q 1) L (pF (decide (so (Q 1) L (nx (Q 1) L f) = 9)) (Q 1) L (nx (Q 1) L f) 5) 119 101 105 103 104 115)), .ref (b 0)]
        refine v_top (w := .int (bI (decide (so (Q 1) L (pF (decide (so (Q 1) L (nx (Q 1) L f) = 9)) (Q 1) L (nx (Q 1) L f) 5) = 10)))) (congrArg (fun z => Value.int (bI z)) (word_10 (pF_le _ _ _ (nx_le hfL)))) (v_iload_n h pX4_oysterHere_1 27 rfl 0 rfl rfl (v_iconst h pX4_oysterHere_1 28 rfl ki_2 ?_))
        refine v_callS h pX4_oysterHere_1 29 mX4_69 (As := [.int (nI n), .int 2]) (st := [.int (bI (decide (so (Q 1) L (pF (decide (so (Q 1) L (nx (Q 1) L f) = 9)) (Q 1) L (nx (Q 1) L f) 5) = 10))), .ref (b 0)]) (kX4_at _ _ cI cS n 2) v0B v0C (vEmb_u _) rfl rfl rfl rfl rfl (vDet_k ?_)
        show V K (mW cI b (pE (decide (so (Q 1) L (nx (Q 1) L f) = 9)) (Q 1) L (nx (Q 1) L f) 5 (newS E n kd 0) 3 n, Kp, Bf, As, tkF Q L (pF (decide (so (Q 1) L (nx (Q 1) L f) = 9)) (Q 1) L (nx (Q 1) L f) 5) (pA (decide (so (Q 1) L (nx (Q 1) L f) = 9)) (Q 1) L (nx (Q 1) L f) 5 fa))) 111 [(2, .int (nI n)), (0, .ref (b 0)), (1, .int kd)] [.int (nI (16 + 6 * n + 2)), .int (bI (decide (so (Q 1) L (pF (decide (so (Q 1) L (nx (Q 1) L f) = 9)) (Q 1) L (nx (Q 1) L f) 5) = 10))), .ref (b 0)]
        refine v_bipush h pX4_oysterHere_1 30 rfl kb_99 ?_
        refine v_callV h pX4_oysterHere_1 31 mX4_248 (As := [.int (bI (decide (so (Q 1) L (pF (decide (so (Q 1) L (nx (Q 1) L f) = 9)) (Q 1) L (nx (Q 1) L f) 5) = 10))), .int (nI (16 + 6 * n + 2)), .int 99]) (st := []) (kX4_perhaps _ _ cI cS b (pE (decide (so (Q 1) L (nx (Q 1) L f) = 9)) (Q 1) L (nx (Q 1) L f) 5 (newS E n kd 0) 3 n) Kp Bf As Q L (pF (decide (so (Q 1) L (nx (Q 1) L f) = 9)) (Q 1) L (nx (Q 1) L f) 5) (pA (decide (so (Q 1) L (nx (Q 1) L f) = 9)) (Q 1) L (nx (Q 1) L f) 5 fa) (pF_le _ _ _ (nx_le hfL)) hL hLb hT (decide (so (Q 1) L (pF (decide (so (Q 1) L (nx (Q 1) L f) = 9)) (Q 1) L (nx (Q 1) L f) 5) = 10)) (16 + 6 * n + 2) (by omega) 4 n (flR_y (by omega) (by omega)) (flI_y (by omega) (by omega)) 99 (by decide)) v0B v0C (vEmb_rf _ _) 0 rfl rfl rfl rfl rfl rfl rfl (vDet_k ?_)
        show V K (mW cI b (pE (decide (so (Q 1) L (pF (decide (so (Q 1) L (nx (Q 1) L f) = 9)) (Q 1) L (nx (Q 1) L f) 5) = 10)) (Q 1) L (pF (decide (so (Q 1) L (nx (Q 1) L f) = 9)) (Q 1) L (nx (Q 1) L f) 5) 99 (pE (decide (so (Q 1) L (nx (Q 1) L f) = 9)) (Q 1) L (nx (Q 1) L f) 5 (newS E n kd 0) 3 n) 4 n, Kp, Bf, As, tkF Q L (pF (decide (so (Q 1) L (pF (decide (so (Q 1) L (nx (Q 1) L f) = 9)) (Q 1) L (nx (Q 1) L f) 5) = 10)) (Q 1) L (pF (decide (so (Q 1) L (nx (Q 1) L f) = 9)) (Q 1) L (nx (Q 1) L f) 5) 99) (pA (decide (so (Q 1) L (pF (decide (so (Q 1) L (nx (Q 1) L f) = 9)) (Q 1) L (nx (Q 1) L f) 5) = 10)) (Q 1) L (pF (decide (so (Q 1) L (nx (Q 1) L f) = 9)) (Q 1) L (nx (Q 1) L f) 5) 99 (pA (decide (so (Q 1) L (nx (Q 1) L f) = 9)) (Q 1) L (nx (Q 1) L f) 5 fa)))) 116 [(2, .int (nI n)), (0, .ref (b 0)), (1, .int kd)] [.int (bI (pB (decide (so (Q 1) L (pF (decide (so (Q 1) L (nx (Q 1) L f) = 9)) (Q 1) L (nx (Q 1) L f) 5) = 10)) (Q 1) L (pF (decide (so (Q 1) L (nx (Q 1) L f) = 9)) (Q 1) L (nx (Q 1) L f) 5) 99))]
        refine v_bif_eq (tgt := 154) h pX4_oysterHere_2 0 rfl rfl (fun c3 => ?_) (fun c3 => ?_)
        · skip
          refine v_iconst h pX4_oysterHere_2 18 rfl ki_0 ?_
          exact v_zret h pX4_oysterHere_2 19 (Or.inl rfl) hR hret rfl ((pE (decide (so (Q 1) L (pF (decide (so (Q 1) L (nx (Q 1) L f) = 9)) (Q 1) L (nx (Q 1) L f) 5) = 10)) (Q 1) L (pF (decide (so (Q 1) L (nx (Q 1) L f) = 9)) (Q 1) L (nx (Q 1) L f) 5) 99 (pE (decide (so (Q 1) L (nx (Q 1) L f) = 9)) (Q 1) L (nx (Q 1) L f) 5 (newS E n kd 0) 3 n) 4 n, Kp, Bf, As, tkF Q L (pF (decide (so (Q 1) L (pF (decide (so (Q 1) L (nx (Q 1) L f) = 9)) (Q 1) L (nx (Q 1) L f) 5) = 10)) (Q 1) L (pF (decide (so (Q 1) L (nx (Q 1) L f) = 9)) (Q 1) L (nx (Q 1) L f) 5) 99) (pA (decide (so (Q 1) L (pF (decide (so (Q 1) L (nx (Q 1) L f) = 9)) (Q 1) L (nx (Q 1) L f) 5) = 10)) (Q 1) L (pF (decide (so (Q 1) L (nx (Q 1) L f) = 9)) (Q 1) L (nx (Q 1) L f) 5) 99 (pA (decide (so (Q 1) L (nx (Q 1) L f) = 9)) (Q 1) L (nx (Q 1) L f) 5 fa)))) rfl (Or.inr ⟨_, _, _, (by rw [oyS, if_neg c1, if_pos c2, if_neg (by rw [c3]; decide)]), rfl, (by rw [pA_f c3])⟩)
        · skip
          refine v_aload_n h pX4_oysterHere_2 1 rfl 1 rfl rfl (v_aload_n h pX4_oysterHere_2 2 rfl 1 rfl rfl (v_bipush h pX4_oysterHere_2 3 rfl kb_108 (v_bipush h pX4_oysterHere_2 4 rfl kb_97 (v_bipush h pX4_oysterHere_2 5 rfl kb_121 (v_bipush h pX4_oysterHere_2 6 rfl kb_101 ?_)))))
          refine v_bipush h pX4_oysterHere_2 7 rfl kb_114 (v_bipush h pX4_oysterHere_2 8 rfl kb_115 ?_)
          refine v_callV h pX4_oysterHere_2 9 mX4_231 (As := [.int 108, .int 97, .int 121, .int 101, .int 114, .int 115]) (st := [.ref (b 0)]) (kX4_isSix _ _ cI cS b (pE (decide (so (Q 1) L (pF (decide (so (Q 1) L (nx (Q 1) L f) = 9)) (Q 1) L (nx (Q 1) L f) 5) = 10)) (Q 1) L (pF (decide (so (Q 1) L (nx (Q 1) L f) = 9)) (Q 1) L (nx (Q 1) L f) 5) 99 (pE (decide (so (Q 1) L (nx (Q 1) L f) = 9)) (Q 1) L (nx (Q 1) L f) 5 (newS E n kd 0) 3 n) 4 n) Kp Bf As Q L (pF (decide (so (Q 1) L (pF (decide (so (Q 1) L (nx (Q 1) L f) = 9)) (Q 1) L (nx (Q 1) L f) 5) = 10)) (Q 1) L (pF (decide (so (Q 1) L (nx (Q 1) L f) = 9)) (Q 1) L (nx (Q 1) L f) 5) 99) (pA (decide (so (Q 1) L (pF (decide (so (Q 1) L (nx (Q 1) L f) = 9)) (Q 1) L (nx (Q 1) L f) 5) = 10)) (Q 1) L (pF (decide (so (Q 1) L (nx (Q 1) L f) = 9)) (Q 1) L (nx (Q 1) L f) 5) 99 (pA (decide (so (Q 1) L (nx (Q 1) L f) = 9)) (Q 1) L (nx (Q 1) L f) 5 fa)) (pF_le _ _ _ (pF_le _ _ _ (nx_le hfL))) hL hLb hT 108 97 121 101 114 115) v0B v0C (vEmb_rf _ _) 0 rfl rfl rfl rfl rfl rfl rfl (vDet_k ?_)
          show V K (mW cI b (pE (decide (so (Q 1) L (pF (decide (so (Q 1) L (nx (Q 1) L f) = 9)) (Q 1) L (nx (Q 1) L f) 5) = 10)) (Q 1) L (pF (decide (so (Q 1) L (nx (Q 1) L f) = 9)) (Q 1) L (nx (Q 1) L f) 5) 99 (pE (decide (so (Q 1) L (nx (Q 1) L f) = 9)) (Q 1) L (nx (Q 1) L f) 5 (newS E n kd 0) 3 n) 4 n, Kp, Bf, As, tkF Q L (pF (decide (so (Q 1) L (pF (decide (so (Q 1) L (nx (Q 1) L f) = 9)) (Q 1) L (nx (Q 1) L f) 5) = 10)) (Q 1) L (pF (decide (so (Q 1) L (nx (Q 1) L f) = 9)) (Q 1) L (nx (Q 1) L f) 5) 99) (pA (decide (so (Q 1) L (pF (decide (so (Q 1) L (nx (Q 1) L f) = 9)) (Q 1) L (nx (Q 1) L f) 5) = 10)) (Q 1) L (pF (decide (so (Q 1) L (nx (Q 1) L f) = 9)) (Q 1) L (nx (Q 1) L f) 5) 99 (pA (decide (so (Q 1) L (nx (Q 1) L f) = 9)) (Q 1) L (nx (Q 1) L f) 5 fa)))) 136 [(2, .int (nI n)), (0, .ref (b 0)), (1, .int kd)] [.int (bI (w6 (Q 1) L (pF (decide (so (Q 1) L (pF (decide (so (Q 1) L (nx (Q 1) L f) = 9)) (Q 1) L (nx (Q 1) L f) 5) = 10)) (Q 1) L (pF (decide (so (Q 1) L (nx (Q 1) L f) = 9)) (Q 1) L (nx (Q 1) L f) 5) 99) 108 97 121 101 114 115)), .ref (b 0)]
          refine v_top (w := .int (bI (decide (so (Q 1) L (pF (decide (so (Q 1) L (pF (decide (so (Q 1) L (nx (Q 1) L f) = 9)) (Q 1) L (nx (Q 1) L f) 5) = 10)) (Q 1) L (pF (decide (so (Q 1) L (nx (Q 1) L f) = 9)) (Q 1) L (nx (Q 1) L f) 5) 99) = 11)))) (congrArg (fun z => Value.int (bI z)) (word_11 (pF_le _ _ _ (pF_le _ _ _ (nx_le hfL))))) (v_iload_n h pX4_oysterHere_2 10 rfl 0 rfl rfl (v_iconst h pX4_oysterHere_2 11 rfl ki_3 ?_))
          refine v_callS h pX4_oysterHere_2 12 mX4_69 (As := [.int (nI n), .int 3]) (st := [.int (bI (decide (so (Q 1) L (pF (decide (so (Q 1) L (pF (decide (so (Q 1) L (nx (Q 1) L f) = 9)) (Q 1) L (nx (Q 1) L f) 5) = 10)) (Q 1) L (pF (decide (so (Q 1) L (nx (Q 1) L f) = 9)) (Q 1) L (nx (Q 1) L f) 5) 99) = 11))), .ref (b 0)]) (kX4_at _ _ cI cS n 3) v0B v0C (vEmb_u _) rfl rfl rfl rfl rfl (vDet_k ?_)
          show V K (mW cI b (pE (decide (so (Q 1) L (pF (decide (so (Q 1) L (nx (Q 1) L f) = 9)) (Q 1) L (nx (Q 1) L f) 5) = 10)) (Q 1) L (pF (decide (so (Q 1) L (nx (Q 1) L f) = 9)) (Q 1) L (nx (Q 1) L f) 5) 99 (pE (decide (so (Q 1) L (nx (Q 1) L f) = 9)) (Q 1) L (nx (Q 1) L f) 5 (newS E n kd 0) 3 n) 4 n, Kp, Bf, As, tkF Q L (pF (decide (so (Q 1) L (pF (decide (so (Q 1) L (nx (Q 1) L f) = 9)) (Q 1) L (nx (Q 1) L f) 5) = 10)) (Q 1) L (pF (decide (so (Q 1) L (nx (Q 1) L f) = 9)) (Q 1) L (nx (Q 1) L f) 5) 99) (pA (decide (so (Q 1) L (pF (decide (so (Q 1) L (nx (Q 1) L f) = 9)) (Q 1) L (nx (Q 1) L f) 5) = 10)) (Q 1) L (pF (decide (so (Q 1) L (nx (Q 1) L f) = 9)) (Q 1) L (nx (Q 1) L f) 5) 99 (pA (decide (so (Q 1) L (nx (Q 1) L f) = 9)) (Q 1) L (nx (Q 1) L f) 5 fa)))) 141 [(2, .int (nI n)), (0, .ref (b 0)), (1, .int kd)] [.int (nI (16 + 6 * n + 3)), .int (bI (decide (so (Q 1) L (pF (decide (so (Q 1) L (pF (decide (so (Q 1) L (nx (Q 1) L f) = 9)) (Q 1) L (nx (Q 1) L f) 5) = 10)) (Q 1) L (pF (decide (so (Q 1) L (nx (Q 1) L f) = 9)) (Q 1) L (nx (Q 1) L f) 5) 99) = 11))), .ref (b 0)]
          refine v_sipush h pX4_oysterHere_2 13 rfl ks_999 ?_
          refine v_callV h pX4_oysterHere_2 14 mX4_248 (As := [.int (bI (decide (so (Q 1) L (pF (decide (so (Q 1) L (pF (decide (so (Q 1) L (nx (Q 1) L f) = 9)) (Q 1) L (nx (Q 1) L f) 5) = 10)) (Q 1) L (pF (decide (so (Q 1) L (nx (Q 1) L f) = 9)) (Q 1) L (nx (Q 1) L f) 5) 99) = 11))), .int (nI (16 + 6 * n + 3)), .int 999]) (st := []) (kX4_perhaps _ _ cI cS b (pE (decide (so (Q 1) L (pF (decide (so (Q 1) L (nx (Q 1) L f) = 9)) (Q 1) L (nx (Q 1) L f) 5) = 10)) (Q 1) L (pF (decide (so (Q 1) L (nx (Q 1) L f) = 9)) (Q 1) L (nx (Q 1) L f) 5) 99 (pE (decide (so (Q 1) L (nx (Q 1) L f) = 9)) (Q 1) L (nx (Q 1) L f) 5 (newS E n kd 0) 3 n) 4 n) Kp Bf As Q L (pF (decide (so (Q 1) L (pF (decide (so (Q 1) L (nx (Q 1) L f) = 9)) (Q 1) L (nx (Q 1) L f) 5) = 10)) (Q 1) L (pF (decide (so (Q 1) L (nx (Q 1) L f) = 9)) (Q 1) L (nx (Q 1) L f) 5) 99) (pA (decide (so (Q 1) L (pF (decide (so (Q 1) L (nx (Q 1) L f) = 9)) (Q 1) L (nx (Q 1) L f) 5) = 10)) (Q 1) L (pF (decide (so (Q 1) L (nx (Q 1) L f) = 9)) (Q 1) L (nx (Q 1) L f) 5) 99 (pA (decide (so (Q 1) L (nx (Q 1) L f) = 9)) (Q 1) L (nx (Q 1) L f) 5 fa)) (pF_le _ _ _ (pF_le _ _ _ (nx_le hfL))) hL hLb hT (decide (so (Q 1) L (pF (decide (so (Q 1) L (pF (decide (so (Q 1) L (nx (Q 1) L f) = 9)) (Q 1) L (nx (Q 1) L f) 5) = 10)) (Q 1) L (pF (decide (so (Q 1) L (nx (Q 1) L f) = 9)) (Q 1) L (nx (Q 1) L f) 5) 99) = 11)) (16 + 6 * n + 3) (by omega) 5 n (flR_y (by omega) (by omega)) (flI_y (by omega) (by omega)) 999 (by decide)) v0B v0C (vEmb_rf _ _) 0 rfl rfl rfl rfl rfl rfl rfl (vDet_k ?_)
          show V K (mW cI b (pE (decide (so (Q 1) L (pF (decide (so (Q 1) L (pF (decide (so (Q 1) L (nx (Q 1) L f) = 9)) (Q 1) L (nx (Q 1) L f) 5) = 10)) (Q 1) L (pF (decide (so (Q 1) L (nx (Q 1) L f) = 9)) (Q 1) L (nx (Q 1) L f) 5) 99) = 11)) (Q 1) L (pF (decide (so (Q 1) L (pF (decide (so (Q 1) L (nx (Q 1) L f) = 9)) (Q 1) L (nx (Q 1) L f) 5) = 10)) (Q 1) L (pF (decide (so (Q 1) L (nx (Q 1) L f) = 9)) (Q 1) L (nx (Q 1) L f) 5) 99) 999 (pE (decide (so (Q 1) L (pF (decide (so (Q 1) L (nx (Q 1) L f) = 9)) (Q 1) L (nx (Q 1) L f) 5) = 10)) (Q 1) L (pF (decide (so (Q 1) L (nx (Q 1) L f) = 9)) (Q 1) L (nx (Q 1) L f) 5) 99 (pE (decide (so (Q 1) L (nx (Q 1) L f) = 9)) (Q 1) L (nx (Q 1) L f) 5 (newS E n kd 0) 3 n) 4 n) 5 n, Kp, Bf, As, tkF Q L (pF (decide (so (Q 1) L (pF (decide (so (Q 1) L (pF (decide (so (Q 1) L (nx (Q 1) L f) = 9)) (Q 1) L (nx (Q 1) L f) 5) = 10)) (Q 1) L (pF (decide (so (Q 1) L (nx (Q 1) L f) = 9)) (Q 1) L (nx (Q 1) L f) 5) 99) = 11)) (Q 1) L (pF (decide (so (Q 1) L (pF (decide (so (Q 1) L (nx (Q 1) L f) = 9)) (Q 1) L (nx (Q 1) L f) 5) = 10)) (Q 1) L (pF (decide (so (Q 1) L (nx (Q 1) L f) = 9)) (Q 1) L (nx (Q 1) L f) 5) 99) 999) (pA (decide (so (Q 1) L (pF (decide (so (Q 1) L (pF (decide (so (Q 1) L (nx (Q 1) L f) = 9)) (Q 1) L (nx (Q 1) L f) 5) = 10)) (Q 1) L (pF (decide (so (Q 1) L (nx (Q 1) L f) = 9)) (Q 1) L (nx (Q 1) L f) 5) 99) = 11)) (Q 1) L (pF (decide (so (Q 1) L (pF (decide (so (Q 1) L (nx (Q 1) L f) = 9)) (Q 1) L (nx (Q 1) L f) 5) = 10)) (Q 1) L (pF (decide (so (Q 1) L (nx (Q 1) L f) = 9)) (Q 1) L (nx (Q 1) L f) 5) 99) 999 (pA (decide (so (Q 1) L (pF (decide (so (Q 1) L (nx (Q 1) L f) = 9)) (Q 1) L (nx (Q 1) L f) 5) = 10)) (Q 1) L (pF (decide (so (Q 1) L (nx (Q 1) L f) = 9)) (Q 1) L (nx (Q 1) L f) 5) 99 (pA (decide (so (Q 1) L (nx (Q 1) L f) = 9)) (Q 1) L (nx (Q 1) L f) 5 fa))))) 147 [(2, .int (nI n)), (0, .ref (b 0)), (1, .int kd)] [.int (bI (pB (decide (so (Q 1) L (pF (decide (so (Q 1) L (pF (decide (so (Q 1) L (nx (Q 1) L f) = 9)) (Q 1) L (nx (Q 1) L f) 5) = 10)) (Q 1) L (pF (decide (so (Q 1) L (nx (Q 1) L f) = 9)) (Q 1) L (nx (Q 1) L f) 5) 99) = 11)) (Q 1) L (pF (decide (so (Q 1) L (pF (decide (so (Q 1) L (nx (Q 1) L f) = 9)) (Q 1) L (nx (Q 1) L f) 5) = 10)) (Q 1) L (pF (decide (so (Q 1) L (nx (Q 1) L f) = 9)) (Q 1) L (nx (Q 1) L f) 5) 99) 999))]
          refine v_bif_eq (tgt := 154) h pX4_oysterHere_2 15 rfl rfl (fun c4 => ?_) (fun c4 => ?_)
          · skip
            refine v_iconst h pX4_oysterHere_2 18 rfl ki_0 ?_
            exact v_zret h pX4_oysterHere_2 19 (Or.inl rfl) hR hret rfl ((pE (decide (so (Q 1) L (pF (decide (so (Q 1) L (pF (decide (so (Q 1) L (nx (Q 1) L f) = 9)) (Q 1) L (nx (Q 1) L f) 5) = 10)) (Q 1) L (pF (decide (so (Q 1) L (nx (Q 1) L f) = 9)) (Q 1) L (nx (Q 1) L f) 5) 99) = 11)) (Q 1) L (pF (decide (so (Q 1) L (pF (decide (so (Q 1) L (nx (Q 1) L f) = 9)) (Q 1) L (nx (Q 1) L f) 5) = 10)) (Q 1) L (pF (decide (so (Q 1) L (nx (Q 1) L f) = 9)) (Q 1) L (nx (Q 1) L f) 5) 99) 999 (pE (decide (so (Q 1) L (pF (decide (so (Q 1) L (nx (Q 1) L f) = 9)) (Q 1) L (nx (Q 1) L f) 5) = 10)) (Q 1) L (pF (decide (so (Q 1) L (nx (Q 1) L f) = 9)) (Q 1) L (nx (Q 1) L f) 5) 99 (pE (decide (so (Q 1) L (nx (Q 1) L f) = 9)) (Q 1) L (nx (Q 1) L f) 5 (newS E n kd 0) 3 n) 4 n) 5 n, Kp, Bf, As, tkF Q L (pF (decide (so (Q 1) L (pF (decide (so (Q 1) L (pF (decide (so (Q 1) L (nx (Q 1) L f) = 9)) (Q 1) L (nx (Q 1) L f) 5) = 10)) (Q 1) L (pF (decide (so (Q 1) L (nx (Q 1) L f) = 9)) (Q 1) L (nx (Q 1) L f) 5) 99) = 11)) (Q 1) L (pF (decide (so (Q 1) L (pF (decide (so (Q 1) L (nx (Q 1) L f) = 9)) (Q 1) L (nx (Q 1) L f) 5) = 10)) (Q 1) L (pF (decide (so (Q 1) L (nx (Q 1) L f) = 9)) (Q 1) L (nx (Q 1) L f) 5) 99) 999) (pA (decide (so (Q 1) L (pF (decide (so (Q 1) L (pF (decide (so (Q 1) L (nx (Q 1) L f) = 9)) (Q 1) L (nx (Q 1) L f) 5) = 10)) (Q 1) L (pF (decide (so (Q 1) L (nx (Q 1) L f) = 9)) (Q 1) L (nx (Q 1) L f) 5) 99) = 11)) (Q 1) L (pF (decide (so (Q 1) L (pF (decide (so (Q 1) L (nx (Q 1) L f) = 9)) (Q 1) L (nx (Q 1) L f) 5) = 10)) (Q 1) L (pF (decide (so (Q 1) L (nx (Q 1) L f) = 9)) (Q 1) L (nx (Q 1) L f) 5) 99) 999 (pA (decide (so (Q 1) L (pF (decide (so (Q 1) L (nx (Q 1) L f) = 9)) (Q 1) L (nx (Q 1) L f) 5) = 10)) (Q 1) L (pF (decide (so (Q 1) L (nx (Q 1) L f) = 9)) (Q 1) L (nx (Q 1) L f) 5) 99 (pA (decide (so (Q 1) L (nx (Q 1) L f) = 9)) (Q 1) L (nx (Q 1) L f) 5 fa))))) rfl (Or.inr ⟨_, _, _, (by rw [oyS, if_neg c1, if_pos c2, if_pos c3, if_neg (by rw [c4]; decide)]), rfl, (by rw [pA_f c4])⟩)
          · skip
            refine v_iconst h pX4_oysterHere_2 16 rfl ki_1 (v_goto (tgt := 155) h pX4_oysterHere_2 17 rfl rfl ?_)
            exact v_zret h pX4_oysterHere_2 19 (Or.inr rfl) hR hret rfl ((pE (decide (so (Q 1) L (pF (decide (so (Q 1) L (pF (decide (so (Q 1) L (nx (Q 1) L f) = 9)) (Q 1) L (nx (Q 1) L f) 5) = 10)) (Q 1) L (pF (decide (so (Q 1) L (nx (Q 1) L f) = 9)) (Q 1) L (nx (Q 1) L f) 5) 99) = 11)) (Q 1) L (pF (decide (so (Q 1) L (pF (decide (so (Q 1) L (nx (Q 1) L f) = 9)) (Q 1) L (nx (Q 1) L f) 5) = 10)) (Q 1) L (pF (decide (so (Q 1) L (nx (Q 1) L f) = 9)) (Q 1) L (nx (Q 1) L f) 5) 99) 999 (pE (decide (so (Q 1) L (pF (decide (so (Q 1) L (nx (Q 1) L f) = 9)) (Q 1) L (nx (Q 1) L f) 5) = 10)) (Q 1) L (pF (decide (so (Q 1) L (nx (Q 1) L f) = 9)) (Q 1) L (nx (Q 1) L f) 5) 99 (pE (decide (so (Q 1) L (nx (Q 1) L f) = 9)) (Q 1) L (nx (Q 1) L f) 5 (newS E n kd 0) 3 n) 4 n) 5 n, Kp, Bf, As, tkF Q L (pF (decide (so (Q 1) L (pF (decide (so (Q 1) L (pF (decide (so (Q 1) L (nx (Q 1) L f) = 9)) (Q 1) L (nx (Q 1) L f) 5) = 10)) (Q 1) L (pF (decide (so (Q 1) L (nx (Q 1) L f) = 9)) (Q 1) L (nx (Q 1) L f) 5) 99) = 11)) (Q 1) L (pF (decide (so (Q 1) L (pF (decide (so (Q 1) L (nx (Q 1) L f) = 9)) (Q 1) L (nx (Q 1) L f) 5) = 10)) (Q 1) L (pF (decide (so (Q 1) L (nx (Q 1) L f) = 9)) (Q 1) L (nx (Q 1) L f) 5) 99) 999) (pA (decide (so (Q 1) L (pF (decide (so (Q 1) L (pF (decide (so (Q 1) L (nx (Q 1) L f) = 9)) (Q 1) L (nx (Q 1) L f) 5) = 10)) (Q 1) L (pF (decide (so (Q 1) L (nx (Q 1) L f) = 9)) (Q 1) L (nx (Q 1) L f) 5) 99) = 11)) (Q 1) L (pF (decide (so (Q 1) L (pF (decide (so (Q 1) L (nx (Q 1) L f) = 9)) (Q 1) L (nx (Q 1) L f) 5) = 10)) (Q 1) L (pF (decide (so (Q 1) L (nx (Q 1) L f) = 9)) (Q 1) L (nx (Q 1) L f) 5) 99) 999 (pA (decide (so (Q 1) L (pF (decide (so (Q 1) L (nx (Q 1) L f) = 9)) (Q 1) L (nx (Q 1) L f) 5) = 10)) (Q 1) L (pF (decide (so (Q 1) L (nx (Q 1) L f) = 9)) (Q 1) L (nx (Q 1) L f) 5) 99 (pA (decide (so (Q 1) L (nx (Q 1) L f) = 9)) (Q 1) L (nx (Q 1) L f) 5 fa))))) rfl (Or.inl ⟨_, _, _, (by rw [oyS, if_neg c1, if_pos c2, if_pos c3, if_pos c4]), rfl, (by (rw [pA_t c4, pA_t c3, pA_t c2]) <;> rfl)⟩)
    refine v_aload_n h pX4_oysterHere_0 22 rfl 1 rfl rfl (v_aload_n h pX4_oysterHere_0 23 rfl 1 rfl rfl (v_iconst h pX4_oysterHere_0 24 rfl ki_2 ?_))
    refine v_callV h pX4_oysterHere_0 25 mX4_220 (As := [.int 2]) (st := [.ref (b 0)]) (kX4_isWord _ _ cI cS b (newS E n kd 0) Kp Bf As Q L (nx (Q 1) L f) fa (nx_le hfL) hL hLb hT 2 (by decide)) v0B v0C (vEmb_rf _ _) 0 rfl rfl rfl rfl rfl rfl rfl (vDet_k ?_)
    show V K (mW cI b (newS E n kd 0, Kp, Bf, As, tkF Q L (nx (Q 1) L f) fa)) 41 [(2, .int (nI n)), (0, .ref (b 0)), (1, .int kd)] [.int (bI (wd (Q 1) L (nx (Q 1) L f) 2)), .ref (b 0)]
    refine v_bif_eq (tgt := 76) h pX4_oysterHere_0 26 rfl rfl (fun c5 => ?_) (fun c5 => ?_)
    · skip
      refine v_iconst h pX4_oysterHere_1 11 rfl ki_0 ?_
      refine v_top (w := .int (bI (decide (so (Q 1) L (nx (Q 1) L f) = 9)))) (congrArg Value.int (show 0 = bI (decide (so (Q 1) L (nx (Q 1) L f) = 9)) from by rw [← word_9 (nx_le hfL)]; simp [bI, c1, c5])) ?_
      exact LJ
    · skip
      refine v_aload_n h pX4_oysterHere_0 27 rfl 1 rfl rfl (v_aload_n h pX4_oysterHere_0 28 rfl 1 rfl rfl (v_get h pX4_oysterHere_0 29 fX4_199 0 rfl rfl rfl (v_top (w := .int (nI (nx (Q 1) L f))) rfl ?_)))
      refine v_callV h pX4_oysterHere_0 30 mX4_202 (As := [.int (nI (nx (Q 1) L f))]) (st := [.ref (b 0)]) (kX4_byteAt _ _ cI cS b (newS E n kd 0) Kp Bf As (tkF Q L (nx (Q 1) L f) fa) (nx (Q 1) L f) L (by omega) hL hLb) v0B v0C (vEmb_rf _ _) 0 rfl rfl rfl rfl rfl rfl rfl (vDet_k ?_)
      show V K (mW cI b (newS E n kd 0, Kp, Bf, As, tkF Q L (nx (Q 1) L f) fa)) 52 [(2, .int (nI n)), (0, .ref (b 0)), (1, .int kd)] [.int (byS (Q 1) L (nx (Q 1) L f)), .ref (b 0)]
      refine v_bipush h pX4_oysterHere_0 31 rfl kb_105 ?_
      refine v_icmp_ne (tgt := 76) h pX4_oysterHere_1 0 rfl rfl (fun c6 => ?_) (fun c6 => ?_)
      · skip
        refine v_iconst h pX4_oysterHere_1 11 rfl ki_0 ?_
        refine v_top (w := .int (bI (decide (so (Q 1) L (nx (Q 1) L f) = 9)))) (congrArg Value.int (show 0 = bI (decide (so (Q 1) L (nx (Q 1) L f) = 9)) from by rw [← word_9 (nx_le hfL)]; simp [bI, c1, c5, c6])) ?_
        exact LJ
      · skip
        refine v_aload_n h pX4_oysterHere_1 1 rfl 1 rfl rfl (v_aload_n h pX4_oysterHere_1 2 rfl 1 rfl rfl (v_get h pX4_oysterHere_1 3 fX4_199 0 rfl rfl rfl (v_top (w := .int (nI (nx (Q 1) L f))) rfl (v_iconst h pX4_oysterHere_1 4 rfl ki_1 (v_iaddn h pX4_oysterHere_1 5 (nx (Q 1) L f) 1 rfl ?_)))))
        refine v_callV h pX4_oysterHere_1 6 mX4_202 (As := [.int (nI (nx (Q 1) L f + 1))]) (st := [.ref (b 0)]) (kX4_byteAt _ _ cI cS b (newS E n kd 0) Kp Bf As (tkF Q L (nx (Q 1) L f) fa) (nx (Q 1) L f + 1) L (by omega) hL hLb) v0B v0C (vEmb_rf _ _) 0 rfl rfl rfl rfl rfl rfl rfl (vDet_k ?_)
        show V K (mW cI b (newS E n kd 0, Kp, Bf, As, tkF Q L (nx (Q 1) L f) fa)) 67 [(2, .int (nI n)), (0, .ref (b 0)), (1, .int kd)] [.int (byS (Q 1) L (nx (Q 1) L f + 1)), .ref (b 0)]
        refine v_bipush h pX4_oysterHere_1 7 rfl kb_110 ?_
        refine v_icmp_ne (tgt := 76) h pX4_oysterHere_1 8 rfl rfl (fun c7 => ?_) (fun c7 => ?_)
        · skip
          refine v_iconst h pX4_oysterHere_1 11 rfl ki_0 ?_
          refine v_top (w := .int (bI (decide (so (Q 1) L (nx (Q 1) L f) = 9)))) (congrArg Value.int (show 0 = bI (decide (so (Q 1) L (nx (Q 1) L f) = 9)) from by rw [← word_9 (nx_le hfL)]; simp [bI, c1, c5, (eq_true c6), c7])) ?_
          exact LJ
        · skip
          refine v_iconst h pX4_oysterHere_1 9 rfl ki_1 (v_goto (tgt := 77) h pX4_oysterHere_1 10 rfl rfl ?_)
          refine v_top (w := .int (bI (decide (so (Q 1) L (nx (Q 1) L f) = 9)))) (congrArg Value.int (show 1 = bI (decide (so (Q 1) L (nx (Q 1) L f) = 9)) from by rw [← word_9 (nx_le hfL)]; simp [bI, c1, c5, (eq_true c6), (eq_true c7)])) ?_
          exact LJ
  · skip
    refine v_aload_n h pX4_oysterHere_0 6 rfl 0 rfl rfl ?_
    refine v_callV h pX4_oysterHere_0 7 mX4_227 (As := []) (st := []) (kX4_fails _ _ cI cS b E Kp Bf As Q L f fa hfL hL hLb hT) v0B v0C (vEmb_rf _ _) 0 rfl rfl rfl rfl rfl rfl rfl (vDet_k ?_)
    show V K (mW cI b (E, Kp, Bf, As, tkF Q L f (nI f))) 15 [(0, .ref (b 0)), (1, .int kd)] [.int 0]
    exact v_zret h pX4_oysterHere_0 8 (Or.inl rfl) hR hret rfl ((E, Kp, Bf, As, tkF Q L f (nI f))) rfl (Or.inr ⟨_, _, _, (by rw [oyS, if_pos c1]), rfl, (by rfl)⟩)
set_option maxHeartbeats 300000 in
set_option maxRecDepth 100000 in
theorem kX4_bedHere (l : Launch) (D : va_G) (cI cS : ClassId) (b : Nat → Nat) (E Kp Bf As Q : Nat → Nat → Int32) (L f : Nat) (fa : Int32) (hfL : f ≤ L) (hL : Q 6 1 = nI L) (hLb : L ≤ 120) (hT : ∀ i, i < 120 → bd (Q 1 i) 255) (n : Nat) : vMet l D (vT cI cS) yX4_bedHere cX4_bedHere 2 (some .boolean) 3 70 (mW cI b) v0 [.ref (b 0)] (E, Kp, Bf, As, tkF Q L f fa) (itP Kp Bf As Q L fa (bedS (Q 1) L E n f)) := by
  refine vMet_of (by decide) rfl ?_
  intro K hl hD hnL hret h hR hEx
  subst hl hD
  show V K (mW cI b (E, Kp, Bf, As, tkF Q L f fa)) 0 [(0, .ref (b 0))] []
  have htk4 := tk_le (Q 1) L f
  have hel := en_le (T := Q 1) hfL
  have heg := en_ge (Q 1) L f
  have hnl := nx_le (T := Q 1) hfL
  refine v_aload_n h pX4_bedHere_0 0 rfl 0 rfl rfl ?_
  refine v_callV h pX4_bedHere_0 1 mX4_242 (As := []) (st := []) (kX4_nextToken _ _ cI cS b E Kp Bf As (tkF Q L f fa) (en (Q 1) L f) L rfl (en_le hfL) hL hLb hT) v0B v0C (vEmb_rf _ _) 0 rfl rfl rfl rfl rfl rfl rfl (vDet_k ?_)
  show V K (mW cI b (E, Kp, Bf, As, tkF (tkF Q L f fa) L (nx (Q 1) L f) fa)) 4 [(0, .ref (b 0))] []
  refine v_eqw (ws' := mW cI b (E, Kp, Bf, As, tkF Q L (nx (Q 1) L f) fa)) (by rw [tkF_tkF]) ?_
  refine v_aload_n h pX4_bedHere_0 2 rfl 0 rfl rfl (v_iconst h pX4_bedHere_0 3 rfl ki_0 (v_iconst h pX4_bedHere_0 4 rfl ki_5 ?_))
  refine v_callV h pX4_bedHere_0 5 mX4_245 (As := [.int 0, .int 5]) (st := []) (kX4_isNumber _ _ cI cS b E Kp Bf As Q L (nx (Q 1) L f) fa (nx_le hfL) hL hLb hT 5 (by first | assumption | decide | omega)) v0B v0C (vEmb_rf _ _) 0 rfl rfl rfl rfl rfl rfl rfl (vDet_k ?_)
  show V K (mW cI b (E, Kp, Bf, As, tkF Q L (nx (Q 1) L f) (faN (nmOK (Q 1) L (nx (Q 1) L f) 5) (nx (Q 1) L f) fa))) 10 [(0, .ref (b 0))] [.int (bI (nmOK (Q 1) L (nx (Q 1) L f) 5))]
  refine v_bif_ne (tgt := 15) h pX4_bedHere_0 6 rfl rfl (fun c1 => ?_) (fun c1 => ?_)
  · skip
    obtain ⟨e_v, l_v⟩ := inB_t 5 rfl (by decide) (Bool.and_eq_true_iff.mp c1).2
    refine v_aload_n h pX4_bedHere_0 9 rfl 0 rfl rfl (v_get h pX4_bedHere_0 10 fX4_214 0 rfl rfl rfl (v_top (w := .int (nmV (Q 1) L (nx (Q 1) L f))) rfl ?_))
    refine v_top (w := .int (nI (ix (nmV (Q 1) L (nx (Q 1) L f))))) (congrArg Value.int e_v) (v_istore_n h pX4_bedHere_0 11 (lv' := [(1, .int (nI (ix (nmV (Q 1) L (nx (Q 1) L f))))), (0, .ref (b 0))]) rfl rfl hnL rfl rfl (v_aload_n h pX4_bedHere_0 12 rfl 1 rfl rfl ?_))
    refine v_callV h pX4_bedHere_0 13 mX4_242 (As := []) (st := []) (kX4_nextToken _ _ cI cS b E Kp Bf As (tkF Q L (nx (Q 1) L f) (faN (nmOK (Q 1) L (nx (Q 1) L f) 5) (nx (Q 1) L f) fa)) (en (Q 1) L (nx (Q 1) L f)) L rfl (en_le (nx_le hfL)) hL hLb hT) v0B v0C (vEmb_rf _ _) 0 rfl rfl rfl rfl rfl rfl rfl (vDet_k ?_)
    show V K (mW cI b (E, Kp, Bf, As, tkF (tkF Q L (nx (Q 1) L f) (faN (nmOK (Q 1) L (nx (Q 1) L f) 5) (nx (Q 1) L f) fa)) L (nx (Q 1) L (nx (Q 1) L f)) (faN (nmOK (Q 1) L (nx (Q 1) L f) 5) (nx (Q 1) L f) fa))) 24 [(1, .int (nI (ix (nmV (Q 1) L (nx (Q 1) L f))))), (0, .ref (b 0))] []
    refine v_eqw (ws' := mW cI b (E, Kp, Bf, As, tkF Q L (nx (Q 1) L (nx (Q 1) L f)) (faN (nmOK (Q 1) L (nx (Q 1) L f) 5) (nx (Q 1) L f) fa))) (by rw [tkF_tkF]) ?_
    refine v_aload_n h pX4_bedHere_0 14 rfl 1 rfl rfl (v_aload_n h pX4_bedHere_0 15 rfl 1 rfl rfl (v_bipush h pX4_bedHere_0 16 rfl kb_110 (v_bipush h pX4_bedHere_0 17 rfl kb_97 (v_bipush h pX4_bedHere_0 18 rfl kb_99 (v_bipush h pX4_bedHere_0 19 rfl kb_114 ?_)))))
    refine v_bipush h pX4_bedHere_0 20 rfl kb_101 ?_
    refine v_callV h pX4_bedHere_0 21 mX4_235 (As := [.int 110, .int 97, .int 99, .int 114, .int 101]) (st := [.ref (b 0)]) (kX4_isFive _ _ cI cS b E Kp Bf As Q L (nx (Q 1) L (nx (Q 1) L f)) (faN (nmOK (Q 1) L (nx (Q 1) L f) 5) (nx (Q 1) L f) fa) (nx_le (nx_le hfL)) hL hLb hT 110 97 99 114 101) v0B v0C (vEmb_rf _ _) 0 rfl rfl rfl rfl rfl rfl rfl (vDet_k ?_)
    show V K (mW cI b (E, Kp, Bf, As, tkF Q L (nx (Q 1) L (nx (Q 1) L f)) (faN (nmOK (Q 1) L (nx (Q 1) L f) 5) (nx (Q 1) L f) fa))) 39 [(1, .int (nI (ix (nmV (Q 1) L (nx (Q 1) L f))))), (0, .ref (b 0))] [.int (bI (w5 (Q 1) L (nx (Q 1) L (nx (Q 1) L f)) 110 97 99 114 101)), .ref (b 0)]
    refine v_top (w := .int (bI (decide (so (Q 1) L (nx (Q 1) L (nx (Q 1) L f)) = 12)))) (congrArg (fun z => Value.int (bI z)) (word_12 (nx_le (nx_le hfL)))) (v_iconst h pX4_bedHere_0 22 rfl ki_4 (v_iload_n h pX4_bedHere_0 23 rfl 0 rfl rfl (v_iaddn h pX4_bedHere_0 24 4 (ix (nmV (Q 1) L (nx (Q 1) L f))) rfl (v_sipush h pX4_bedHere_0 25 rfl ks_999 ?_))))
    refine v_callV h pX4_bedHere_0 26 mX4_248 (As := [.int (bI (decide (so (Q 1) L (nx (Q 1) L (nx (Q 1) L f)) = 12))), .int (nI (4 + (ix (nmV (Q 1) L (nx (Q 1) L f))))), .int 999]) (st := []) (kX4_perhaps _ _ cI cS b E Kp Bf As Q L (nx (Q 1) L (nx (Q 1) L f)) (faN (nmOK (Q 1) L (nx (Q 1) L f) 5) (nx (Q 1) L f) fa) (nx_le (nx_le hfL)) hL hLb hT (decide (so (Q 1) L (nx (Q 1) L (nx (Q 1) L f)) = 12)) (4 + (ix (nmV (Q 1) L (nx (Q 1) L f)))) (by omega) 0 (ix (nmV (Q 1) L (nx (Q 1) L f))) (flR_n (by omega)) (flI_n (by omega)) 999 (by decide)) v0B v0C (vEmb_rf _ _) 0 rfl rfl rfl rfl rfl rfl rfl (vDet_k ?_)
    show V K (mW cI b (pE (decide (so (Q 1) L (nx (Q 1) L (nx (Q 1) L f)) = 12)) (Q 1) L (nx (Q 1) L (nx (Q 1) L f)) 999 E 0 (ix (nmV (Q 1) L (nx (Q 1) L f))), Kp, Bf, As, tkF Q L (pF (decide (so (Q 1) L (nx (Q 1) L (nx (Q 1) L f)) = 12)) (Q 1) L (nx (Q 1) L (nx (Q 1) L f)) 999) (pA (decide (so (Q 1) L (nx (Q 1) L (nx (Q 1) L f)) = 12)) (Q 1) L (nx (Q 1) L (nx (Q 1) L f)) 999 (faN (nmOK (Q 1) L (nx (Q 1) L f) 5) (nx (Q 1) L f) fa)))) 48 [(1, .int (nI (ix (nmV (Q 1) L (nx (Q 1) L f))))), (0, .ref (b 0))] [.int (bI (pB (decide (so (Q 1) L (nx (Q 1) L (nx (Q 1) L f)) = 12)) (Q 1) L (nx (Q 1) L (nx (Q 1) L f)) 999))]
    refine v_bif_eq (tgt := 80) h pX4_bedHere_0 27 rfl rfl (fun c2 => ?_) (fun c2 => ?_)
    · skip
      refine v_iconst h pX4_bedHere_1 11 rfl ki_0 ?_
      exact v_zret h pX4_bedHere_1 12 (Or.inl rfl) hR hret rfl ((pE (decide (so (Q 1) L (nx (Q 1) L (nx (Q 1) L f)) = 12)) (Q 1) L (nx (Q 1) L (nx (Q 1) L f)) 999 E 0 (ix (nmV (Q 1) L (nx (Q 1) L f))), Kp, Bf, As, tkF Q L (pF (decide (so (Q 1) L (nx (Q 1) L (nx (Q 1) L f)) = 12)) (Q 1) L (nx (Q 1) L (nx (Q 1) L f)) 999) (pA (decide (so (Q 1) L (nx (Q 1) L (nx (Q 1) L f)) = 12)) (Q 1) L (nx (Q 1) L (nx (Q 1) L f)) 999 (faN (nmOK (Q 1) L (nx (Q 1) L f) 5) (nx (Q 1) L f) fa)))) rfl (Or.inr ⟨_, _, _, (by rw [bedS, if_pos c1, if_neg (by rw [c2]; decide)]), rfl, (by rw [pA_f c2])⟩)
    · skip
      refine v_aload_n h pX4_bedHere_0 28 rfl 1 rfl rfl (v_aload_n h pX4_bedHere_0 29 rfl 1 rfl rfl (v_bipush h pX4_bedHere_0 30 rfl kb_99 (v_bipush h pX4_bedHere_0 31 rfl kb_111 (v_bipush h pX4_bedHere_1 0 rfl kb_108 (v_bipush h pX4_bedHere_1 1 rfl kb_100 ?_)))))
      refine v_callV h pX4_bedHere_1 2 mX4_239 (As := [.int 99, .int 111, .int 108, .int 100]) (st := [.ref (b 0)]) (kX4_isFour _ _ cI cS b (pE (decide (so (Q 1) L (nx (Q 1) L (nx (Q 1) L f)) = 12)) (Q 1) L (nx (Q 1) L (nx (Q 1) L f)) 999 E 0 (ix (nmV (Q 1) L (nx (Q 1) L f)))) Kp Bf As Q L (pF (decide (so (Q 1) L (nx (Q 1) L (nx (Q 1) L f)) = 12)) (Q 1) L (nx (Q 1) L (nx (Q 1) L f)) 999) (pA (decide (so (Q 1) L (nx (Q 1) L (nx (Q 1) L f)) = 12)) (Q 1) L (nx (Q 1) L (nx (Q 1) L f)) 999 (faN (nmOK (Q 1) L (nx (Q 1) L f) 5) (nx (Q 1) L f) fa)) (pF_le _ _ _ (nx_le (nx_le hfL))) hL hLb hT 99 111 108 100) v0B v0C (vEmb_rf _ _) 0 rfl rfl rfl rfl rfl rfl rfl (vDet_k ?_)
      show V K (mW cI b (pE (decide (so (Q 1) L (nx (Q 1) L (nx (Q 1) L f)) = 12)) (Q 1) L (nx (Q 1) L (nx (Q 1) L f)) 999 E 0 (ix (nmV (Q 1) L (nx (Q 1) L f))), Kp, Bf, As, tkF Q L (pF (decide (so (Q 1) L (nx (Q 1) L (nx (Q 1) L f)) = 12)) (Q 1) L (nx (Q 1) L (nx (Q 1) L f)) 999) (pA (decide (so (Q 1) L (nx (Q 1) L (nx (Q 1) L f)) = 12)) (Q 1) L (nx (Q 1) L (nx (Q 1) L f)) 999 (faN (nmOK (Q 1) L (nx (Q 1) L f) 5) (nx (Q 1) L f) fa)))) 64 [(1, .int (nI (ix (nmV (Q 1) L (nx (Q 1) L f))))), (0, .ref (b 0))] [.int (bI (w4 (Q 1) L (pF (decide (so (Q 1) L (nx (Q 1) L (nx (Q 1) L f)) = 12)) (Q 1) L (nx (Q 1) L (nx (Q 1) L f)) 999) 99 111 108 100)), .ref (b 0)]
      refine v_top (w := .int (bI (decide (so (Q 1) L (pF (decide (so (Q 1) L (nx (Q 1) L (nx (Q 1) L f)) = 12)) (Q 1) L (nx (Q 1) L (nx (Q 1) L f)) 999) = 13)))) (congrArg (fun z => Value.int (bI z)) (word_13 (pF_le _ _ _ (nx_le (nx_le hfL))))) (v_bipush h pX4_bedHere_1 3 rfl kb_10 (v_iload_n h pX4_bedHere_1 4 rfl 0 rfl rfl (v_iaddn h pX4_bedHere_1 5 10 (ix (nmV (Q 1) L (nx (Q 1) L f))) rfl (v_bipush h pX4_bedHere_1 6 rfl kb_9 ?_))))
      refine v_callV h pX4_bedHere_1 7 mX4_248 (As := [.int (bI (decide (so (Q 1) L (pF (decide (so (Q 1) L (nx (Q 1) L (nx (Q 1) L f)) = 12)) (Q 1) L (nx (Q 1) L (nx (Q 1) L f)) 999) = 13))), .int (nI (10 + (ix (nmV (Q 1) L (nx (Q 1) L f))))), .int 9]) (st := []) (kX4_perhaps _ _ cI cS b (pE (decide (so (Q 1) L (nx (Q 1) L (nx (Q 1) L f)) = 12)) (Q 1) L (nx (Q 1) L (nx (Q 1) L f)) 999 E 0 (ix (nmV (Q 1) L (nx (Q 1) L f)))) Kp Bf As Q L (pF (decide (so (Q 1) L (nx (Q 1) L (nx (Q 1) L f)) = 12)) (Q 1) L (nx (Q 1) L (nx (Q 1) L f)) 999) (pA (decide (so (Q 1) L (nx (Q 1) L (nx (Q 1) L f)) = 12)) (Q 1) L (nx (Q 1) L (nx (Q 1) L f)) 999 (faN (nmOK (Q 1) L (nx (Q 1) L f) 5) (nx (Q 1) L f) fa)) (pF_le _ _ _ (nx_le (nx_le hfL))) hL hLb hT (decide (so (Q 1) L (pF (decide (so (Q 1) L (nx (Q 1) L (nx (Q 1) L f)) = 12)) (Q 1) L (nx (Q 1) L (nx (Q 1) L f)) 999) = 13)) (10 + (ix (nmV (Q 1) L (nx (Q 1) L f)))) (by omega) 1 (ix (nmV (Q 1) L (nx (Q 1) L f))) (flR_c (by omega)) (flI_c (by omega)) 9 (by decide)) v0B v0C (vEmb_rf _ _) 0 rfl rfl rfl rfl rfl rfl rfl (vDet_k ?_)
      show V K (mW cI b (pE (decide (so (Q 1) L (pF (decide (so (Q 1) L (nx (Q 1) L (nx (Q 1) L f)) = 12)) (Q 1) L (nx (Q 1) L (nx (Q 1) L f)) 999) = 13)) (Q 1) L (pF (decide (so (Q 1) L (nx (Q 1) L (nx (Q 1) L f)) = 12)) (Q 1) L (nx (Q 1) L (nx (Q 1) L f)) 999) 9 (pE (decide (so (Q 1) L (nx (Q 1) L (nx (Q 1) L f)) = 12)) (Q 1) L (nx (Q 1) L (nx (Q 1) L f)) 999 E 0 (ix (nmV (Q 1) L (nx (Q 1) L f)))) 1 (ix (nmV (Q 1) L (nx (Q 1) L f))), Kp, Bf, As, tkF Q L (pF (decide (so (Q 1) L (pF (decide (so (Q 1) L (nx (Q 1) L (nx (Q 1) L f)) = 12)) (Q 1) L (nx (Q 1) L (nx (Q 1) L f)) 999) = 13)) (Q 1) L (pF (decide (so (Q 1) L (nx (Q 1) L (nx (Q 1) L f)) = 12)) (Q 1) L (nx (Q 1) L (nx (Q 1) L f)) 999) 9) (pA (decide (so (Q 1) L (pF (decide (so (Q 1) L (nx (Q 1) L (nx (Q 1) L f)) = 12)) (Q 1) L (nx (Q 1) L (nx (Q 1) L f)) 999) = 13)) (Q 1) L (pF (decide (so (Q 1) L (nx (Q 1) L (nx (Q 1) L f)) = 12)) (Q 1) L (nx (Q 1) L (nx (Q 1) L f)) 999) 9 (pA (decide (so (Q 1) L (nx (Q 1) L (nx (Q 1) L f)) = 12)) (Q 1) L (nx (Q 1) L (nx (Q 1) L f)) 999 (faN (nmOK (Q 1) L (nx (Q 1) L f) 5) (nx (Q 1) L f) fa))))) 73 [(1, .int (nI (ix (nmV (Q 1) L (nx (Q 1) L f))))), (0, .ref (b 0))] [.int (bI (pB (decide (so (Q 1) L (pF (decide (so (Q 1) L (nx (Q 1) L (nx (Q 1) L f)) = 12)) (Q 1) L (nx (Q 1) L (nx (Q 1) L f)) 999) = 13)) (Q 1) L (pF (decide (so (Q 1) L (nx (Q 1) L (nx (Q 1) L f)) = 12)) (Q 1) L (nx (Q 1) L (nx (Q 1) L f)) 999) 9))]
      refine v_bif_eq (tgt := 80) h pX4_bedHere_1 8 rfl rfl (fun c3 => ?_) (fun c3 => ?_)
      · skip
        refine v_iconst h pX4_bedHere_1 11 rfl ki_0 ?_
        exact v_zret h pX4_bedHere_1 12 (Or.inl rfl) hR hret rfl ((pE (decide (so (Q 1) L (pF (decide (so (Q 1) L (nx (Q 1) L (nx (Q 1) L f)) = 12)) (Q 1) L (nx (Q 1) L (nx (Q 1) L f)) 999) = 13)) (Q 1) L (pF (decide (so (Q 1) L (nx (Q 1) L (nx (Q 1) L f)) = 12)) (Q 1) L (nx (Q 1) L (nx (Q 1) L f)) 999) 9 (pE (decide (so (Q 1) L (nx (Q 1) L (nx (Q 1) L f)) = 12)) (Q 1) L (nx (Q 1) L (nx (Q 1) L f)) 999 E 0 (ix (nmV (Q 1) L (nx (Q 1) L f)))) 1 (ix (nmV (Q 1) L (nx (Q 1) L f))), Kp, Bf, As, tkF Q L (pF (decide (so (Q 1) L (pF (decide (so (Q 1) L (nx (Q 1) L (nx (Q 1) L f)) = 12)) (Q 1) L (nx (Q 1) L (nx (Q 1) L f)) 999) = 13)) (Q 1) L (pF (decide (so (Q 1) L (nx (Q 1) L (nx (Q 1) L f)) = 12)) (Q 1) L (nx (Q 1) L (nx (Q 1) L f)) 999) 9) (pA (decide (so (Q 1) L (pF (decide (so (Q 1) L (nx (Q 1) L (nx (Q 1) L f)) = 12)) (Q 1) L (nx (Q 1) L (nx (Q 1) L f)) 999) = 13)) (Q 1) L (pF (decide (so (Q 1) L (nx (Q 1) L (nx (Q 1) L f)) = 12)) (Q 1) L (nx (Q 1) L (nx (Q 1) L f)) 999) 9 (pA (decide (so (Q 1) L (nx (Q 1) L (nx (Q 1) L f)) = 12)) (Q 1) L (nx (Q 1) L (nx (Q 1) L f)) 999 (faN (nmOK (Q 1) L (nx (Q 1) L f) 5) (nx (Q 1) L f) fa))))) rfl (Or.inr ⟨_, _, _, (by rw [bedS, if_pos c1, if_pos c2, if_neg (by rw [c3]; decide)]), rfl, (by rw [pA_f c3])⟩)
      · skip
        refine v_iconst h pX4_bedHere_1 9 rfl ki_1 (v_goto (tgt := 81) h pX4_bedHere_1 10 rfl rfl ?_)
        exact v_zret h pX4_bedHere_1 12 (Or.inr rfl) hR hret rfl ((pE (decide (so (Q 1) L (pF (decide (so (Q 1) L (nx (Q 1) L (nx (Q 1) L f)) = 12)) (Q 1) L (nx (Q 1) L (nx (Q 1) L f)) 999) = 13)) (Q 1) L (pF (decide (so (Q 1) L (nx (Q 1) L (nx (Q 1) L f)) = 12)) (Q 1) L (nx (Q 1) L (nx (Q 1) L f)) 999) 9 (pE (decide (so (Q 1) L (nx (Q 1) L (nx (Q 1) L f)) = 12)) (Q 1) L (nx (Q 1) L (nx (Q 1) L f)) 999 E 0 (ix (nmV (Q 1) L (nx (Q 1) L f)))) 1 (ix (nmV (Q 1) L (nx (Q 1) L f))), Kp, Bf, As, tkF Q L (pF (decide (so (Q 1) L (pF (decide (so (Q 1) L (nx (Q 1) L (nx (Q 1) L f)) = 12)) (Q 1) L (nx (Q 1) L (nx (Q 1) L f)) 999) = 13)) (Q 1) L (pF (decide (so (Q 1) L (nx (Q 1) L (nx (Q 1) L f)) = 12)) (Q 1) L (nx (Q 1) L (nx (Q 1) L f)) 999) 9) (pA (decide (so (Q 1) L (pF (decide (so (Q 1) L (nx (Q 1) L (nx (Q 1) L f)) = 12)) (Q 1) L (nx (Q 1) L (nx (Q 1) L f)) 999) = 13)) (Q 1) L (pF (decide (so (Q 1) L (nx (Q 1) L (nx (Q 1) L f)) = 12)) (Q 1) L (nx (Q 1) L (nx (Q 1) L f)) 999) 9 (pA (decide (so (Q 1) L (nx (Q 1) L (nx (Q 1) L f)) = 12)) (Q 1) L (nx (Q 1) L (nx (Q 1) L f)) 999 (faN (nmOK (Q 1) L (nx (Q 1) L f) 5) (nx (Q 1) L f) fa))))) rfl (Or.inl ⟨_, _, _, (by rw [bedS, if_pos c1, if_pos c2, if_pos c3]), rfl, (by (rw [pA_t c3, pA_t c2, c1]) <;> rfl)⟩)
  · skip
    refine v_iconst h pX4_bedHere_0 7 rfl ki_0 ?_
    exact v_zret h pX4_bedHere_0 8 (Or.inl rfl) hR hret rfl ((E, Kp, Bf, As, tkF Q L (nx (Q 1) L f) (faN (nmOK (Q 1) L (nx (Q 1) L f) 5) (nx (Q 1) L f) fa))) rfl (Or.inr ⟨_, _, _, (by rw [bedS, if_neg (by rw [c1]; decide)]), rfl, (by rw [c1]; rfl)⟩)
set_option maxHeartbeats 300000 in
set_option maxRecDepth 100000 in
theorem kX4_itemHere (l : Launch) (D : va_G) (cI cS : ClassId) (b : Nat → Nat) (E Kp Bf As Q : Nat → Nat → Int32) (L f : Nat) (fa : Int32) (hfL : f ≤ L) (hL : Q 6 1 = nI L) (hLb : L ≤ 120) (hT : ∀ i, i < 120 → bd (Q 1 i) 255) (n : Nat) (hW : Wf E n) : vMet l D (vT cI cS) yX4_itemHere cX4_itemHere 2 (some .boolean) 4 93 (mW cI b) v0 [.ref (b 0)] (E, Kp, Bf, As, tkF Q L f fa) (itP Kp Bf As Q L fa (itS (Q 1) L E n f)) := by
  refine vMet_of (by decide) rfl ?_
  intro K hl hD hnL hret h hR hEx
  subst hl hD
  show V K (mW cI b (E, Kp, Bf, As, tkF Q L f fa)) 0 [(0, .ref (b 0))] []
  have htk4 := tk_le (Q 1) L f
  have hel := en_le (T := Q 1) hfL
  have heg := en_ge (Q 1) L f
  have hnl := nx_le (T := Q 1) hfL
  refine v_aload_n h pX4_itemHere_0 0 rfl 0 rfl rfl ?_
  refine v_callV h pX4_itemHere_0 1 mX4_252 (As := []) (st := []) (kX4_kindHere _ _ cI cS b E Kp Bf As Q L f fa hfL hL hLb hT) v0B v0C (vEmb_rf _ _) 0 rfl rfl rfl rfl rfl rfl rfl (vDet_k ?_)
  show V K (mW cI b (E, Kp, Bf, As, tkF Q L f fa)) 4 [(0, .ref (b 0))] [.int (kdS (Q 1) L f)]
  refine v_istore_n h pX4_itemHere_0 2 (lv' := [(1, .int (kdS (Q 1) L f)), (0, .ref (b 0))]) rfl rfl hnL rfl rfl (v_iload_n h pX4_itemHere_0 3 rfl 0 rfl rfl ?_)
  refine v_if_lt (tgt := 15) h pX4_itemHere_0 4 rfl rfl (fun c1 => ?_) (fun c1 => ?_)
  · skip
    have hn7 := kd_f c1
    refine v_aload_n h pX4_itemHere_0 9 rfl 1 rfl rfl (v_iconst h pX4_itemHere_0 10 rfl ki_3 ?_)
    refine v_callV h pX4_itemHere_0 11 mX4_220 (As := [.int 3]) (st := []) (kX4_isWord _ _ cI cS b E Kp Bf As Q L f fa hfL hL hLb hT 3 (by decide)) v0B v0C (vEmb_rf _ _) 0 rfl rfl rfl rfl rfl rfl rfl (vDet_k ?_)
    show V K (mW cI b (E, Kp, Bf, As, tkF Q L f fa)) 20 [(1, .int (kdS (Q 1) L f)), (0, .ref (b 0))] [.int (bI (wd (Q 1) L f 3))]
    refine v_bif_eq (tgt := 42) h pX4_itemHere_0 12 rfl rfl (fun c2 => ?_) (fun c2 => ?_)
    · skip
      have hn8 : ¬ so (Q 1) L f = 7 := of_decide_eq_false ((word_7 hfL).symm.trans (by simp [c2]))
      refine v_aload_n h pX4_itemHere_0 23 rfl 1 rfl rfl (v_bipush h pX4_itemHere_0 24 rfl kb_99 (v_bipush h pX4_itemHere_0 25 rfl kb_111 (v_bipush h pX4_itemHere_0 26 rfl kb_109 (v_bipush h pX4_itemHere_0 27 rfl kb_101 (v_bipush h pX4_itemHere_0 28 rfl kb_115 ?_)))))
      refine v_callV h pX4_itemHere_0 29 mX4_235 (As := [.int 99, .int 111, .int 109, .int 101, .int 115]) (st := []) (kX4_isFive _ _ cI cS b E Kp Bf As Q L f fa hfL hL hLb hT 99 111 109 101 115) v0B v0C (vEmb_rf _ _) 0 rfl rfl rfl rfl rfl rfl rfl (vDet_k ?_)
      show V K (mW cI b (E, Kp, Bf, As, tkF Q L f fa)) 56 [(1, .int (kdS (Q 1) L f)), (0, .ref (b 0))] [.int (bI (w5 (Q 1) L f 99 111 109 101 115))]
      refine v_top (w := .int (bI (decide (so (Q 1) L f = 8)))) (congrArg (fun z => Value.int (bI z)) (word_8 hfL)) ?_
      refine v_bif_eq (tgt := 70) h pX4_itemHere_0 30 rfl rfl (fun c3 => ?_) (fun c3 => ?_)
      · skip
        have h8 := of_decide_eq_false c3
        refine v_aload_n h pX4_itemHere_1 5 rfl 1 rfl rfl ?_
        refine v_callV h pX4_itemHere_1 6 mX4_227 (As := []) (st := []) (kX4_fails _ _ cI cS b E Kp Bf As Q L f fa hfL hL hLb hT) v0B v0C (vEmb_rf _ _) 0 rfl rfl rfl rfl rfl rfl rfl (vDet_k ?_)
        show V K (mW cI b (E, Kp, Bf, As, tkF Q L f (nI f))) 74 [(1, .int (kdS (Q 1) L f)), (0, .ref (b 0))] [.int 0]
        exact v_zret h pX4_itemHere_1 7 (Or.inl rfl) hR hret rfl ((E, Kp, Bf, As, tkF Q L f (nI f))) rfl (Or.inr ⟨_, _, _, (by rw [itS, if_neg hn7, if_neg hn8, if_neg h8]), rfl, (by rfl)⟩)
      · skip
        have h8 := of_decide_eq_true c3
        refine v_aload_n h pX4_itemHere_0 31 rfl 1 rfl rfl (v_iconst h pX4_itemHere_1 0 rfl ki_1 (v_iconst h pX4_itemHere_1 1 rfl ki_3 (v_bipush h pX4_itemHere_1 2 rfl kb_99 ?_)))
        refine v_callV h pX4_itemHere_1 3 mX4_248 (As := [.int 1, .int 3, .int 99]) (st := []) (kX4_perhaps _ _ cI cS b E Kp Bf As Q L f fa hfL hL hLb hT true 3 (by omega) 9 1 rfl rfl 99 (by decide)) v0B v0C (vEmb_rf _ _) 0 rfl rfl rfl rfl rfl rfl rfl (vDet_k ?_)
        show V K (mW cI b (pE true (Q 1) L f 99 E 9 1, Kp, Bf, As, tkF Q L (pF true (Q 1) L f 99) (pA true (Q 1) L f 99 fa))) 67 [(1, .int (kdS (Q 1) L f)), (0, .ref (b 0))] [.int (bI (pB true (Q 1) L f 99))]
        refine v_goto (tgt := 74) h pX4_itemHere_1 4 rfl rfl ?_
        rcases Bool.eq_false_or_eq_true (pB true (Q 1) L f 99) with hpb | hpb
        · skip
          refine v_top (w := .int 1) (by rw [hpb]; rfl) ?_
          exact v_zret h pX4_itemHere_1 7 (Or.inr rfl) hR hret rfl ((pE true (Q 1) L f 99 E 9 1, Kp, Bf, As, tkF Q L (pF true (Q 1) L f 99) (pA true (Q 1) L f 99 fa))) rfl (Or.inl ⟨_, _, _, (by rw [itS, if_neg hn7, if_neg hn8, if_pos h8, comS, if_pos hpb]), rfl, (by rw [pA_t hpb])⟩)
        · skip
          refine v_top (w := .int 0) (by rw [hpb]; rfl) ?_
          exact v_zret h pX4_itemHere_1 7 (Or.inl rfl) hR hret rfl ((pE true (Q 1) L f 99 E 9 1, Kp, Bf, As, tkF Q L (pF true (Q 1) L f 99) (pA true (Q 1) L f 99 fa))) rfl (Or.inr ⟨_, _, _, (by rw [itS, if_neg hn7, if_neg hn8, if_pos h8, comS, if_neg (by rw [hpb]; decide)]), rfl, (by rw [pA_f hpb])⟩)
    · skip
      refine v_aload_n h pX4_itemHere_0 13 rfl 1 rfl rfl (v_iconst h pX4_itemHere_0 14 rfl ki_0 (v_bipush h pX4_itemHere_0 15 rfl kb_98 (v_bipush h pX4_itemHere_0 16 rfl kb_101 (v_bipush h pX4_itemHere_0 17 rfl kb_100 ?_))))
      refine v_callV h pX4_itemHere_0 18 mX4_223 (As := [.int 0, .int 98, .int 101, .int 100]) (st := []) (kX4_has3 _ _ cI cS b E Kp Bf As Q L f fa hfL hL hLb hT 0 (by decide) 98 101 100) v0B v0C (vEmb_rf _ _) 0 rfl rfl rfl rfl rfl rfl rfl (vDet_k ?_)
      show V K (mW cI b (E, Kp, Bf, As, tkF Q L f fa)) 34 [(1, .int (kdS (Q 1) L f)), (0, .ref (b 0))] [.int (bI (h3 (Q 1) L f 0 98 101 100))]
      refine v_bif_eq (tgt := 42) h pX4_itemHere_0 19 rfl rfl (fun c4 => ?_) (fun c4 => ?_)
      · skip
        have hn8 : ¬ so (Q 1) L f = 7 := of_decide_eq_false ((word_7 hfL).symm.trans (by simp [c2, c4]))
        refine v_aload_n h pX4_itemHere_0 23 rfl 1 rfl rfl (v_bipush h pX4_itemHere_0 24 rfl kb_99 (v_bipush h pX4_itemHere_0 25 rfl kb_111 (v_bipush h pX4_itemHere_0 26 rfl kb_109 (v_bipush h pX4_itemHere_0 27 rfl kb_101 (v_bipush h pX4_itemHere_0 28 rfl kb_115 ?_)))))
        refine v_callV h pX4_itemHere_0 29 mX4_235 (As := [.int 99, .int 111, .int 109, .int 101, .int 115]) (st := []) (kX4_isFive _ _ cI cS b E Kp Bf As Q L f fa hfL hL hLb hT 99 111 109 101 115) v0B v0C (vEmb_rf _ _) 0 rfl rfl rfl rfl rfl rfl rfl (vDet_k ?_)
        show V K (mW cI b (E, Kp, Bf, As, tkF Q L f fa)) 56 [(1, .int (kdS (Q 1) L f)), (0, .ref (b 0))] [.int (bI (w5 (Q 1) L f 99 111 109 101 115))]
        refine v_top (w := .int (bI (decide (so (Q 1) L f = 8)))) (congrArg (fun z => Value.int (bI z)) (word_8 hfL)) ?_
        refine v_bif_eq (tgt := 70) h pX4_itemHere_0 30 rfl rfl (fun c5 => ?_) (fun c5 => ?_)
        · skip
          have h8 := of_decide_eq_false c5
          refine v_aload_n h pX4_itemHere_1 5 rfl 1 rfl rfl ?_
          refine v_callV h pX4_itemHere_1 6 mX4_227 (As := []) (st := []) (kX4_fails _ _ cI cS b E Kp Bf As Q L f fa hfL hL hLb hT) v0B v0C (vEmb_rf _ _) 0 rfl rfl rfl rfl rfl rfl rfl (vDet_k ?_)
          show V K (mW cI b (E, Kp, Bf, As, tkF Q L f (nI f))) 74 [(1, .int (kdS (Q 1) L f)), (0, .ref (b 0))] [.int 0]
          exact v_zret h pX4_itemHere_1 7 (Or.inl rfl) hR hret rfl ((E, Kp, Bf, As, tkF Q L f (nI f))) rfl (Or.inr ⟨_, _, _, (by rw [itS, if_neg hn7, if_neg hn8, if_neg h8]), rfl, (by rfl)⟩)
        · skip
          have h8 := of_decide_eq_true c5
          refine v_aload_n h pX4_itemHere_0 31 rfl 1 rfl rfl (v_iconst h pX4_itemHere_1 0 rfl ki_1 (v_iconst h pX4_itemHere_1 1 rfl ki_3 (v_bipush h pX4_itemHere_1 2 rfl kb_99 ?_)))
          refine v_callV h pX4_itemHere_1 3 mX4_248 (As := [.int 1, .int 3, .int 99]) (st := []) (kX4_perhaps _ _ cI cS b E Kp Bf As Q L f fa hfL hL hLb hT true 3 (by omega) 9 1 rfl rfl 99 (by decide)) v0B v0C (vEmb_rf _ _) 0 rfl rfl rfl rfl rfl rfl rfl (vDet_k ?_)
          show V K (mW cI b (pE true (Q 1) L f 99 E 9 1, Kp, Bf, As, tkF Q L (pF true (Q 1) L f 99) (pA true (Q 1) L f 99 fa))) 67 [(1, .int (kdS (Q 1) L f)), (0, .ref (b 0))] [.int (bI (pB true (Q 1) L f 99))]
          refine v_goto (tgt := 74) h pX4_itemHere_1 4 rfl rfl ?_
          rcases Bool.eq_false_or_eq_true (pB true (Q 1) L f 99) with hpb | hpb
          · skip
            refine v_top (w := .int 1) (by rw [hpb]; rfl) ?_
            exact v_zret h pX4_itemHere_1 7 (Or.inr rfl) hR hret rfl ((pE true (Q 1) L f 99 E 9 1, Kp, Bf, As, tkF Q L (pF true (Q 1) L f 99) (pA true (Q 1) L f 99 fa))) rfl (Or.inl ⟨_, _, _, (by rw [itS, if_neg hn7, if_neg hn8, if_pos h8, comS, if_pos hpb]), rfl, (by rw [pA_t hpb])⟩)
          · skip
            refine v_top (w := .int 0) (by rw [hpb]; rfl) ?_
            exact v_zret h pX4_itemHere_1 7 (Or.inl rfl) hR hret rfl ((pE true (Q 1) L f 99 E 9 1, Kp, Bf, As, tkF Q L (pF true (Q 1) L f 99) (pA true (Q 1) L f 99 fa))) rfl (Or.inr ⟨_, _, _, (by rw [itS, if_neg hn7, if_neg hn8, if_pos h8, comS, if_neg (by rw [hpb]; decide)]), rfl, (by rw [pA_f hpb])⟩)
      · skip
        have hs7 : so (Q 1) L f = 7 := of_decide_eq_true ((word_7 hfL).symm.trans (by simp [c2, c4]))
        refine v_aload_n h pX4_itemHere_0 20 rfl 1 rfl rfl ?_
        refine v_callV h pX4_itemHere_0 21 mX4_258 (As := []) (st := []) (kX4_bedHere _ _ cI cS b E Kp Bf As Q L f fa hfL hL hLb hT n) v0B v0C (vEmb_rf _ _) 0 rfl rfl rfl rfl rfl rfl rfl (fun v6 u6 q6 => ?_)
        rcases q6 with ⟨E1, n1, f1, hr, rfl, rfl⟩ | ⟨p1, E1, f1, hr, rfl, rfl⟩
        · skip
          show V K (mW cI b (E1, Kp, Bf, As, tkF Q L f1 fa)) 41 [(1, .int (kdS (Q 1) L f)), (0, .ref (b 0))] [.int 1]
          exact v_zret h pX4_itemHere_0 22 (Or.inr rfl) hR hret rfl ((E1, Kp, Bf, As, tkF Q L f1 fa)) rfl (Or.inl ⟨_, _, _, (by rw [itS, if_neg hn7, if_pos hs7]; exact hr), rfl, (by rfl)⟩)
        · skip
          show V K (mW cI b (E1, Kp, Bf, As, tkF Q L f1 (nI p1))) 41 [(1, .int (kdS (Q 1) L f)), (0, .ref (b 0))] [.int 0]
          exact v_zret h pX4_itemHere_0 22 (Or.inl rfl) hR hret rfl ((E1, Kp, Bf, As, tkF Q L f1 (nI p1))) rfl (Or.inr ⟨_, _, _, (by rw [itS, if_neg hn7, if_pos hs7]; exact hr), rfl, (by rfl)⟩)
  · skip
    obtain ⟨hs7, hkn⟩ := kd_t c1
    refine v_aload_n h pX4_itemHere_0 5 rfl 1 rfl rfl (v_iload_n h pX4_itemHere_0 6 rfl 0 rfl rfl ?_)
    refine v_callV h pX4_itemHere_0 7 mX4_255 (As := [.int (kdS (Q 1) L f)]) (st := []) (kX4_oysterHere _ _ cI cS b E Kp Bf As Q L f fa hfL hL hLb hT n hW (kdS (Q 1) L f)) v0B v0C (vEmb_rf _ _) 0 rfl rfl rfl rfl rfl rfl rfl (fun v7 u7 q7 => ?_)
    rcases q7 with ⟨E1, n1, f1, hr, rfl, rfl⟩ | ⟨p1, E1, f1, hr, rfl, rfl⟩
    · skip
      show V K (mW cI b (E1, Kp, Bf, As, tkF Q L f1 fa)) 14 [(1, .int (kdS (Q 1) L f)), (0, .ref (b 0))] [.int 1]
      exact v_zret h pX4_itemHere_0 8 (Or.inr rfl) hR hret rfl ((E1, Kp, Bf, As, tkF Q L f1 fa)) rfl (Or.inl ⟨_, _, _, (by rw [itS, if_pos hs7, ← hkn]; exact hr), rfl, (by rfl)⟩)
    · skip
      show V K (mW cI b (E1, Kp, Bf, As, tkF Q L f1 (nI p1))) 14 [(1, .int (kdS (Q 1) L f)), (0, .ref (b 0))] [.int 0]
      exact v_zret h pX4_itemHere_0 8 (Or.inl rfl) hR hret rfl ((E1, Kp, Bf, As, tkF Q L f1 (nI p1))) rfl (Or.inr ⟨_, _, _, (by rw [itS, if_pos hs7, ← hkn]; exact hr), rfl, (by rfl)⟩)
