set_option maxHeartbeats 300000 in
set_option maxRecDepth 100000 in
theorem kX1_isMissing (l : Launch) (D : va_G) (cI cS : ClassId) (a : Nat → Nat) (R : Nat → Nat → Int32)  : vDet l D (vT cI cS) yX1_isMissing cX1_isMissing 1 (some .boolean) 0 0 (shW cI a) [.ref (a 0)] R (some (.int (bI (decide (R 1 0 = 0))))) (R) := by
  refine vMet_of (by decide) rfl ?_
  intro K hl hD hnL hret h hR hEx
  subst hl hD
  show V K (shW cI a R) 0 [(0, .ref (a 0))] []
  refine v_aload_n h pX1_isMissing_0 0 rfl 0 rfl rfl (v_get h pX1_isMissing_0 1 fX1_15 0 rfl rfl rfl ?_)
  refine v_if_ne (tgt := 11) h pX1_isMissing_0 2 rfl rfl (fun c1 => ?_) (fun c1 => ?_)
  · skip
    refine v_iconst h pX1_isMissing_0 5 rfl ki_0 ?_
    exact v_zret h pX1_isMissing_0 6 (Or.inl rfl) hR hret rfl (R) rfl ⟨vI (by simp [bI, c1]), rfl⟩
  · skip
    refine v_iconst h pX1_isMissing_0 3 rfl ki_1 (v_goto (tgt := 12) h pX1_isMissing_0 4 rfl rfl ?_)
    exact v_zret h pX1_isMissing_0 6 (Or.inr rfl) hR hret rfl (R) rfl ⟨vI (by simp [bI, (eq_true c1)]), rfl⟩
set_option maxHeartbeats 300000 in
set_option maxRecDepth 100000 in
theorem kX1_hasNumbers (l : Launch) (D : va_G) (cI cS : ClassId) (a : Nat → Nat) (R : Nat → Nat → Int32) (p c : Int32) : vDet l D (vT cI cS) yX1_hasNumbers cX1_hasNumbers 3 (some .boolean) 0 0 (shW cI a) [.ref (a 0), .int p, .int c] R (some (.int (bI (hasB (R 1 1) p c)))) (R) := by
  refine vMet_of (by decide) rfl ?_
  intro K hl hD hnL hret h hR hEx
  subst hl hD
  show V K (shW cI a R) 0 [(0, .ref (a 0)), (1, .int p), (2, .int c)] []
  refine v_iload_n h pX1_hasNumbers_0 0 rfl 1 rfl rfl ?_
  refine v_if_lt (tgt := 30) h pX1_hasNumbers_0 1 rfl rfl (fun c1 => ?_) (fun c1 => ?_)
  · skip
    refine v_iconst h pX1_hasNumbers_0 16 rfl ki_0 ?_
    exact v_zret h pX1_hasNumbers_0 17 (Or.inl rfl) hR hret rfl (R) rfl ⟨vI (by simp [hasB, bI, c1, -Int32.not_lt]), rfl⟩
  · skip
    refine v_iload_n h pX1_hasNumbers_0 2 rfl 2 rfl rfl ?_
    refine v_if_lt (tgt := 30) h pX1_hasNumbers_0 3 rfl rfl (fun c2 => ?_) (fun c2 => ?_)
    · skip
      refine v_iconst h pX1_hasNumbers_0 16 rfl ki_0 ?_
      exact v_zret h pX1_hasNumbers_0 17 (Or.inl rfl) hR hret rfl (R) rfl ⟨vI (by simp [hasB, bI, c1, c2, -Int32.not_lt]), rfl⟩
    · skip
      refine v_iload_n h pX1_hasNumbers_0 4 rfl 1 rfl rfl (v_aload_n h pX1_hasNumbers_0 5 rfl 0 rfl rfl (v_get h pX1_hasNumbers_0 6 fX1_19 0 rfl rfl rfl ?_))
      refine v_icmp_gt (tgt := 30) h pX1_hasNumbers_0 7 rfl rfl (fun c3 => ?_) (fun c3 => ?_)
      · skip
        refine v_iconst h pX1_hasNumbers_0 16 rfl ki_0 ?_
        exact v_zret h pX1_hasNumbers_0 17 (Or.inl rfl) hR hret rfl (R) rfl ⟨vI (by simp [hasB, bI, c1, c2, c3, -Int32.not_lt]), rfl⟩
      · skip
        refine v_iload_n h pX1_hasNumbers_0 8 rfl 2 rfl rfl (v_aload_n h pX1_hasNumbers_0 9 rfl 0 rfl rfl (v_get h pX1_hasNumbers_0 10 fX1_19 0 rfl rfl rfl (v_iload_n h pX1_hasNumbers_0 11 rfl 1 rfl rfl (v_isub h pX1_hasNumbers_0 12 rfl ?_))))
        refine v_icmp_gt (tgt := 30) h pX1_hasNumbers_0 13 rfl rfl (fun c4 => ?_) (fun c4 => ?_)
        · skip
          refine v_iconst h pX1_hasNumbers_0 16 rfl ki_0 ?_
          exact v_zret h pX1_hasNumbers_0 17 (Or.inl rfl) hR hret rfl (R) rfl ⟨vI (by simp [hasB, bI, c1, c2, c3, c4, -Int32.not_lt]), rfl⟩
        · skip
          refine v_iconst h pX1_hasNumbers_0 14 rfl ki_1 (v_goto (tgt := 31) h pX1_hasNumbers_0 15 rfl rfl ?_)
          exact v_zret h pX1_hasNumbers_0 17 (Or.inr rfl) hR hret rfl (R) rfl ⟨vI (by simp [hasB, bI, c1, c2, c3, c4, -Int32.not_lt]), rfl⟩
set_option maxHeartbeats 300000 in
set_option maxRecDepth 100000 in
theorem kX1_put (l : Launch) (D : va_G) (cI cS : ClassId) (a : Nat → Nat) (R : Nat → Nat → Int32) (i : Nat) (hi : i < 40) (v : Int32) : vDet l D (vT cI cS) yX1_put cX1_put 3 none 0 0 (shW cI a) [.ref (a 0), .int (nI i), .int v] R (none) (up R 0 i (cutS (R 1 0) v)) := by
  refine vMet_of (by decide) rfl ?_
  intro K hl hD hnL hret h hR hEx
  subst hl hD
  show V K (shW cI a R) 0 [(0, .ref (a 0)), (1, .int (nI i)), (2, .int v)] []
  refine v_aload_n h pX1_put_0 0 rfl 0 rfl rfl (v_get h pX1_put_0 1 fX1_15 0 rfl rfl rfl ?_)
  by_cases c1 : R 1 0 = 8
  · skip
    refine v_lookup (off := 28) (tgt := 32) h pX1_put_0 2 rfl rfl (by rw [c1]; rfl) rfl (v_aload_n h pX1_put_0 3 rfl 0 rfl rfl (v_get h pX1_put_0 4 fX1_9 0 rfl rfl rfl (v_iload_n h pX1_put_0 5 rfl 1 rfl rfl (v_iload_n h pX1_put_0 6 rfl 2 rfl rfl (v_i2b h pX1_put_0 7 rfl ?_)))))
    refine v_iast h pX1_put_0 8 i 1 0 (ws' := shW cI a (up R 0 i v.toInt8.toInt32)) rfl rfl rfl rfl rfl (by omega) shW_s0 (v_goto (tgt := 61) h pX1_put_0 9 rfl rfl ?_)
    exact v_vret h pX1_put_0 22 hR hret rfl (up R 0 i v.toInt8.toInt32) rfl ⟨rfl, (by simp [cutS, c1])⟩
  by_cases c2 : R 1 0 = 16
  · skip
    refine v_lookup (off := 39) (tgt := 43) h pX1_put_0 2 rfl rfl (by rw [c2]; rfl) rfl (v_aload_n h pX1_put_0 10 rfl 0 rfl rfl (v_get h pX1_put_0 11 fX1_9 0 rfl rfl rfl (v_iload_n h pX1_put_0 12 rfl 1 rfl rfl (v_iload_n h pX1_put_0 13 rfl 2 rfl rfl (v_i2s h pX1_put_0 14 rfl ?_)))))
    refine v_iast h pX1_put_0 15 i 1 0 (ws' := shW cI a (up R 0 i v.toInt16.toInt32)) rfl rfl rfl rfl rfl (by omega) shW_s0 (v_goto (tgt := 61) h pX1_put_0 16 rfl rfl ?_)
    exact v_vret h pX1_put_0 22 hR hret rfl (up R 0 i v.toInt16.toInt32) rfl ⟨rfl, (by simp [cutS, c1, c2])⟩
  refine v_lookup (off := 50) (tgt := 54) h pX1_put_0 2 rfl rfl (lk_2 (by decide) (by decide) c1 c2) rfl (v_aload_n h pX1_put_0 17 rfl 0 rfl rfl (v_get h pX1_put_0 18 fX1_9 0 rfl rfl rfl (v_iload_n h pX1_put_0 19 rfl 1 rfl rfl (v_iload_n h pX1_put_0 20 rfl 2 rfl rfl (v_iast h pX1_put_0 21 i 1 0 (ws' := shW cI a (up R 0 i v)) rfl rfl rfl rfl rfl (by omega) shW_s0 ?_)))))
  exact v_vret h pX1_put_0 22 hR hret rfl (up R 0 i v) rfl ⟨rfl, (by simp [cutS, c1, c2])⟩
set_option maxHeartbeats 300000 in
set_option maxRecDepth 100000 in
theorem kX1_become (l : Launch) (D : va_G) (cI cS : ClassId) (a : Nat → Nat) (R : Nat → Nat → Int32) (bits sz : Int32) : vDet l D (vT cI cS) yX1_become cX1_become 4 none 0 0 (shW cI a) [.ref (a 0), .int bits, .int sz] R (none) (becR R bits sz) := by
  refine vMet_of (by decide) rfl ?_
  intro K hl hD hnL hret h hR hEx
  subst hl hD
  show V K (shW cI a R) 0 [(0, .ref (a 0)), (1, .int bits), (2, .int sz)] []
  refine v_aload_n h pX1_become_0 0 rfl 0 rfl rfl (v_iload_n h pX1_become_0 1 rfl 1 rfl rfl (v_puti h pX1_become_0 2 gX1_15 0 (ws' := shW cI a (up R 1 0 bits)) rfl rfl rfl shW_p0 (v_aload_n h pX1_become_0 3 rfl 0 rfl rfl (v_iload_n h pX1_become_0 4 rfl 1 rfl rfl ?_))))
  refine v_if_ne (tgt := 14) h pX1_become_0 5 rfl rfl (fun c1 => ?_) (fun c1 => ?_)
  · skip
    refine v_iload_n h pX1_become_0 8 rfl 2 rfl rfl (v_puti h pX1_become_0 9 gX1_19 0 (ws' := shW cI a (up (up R 1 0 bits) 1 1 sz)) rfl rfl rfl shW_p1 ?_)
    refine v_iconst h pX1_become_0 10 rfl ki_0 (v_istore_n h pX1_become_0 11 (lv' := [(3, .int 0), (0, .ref (a 0)), (1, .int bits), (2, .int sz)]) rfl rfl hnL rfl rfl ?_)
    refine v_lv [1, 2, 3, 0] (lv' := [(0, .ref (a 0)), (1, .int bits), (2, .int sz), (3, .int 0)]) rfl ?_
    have L2 : ∀ (m i2 : Nat), i2 ≤ 40 → 40 + 1 ≤ i2 + m → V K (shW cI a (zR (up (up R 1 0 bits) 1 1 sz) i2)) 20 [(0, .ref (a 0)), (1, .int bits), (2, .int sz), (3, .int (nI i2))] [] := by
      intro m
      induction m with
      | zero => exact fun i2 h1 h2 => absurd h2 (by omega)
      | succ m ih2 =>
        intro i2 hle2 hlt2
        generalize hS3 : zR (up (up R 1 0 bits) 1 1 sz) i2 = S3
        refine v_iload_n h pX1_become_0 12 rfl 3 rfl rfl (v_bipush h pX1_become_0 13 rfl kb_40 ?_)
        refine v_ncmp_ge (a := i2) (b := 40) (tgt := 39) h pX1_become_0 14 rfl rfl (by omega) (by omega) (fun c4 => ?_) (fun c4 => ?_)
        · skip
          obtain rfl : 40 = i2 := by omega
          exact v_vret h pX1_become_0 22 hR hret rfl (S3) rfl ⟨rfl, (by subst hS3; simp [becR, c1, c4])⟩
        · skip
          refine v_aload_n h pX1_become_0 15 rfl 0 rfl rfl (v_get h pX1_become_0 16 fX1_9 0 rfl rfl rfl (v_iload_n h pX1_become_0 17 rfl 3 rfl rfl (v_iconst h pX1_become_0 18 rfl ki_0 (v_iast h pX1_become_0 19 i2 1 0 (ws' := shW cI a (up S3 0 i2 0)) rfl rfl rfl rfl rfl (by omega) shW_s0 (v_iinc h pX1_become_0 20 (v := nI (i2 + 1)) (lv' := [(3, .int (nI (i2 + 1))), (0, .ref (a 0)), (1, .int bits), (2, .int sz)]) rfl 3 rfl hnL rfl rfl (nI_1 i2) ?_)))))
          refine v_goto (tgt := 20) h pX1_become_0 21 rfl rfl (v_lv [1, 2, 3, 0] (lv' := [(0, .ref (a 0)), (1, .int bits), (2, .int sz), (3, .int (nI (i2 + 1)))]) rfl (v_eqw (ws' := shW cI a (zR (up (up R 1 0 bits) 1 1 sz) (i2 + 1))) (by rw [zR, hS3]) ?_))
          exact ih2 (i2 + 1) (by omega) (by omega)
    exact L2 (40 + 1) 0 (by omega) (by omega)
  · skip
    refine v_iconst h pX1_become_0 6 rfl ki_0 (v_goto (tgt := 15) h pX1_become_0 7 rfl rfl (v_puti h pX1_become_0 9 gX1_19 0 (ws' := shW cI a (up (up R 1 0 bits) 1 1 0)) rfl rfl rfl shW_p1 ?_))
    refine v_iconst h pX1_become_0 10 rfl ki_0 (v_istore_n h pX1_become_0 11 (lv' := [(3, .int 0), (0, .ref (a 0)), (1, .int bits), (2, .int sz)]) rfl rfl hnL rfl rfl ?_)
    refine v_lv [1, 2, 3, 0] (lv' := [(0, .ref (a 0)), (1, .int bits), (2, .int sz), (3, .int 0)]) rfl ?_
    have L5 : ∀ (m i5 : Nat), i5 ≤ 40 → 40 + 1 ≤ i5 + m → V K (shW cI a (zR (up (up R 1 0 bits) 1 1 0) i5)) 20 [(0, .ref (a 0)), (1, .int bits), (2, .int sz), (3, .int (nI i5))] [] := by
      intro m
      induction m with
      | zero => exact fun i5 h1 h2 => absurd h2 (by omega)
      | succ m ih5 =>
        intro i5 hle5 hlt5
        generalize hS6 : zR (up (up R 1 0 bits) 1 1 0) i5 = S6
        refine v_iload_n h pX1_become_0 12 rfl 3 rfl rfl (v_bipush h pX1_become_0 13 rfl kb_40 ?_)
        refine v_ncmp_ge (a := i5) (b := 40) (tgt := 39) h pX1_become_0 14 rfl rfl (by omega) (by omega) (fun c7 => ?_) (fun c7 => ?_)
        · skip
          obtain rfl : 40 = i5 := by omega
          exact v_vret h pX1_become_0 22 hR hret rfl (S6) rfl ⟨rfl, (by subst hS6; simp [becR, c1, c7])⟩
        · skip
          refine v_aload_n h pX1_become_0 15 rfl 0 rfl rfl (v_get h pX1_become_0 16 fX1_9 0 rfl rfl rfl (v_iload_n h pX1_become_0 17 rfl 3 rfl rfl (v_iconst h pX1_become_0 18 rfl ki_0 (v_iast h pX1_become_0 19 i5 1 0 (ws' := shW cI a (up S6 0 i5 0)) rfl rfl rfl rfl rfl (by omega) shW_s0 (v_iinc h pX1_become_0 20 (v := nI (i5 + 1)) (lv' := [(3, .int (nI (i5 + 1))), (0, .ref (a 0)), (1, .int bits), (2, .int sz)]) rfl 3 rfl hnL rfl rfl (nI_1 i5) ?_)))))
          refine v_goto (tgt := 20) h pX1_become_0 21 rfl rfl (v_lv [1, 2, 3, 0] (lv' := [(0, .ref (a 0)), (1, .int bits), (2, .int sz), (3, .int (nI (i5 + 1)))]) rfl (v_eqw (ws' := shW cI a (zR (up (up R 1 0 bits) 1 1 0) (i5 + 1))) (by rw [zR, hS6]) ?_))
          exact ih5 (i5 + 1) (by omega) (by omega)
    exact L5 (40 + 1) 0 (by omega) (by omega)
