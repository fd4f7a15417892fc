set_option maxHeartbeats 300000 in
set_option maxRecDepth 100000 in
theorem kX2_passIf (l : Launch) (D : va_G) (cI cS : ClassId) (a : Nat → Nat) (P : Nat → Nat → Int32) (L N k c : Nat) (v : Int32) (hNe : St (P 0) L N = L) (hNL : N ≤ L) (hLb : L ≤ 120) (hk : k ≤ N) (hc : c < 16) : vDet l D (vT cI cS) yX2_passIf cX2_passIf 2 (some .boolean) 0 0 (tW cI a) [.ref (a 0), .int (nI c)] (tpS P L N k v) (some (.int (bI (decide (so (P 0) L (St (P 0) L k) = c))))) (tpS P L N (pfK (P 0) L k c) v) := by
  refine vMet_of (by decide) rfl ?_
  intro K hl hD hnL hret h hR hEx
  subst hl hD
  show V K (tW cI a (tpS P L N k v)) 0 [(0, .ref (a 0)), (1, .int (nI c))] []
  refine v_aload_n h pX2_passIf_0 0 rfl 0 rfl rfl (v_get h pX2_passIf_0 1 fX2_31 0 rfl rfl rfl (v_top (w := .int (nI k)) rfl (v_aload_n h pX2_passIf_0 2 rfl 0 rfl rfl (v_get h pX2_passIf_0 3 fX2_28 0 rfl rfl rfl (v_top (w := .int (nI N)) rfl ?_)))))
  refine v_ncmp_ge (a := k) (b := N) (tgt := 24) h pX2_passIf_0 4 rfl rfl (by omega) (by omega) (fun c1 => ?_) (fun c1 => ?_)
  · skip
    refine v_iconst h pX2_passIf_0 12 rfl ki_0 ?_
    exact v_zret h pX2_passIf_0 13 (Or.inl rfl) hR hret rfl (tpS P L N k v) rfl ⟨vI (by first | exact pf_1 (by assumption) | exact pf_0 (by assumption) | exact pf_0 (pf_N hNe hk (by omega) hc)), (by first | exact congrArg (fun z => tpS P L N z v) (pfK_t (by assumption)).symm | exact congrArg (fun z => tpS P L N z v) (pfK_f (by assumption)).symm | exact congrArg (fun z => tpS P L N z v) (pfK_f (pf_N hNe hk (by omega) hc)).symm)⟩
  · skip
    refine v_aload_n h pX2_passIf_0 5 rfl 0 rfl rfl (v_get h pX2_passIf_0 6 fX2_15 0 rfl rfl rfl (v_aload_n h pX2_passIf_0 7 rfl 0 rfl rfl (v_get h pX2_passIf_0 8 fX2_31 0 rfl rfl rfl (v_top (w := .int (nI k)) rfl (v_iald h pX2_passIf_0 9 k 2 0 rfl rfl rfl rfl rfl (by omega) ?_)))))
    refine v_top (w := .int (nI (so (P 0) L (St (P 0) L k)))) (congrArg Value.int (tp_1 (k := k) (v := v) (by omega))) ?_
    have hs17 := so_le (P 0) L (St (P 0) L k)
    refine v_iload_n h pX2_passIf_0 10 rfl 1 rfl rfl ?_
    refine v_ncmp_eq (a := so (P 0) L (St (P 0) L k)) (b := c) (tgt := 26) h pX2_passIf_0 11 rfl rfl (by omega) (by omega) (fun c2 => ?_) (fun c2 => ?_)
    · skip
      refine v_aload_n h pX2_passIf_0 14 rfl 0 rfl rfl (v_dup h pX2_passIf_0 15 rfl rfl (v_get h pX2_passIf_0 16 fX2_31 0 rfl rfl rfl (v_top (w := .int (nI k)) rfl (v_iconst h pX2_passIf_0 17 rfl ki_1 (v_iaddn h pX2_passIf_0 18 k 1 rfl ?_)))))
      refine v_puti h pX2_passIf_0 19 gX2_31 0 (ws' := tW cI a (tpS P L N (k + 1) v)) rfl rfl rfl tW_t2 (v_iconst h pX2_passIf_0 20 rfl ki_1 ?_)
      exact v_zret h pX2_passIf_0 21 (Or.inr rfl) hR hret rfl (tpS P L N (k + 1) v) rfl ⟨vI (by first | exact pf_1 (by assumption) | exact pf_0 (by assumption) | exact pf_0 (pf_N hNe hk (by omega) hc)), (by first | exact congrArg (fun z => tpS P L N z v) (pfK_t (by assumption)).symm | exact congrArg (fun z => tpS P L N z v) (pfK_f (by assumption)).symm | exact congrArg (fun z => tpS P L N z v) (pfK_f (pf_N hNe hk (by omega) hc)).symm)⟩
    · skip
      refine v_iconst h pX2_passIf_0 12 rfl ki_0 ?_
      exact v_zret h pX2_passIf_0 13 (Or.inl rfl) hR hret rfl (tpS P L N k v) rfl ⟨vI (by first | exact pf_1 (by assumption) | exact pf_0 (by assumption) | exact pf_0 (pf_N hNe hk (by omega) hc)), (by first | exact congrArg (fun z => tpS P L N z v) (pfK_t (by assumption)).symm | exact congrArg (fun z => tpS P L N z v) (pfK_f (by assumption)).symm | exact congrArg (fun z => tpS P L N z v) (pfK_f (pf_N hNe hk (by omega) hc)).symm)⟩
set_option maxHeartbeats 300000 in
set_option maxRecDepth 100000 in
theorem kX2_readNumber (l : Launch) (D : va_G) (cI cS : ClassId) (a : Nat → Nat) (P : Nat → Nat → Int32) (L N k m : Nat) (v : Int32) (hNe : St (P 0) L N = L) (hNL : N ≤ L) (hLb : L ≤ 120) (hk : k ≤ N) (hm : m < 1000) : vDet l D (vT cI cS) yX2_readNumber cX2_readNumber 2 (some .boolean) 1 21 (tW cI a) [.ref (a 0), .int (nI m)] (tpS P L N k v) (some (.int (bI (nmOK (P 0) L (St (P 0) L k) m)))) (tpS P L N (rnK (P 0) L k m) (nvC (P 0) L (St (P 0) L k))) := by
  refine vMet_of (by decide) rfl ?_
  intro K hl hD hnL hret h hR hEx
  subst hl hD
  show V K (tW cI a (tpS P L N k v)) 0 [(0, .ref (a 0)), (1, .int (nI m))] []
  refine v_aload_n h pX2_readNumber_0 0 rfl 0 rfl rfl (v_aload_n h pX2_readNumber_0 1 rfl 0 rfl rfl (v_get h pX2_readNumber_0 2 fX2_21 0 rfl rfl rfl (v_aload_n h pX2_readNumber_0 3 rfl 0 rfl rfl (v_get h pX2_readNumber_0 4 fX2_31 0 rfl rfl rfl (v_top (w := .int (nI k)) rfl ?_)))))
  refine v_iald h pX2_readNumber_0 5 k 4 0 rfl rfl rfl rfl rfl (by omega) (v_top (w := .int (nvC (P 0) L (St (P 0) L k))) (congrArg Value.int (tp_3 (k := k) (v := v) (by omega))) (v_puti h pX2_readNumber_0 6 gX2_34 0 (ws' := tW cI a (tpS P L N k (nvC (P 0) L (St (P 0) L k)))) rfl rfl rfl tW_t3 (v_aload_n h pX2_readNumber_0 7 rfl 0 rfl rfl (v_get h pX2_readNumber_0 8 fX2_34 0 rfl rfl rfl (v_top (w := .int (nvC (P 0) L (St (P 0) L k))) rfl ?_)))))
  refine v_iload_n h pX2_readNumber_0 9 rfl 1 rfl rfl ?_
  refine v_icmp_gt (tgt := 34) h pX2_readNumber_0 10 rfl rfl (fun c1 => ?_) (fun c1 => ?_)
  · skip
    refine v_iconst h pX2_readNumber_0 17 rfl ki_0 ?_
    exact v_zret h pX2_readNumber_0 18 (Or.inl rfl) hR hret rfl (tpS P L N k (nvC (P 0) L (St (P 0) L k))) rfl ⟨vI (by rw [nm_c hm]; simp [bI, c1, -Int32.not_lt]), (by unfold rnK; rw [nm_c hm]; simp [c1, -Int32.not_lt])⟩
  · skip
    refine v_aload_n h pX2_readNumber_0 11 rfl 0 rfl rfl (v_bipush h pX2_readNumber_0 12 rfl kb_14 ?_)
    refine v_callV h pX2_readNumber_0 13 mX2_44 (As := [.int 14]) (st := []) (kX2_passIf _ _ cI cS a P L N k 14 (nvC (P 0) L (St (P 0) L k)) hNe hNL hLb (by omega) (by omega)) v0B v0C (vEmb_rf _ _) 0 rfl rfl rfl rfl rfl rfl rfl (vDet_k ?_)
    show V K (tW cI a (tpS P L N (pfK (P 0) L k 14) (nvC (P 0) L (St (P 0) L k)))) 27 [(0, .ref (a 0)), (1, .int (nI m))] [.int (bI (decide (so (P 0) L (St (P 0) L k) = 14)))]
    refine v_bif_eq (tgt := 34) h pX2_readNumber_0 14 rfl rfl (fun c2 => ?_) (fun c2 => ?_)
    · skip
      have hps14 := of_decide_eq_false c2
      refine v_eqw (ws' := tW cI a (tpS P L N k (nvC (P 0) L (St (P 0) L k)))) (by rw [pfK_f hps14]) ?_
      refine v_iconst h pX2_readNumber_0 17 rfl ki_0 ?_
      exact v_zret h pX2_readNumber_0 18 (Or.inl rfl) hR hret rfl (tpS P L N k (nvC (P 0) L (St (P 0) L k))) rfl ⟨vI (by rw [nm_c hm]; simp [bI, c1, c2, -Int32.not_lt]), (by unfold rnK; rw [nm_c hm]; simp [c1, c2, -Int32.not_lt])⟩
    · skip
      have hps14 := of_decide_eq_true c2
      refine v_eqw (ws' := tW cI a (tpS P L N (k + 1) (nvC (P 0) L (St (P 0) L k)))) (by rw [pfK_t hps14]) ?_
      have hkNc2 := so_N hNe (k := k) (by omega) (by omega)
      refine v_iconst h pX2_readNumber_0 15 rfl ki_1 (v_goto (tgt := 35) h pX2_readNumber_0 16 rfl rfl ?_)
      exact v_zret h pX2_readNumber_0 18 (Or.inr rfl) hR hret rfl (tpS P L N (k + 1) (nvC (P 0) L (St (P 0) L k))) rfl ⟨vI (by rw [nm_c hm]; simp [bI, c1, c2, -Int32.not_lt]), (by unfold rnK; rw [nm_c hm]; simp [c1, c2, -Int32.not_lt])⟩
set_option maxHeartbeats 300000 in
set_option maxRecDepth 100000 in
theorem kX2_readAfter (l : Launch) (D : va_G) (cI cS : ClassId) (a : Nat → Nat) (P : Nat → Nat → Int32) (L N k c m : Nat) (v w0 : Int32) (hNe : St (P 0) L N = L) (hNL : N ≤ L) (hLb : L ≤ 120) (hk : k ≤ N) (hc : c < 16) (hm : m < 1000) : vDet l D (vT cI cS) yX2_readAfter cX2_readAfter 4 (some .boolean) 2 42 (tW cI a) [.ref (a 0), .int (nI c), .int (nI m), .int w0] (tpS P L N k v) (some (.int (bI (pB (decide (so (P 0) L (St (P 0) L k) = c)) (P 0) L (St (P 0) L k) m)))) (tpS P L N (raK (P 0) L k c m) (raV (P 0) L k c w0)) := by
  refine vMet_of (by decide) rfl ?_
  intro K hl hD hnL hret h hR hEx
  subst hl hD
  show V K (tW cI a (tpS P L N k v)) 0 [(0, .ref (a 0)), (1, .int (nI c)), (2, .int (nI m)), (3, .int w0)] []
  refine v_aload_n h pX2_readAfter_0 0 rfl 0 rfl rfl (v_iload_n h pX2_readAfter_0 1 rfl 3 rfl rfl (v_puti h pX2_readAfter_0 2 gX2_34 0 (ws' := tW cI a (tpS P L N k w0)) rfl rfl rfl tW_t3 (v_aload_n h pX2_readAfter_0 3 rfl 0 rfl rfl (v_iload_n h pX2_readAfter_0 4 rfl 1 rfl rfl ?_))))
  refine v_callV h pX2_readAfter_0 5 mX2_44 (As := [.int (nI c)]) (st := []) (kX2_passIf _ _ cI cS a P L N k c w0 hNe hNL hLb (by omega) (by omega)) v0B v0C (vEmb_rf _ _) 0 rfl rfl rfl rfl rfl rfl rfl (vDet_k ?_)
  show V K (tW cI a (tpS P L N (pfK (P 0) L k c) w0)) 10 [(0, .ref (a 0)), (1, .int (nI c)), (2, .int (nI m)), (3, .int w0)] [.int (bI (decide (so (P 0) L (St (P 0) L k) = c)))]
  refine v_bif_eq (tgt := 21) h pX2_readAfter_0 6 rfl rfl (fun c1 => ?_) (fun c1 => ?_)
  · skip
    have hps := of_decide_eq_false c1
    refine v_eqw (ws' := tW cI a (tpS P L N k w0)) (by rw [pfK_f hps]) ?_
    refine v_iconst h pX2_readAfter_0 11 rfl ki_1 (v_goto (tgt := 26) h pX2_readAfter_0 12 rfl rfl ?_)
    exact v_zret h pX2_readAfter_0 14 (Or.inr rfl) hR hret rfl (tpS P L N k w0) rfl ⟨vI (by first | (rw [ra_b0 hps]; rfl) | (rw [ra_b1 hps]; simp [bI, c1])), (by first | (rw [raK_f hps, raV_f hps]) | (rw [raK_t hps, raV_t hps]))⟩
  · skip
    have hps := of_decide_eq_true c1
    refine v_eqw (ws' := tW cI a (tpS P L N (k + 1) w0)) (by rw [pfK_t hps]) ?_
    have hkNc1 := so_N hNe (k := k) (by omega) (by omega)
    refine v_aload_n h pX2_readAfter_0 7 rfl 0 rfl rfl (v_iload_n h pX2_readAfter_0 8 rfl 2 rfl rfl ?_)
    refine v_callV h pX2_readAfter_0 9 mX2_81 (As := [.int (nI m)]) (st := []) (kX2_readNumber _ _ cI cS a P L N (k + 1) m w0 hNe hNL hLb (by omega) (by omega)) v0B v0C (vEmb_rf _ _) 0 rfl rfl rfl rfl rfl rfl rfl (vDet_k ?_)
    show V K (tW cI a (tpS P L N (rnK (P 0) L (k + 1) m) (nvC (P 0) L (St (P 0) L (k + 1))))) 18 [(0, .ref (a 0)), (1, .int (nI c)), (2, .int (nI m)), (3, .int w0)] [.int (bI (nmOK (P 0) L (St (P 0) L (k + 1)) m))]
    refine v_bif_eq (tgt := 25) h pX2_readAfter_0 10 rfl rfl (fun c2 => ?_) (fun c2 => ?_)
    · skip
      refine v_iconst h pX2_readAfter_0 13 rfl ki_0 ?_
      exact v_zret h pX2_readAfter_0 14 (Or.inl rfl) hR hret rfl (tpS P L N (rnK (P 0) L (k + 1) m) (nvC (P 0) L (St (P 0) L (k + 1)))) rfl ⟨vI (by first | (rw [ra_b0 hps]; rfl) | (rw [ra_b1 hps]; simp [bI, c1, c2])), (by first | (rw [raK_f hps, raV_f hps]) | (rw [raK_t hps, raV_t hps]))⟩
    · skip
      refine v_iconst h pX2_readAfter_0 11 rfl ki_1 (v_goto (tgt := 26) h pX2_readAfter_0 12 rfl rfl ?_)
      exact v_zret h pX2_readAfter_0 14 (Or.inr rfl) hR hret rfl (tpS P L N (rnK (P 0) L (k + 1) m) (nvC (P 0) L (St (P 0) L (k + 1)))) rfl ⟨vI (by first | (rw [ra_b0 hps]; rfl) | (rw [ra_b1 hps]; simp [bI, c1, c2])), (by first | (rw [raK_f hps, raV_f hps]) | (rw [raK_t hps, raV_t hps]))⟩
set_option maxHeartbeats 300000 in
set_option maxRecDepth 100000 in
theorem kX2_addToken (l : Launch) (D : va_G) (cI cS : ClassId) (a : Nat → Nat) (x : xS) (P : Nat → Nat → Int32) (L k p : Nat) (hL : P 4 0 = nI L) (hLb : L ≤ 120) (hk : k ≤ p) (hp : p < L) (hSp : St (P 0) L k = p) : vMet l D (vT cI cS) yX2_addToken cX2_addToken 3 none 6 132 (tW cI a) (exA x) [.ref (a 0), .int (nI p), .int (nI (en (P 0) L p))] (splP P L k) (fun v u => v = none ∧ u = splP P L (k + 1)) := by
  refine vMet_of (by decide) rfl ?_
  intro K hl hD hnL hret h hR hEx
  subst hl hD
  show V K (tW cI a (splP P L k)) 0 [(0, .ref (a 0)), (1, .int (nI p)), (2, .int (nI (en (P 0) L p)))] []
  refine v_aload_n h pX2_addToken_0 0 rfl 0 rfl rfl (v_get h pX2_addToken_0 1 fX2_18 0 rfl rfl rfl (v_aload_n h pX2_addToken_0 2 rfl 0 rfl rfl (v_get h pX2_addToken_0 3 fX2_28 0 rfl rfl rfl (v_top (w := .int (nI k)) rfl (v_iload_n h pX2_addToken_0 4 rfl 1 rfl rfl ?_)))))
  refine v_iast h pX2_addToken_0 5 k 3 0 (ws' := tW cI a (up (splP P L k) 2 k (nI p))) rfl rfl rfl rfl rfl (by omega) tW_s2 (v_aload_n h pX2_addToken_0 6 rfl 0 rfl rfl (v_get h pX2_addToken_0 7 fX2_15 0 rfl rfl rfl (v_aload_n h pX2_addToken_0 8 rfl 0 rfl rfl (v_get h pX2_addToken_0 9 fX2_28 0 rfl rfl rfl (v_top (w := .int (nI k)) rfl ?_)))))
  refine v_aload_n h pX2_addToken_0 10 rfl 0 rfl rfl (v_iload_n h pX2_addToken_0 11 rfl 1 rfl rfl (v_iload_n h pX2_addToken_0 12 rfl 2 rfl rfl ?_))
  refine v_callV h pX2_addToken_0 13 mX2_104 (As := [.int (nI p), .int (nI (en (P 0) L p))]) (st := [.int (nI k), .ref (a 2)]) (kX2_sortOf _ _ cI cS a x (up (splP P L k) 2 k (nI p)) p L (by omega) hLb) (exA_B _) (exA_C hEx.2) (vEmb_rf _ _) 0 rfl rfl rfl rfl rfl rfl rfl (vDet_k ?_)
  show V K (tW cI a (up (splP P L k) 2 k (nI p))) 24 [(0, .ref (a 0)), (1, .int (nI p)), (2, .int (nI (en (P 0) L p)))] [.int (nI (so (P 0) L p)), .int (nI k), .ref (a 2)]
  refine v_iast h pX2_addToken_0 14 k 2 0 (ws' := tW cI a (up (up (splP P L k) 2 k (nI p)) 1 k (nI (so (P 0) L p)))) rfl rfl rfl rfl rfl (by omega) tW_s1 (v_aload_n h pX2_addToken_0 15 rfl 0 rfl rfl (v_get h pX2_addToken_0 16 fX2_21 0 rfl rfl rfl (v_aload_n h pX2_addToken_0 17 rfl 0 rfl rfl (v_get h pX2_addToken_0 18 fX2_28 0 rfl rfl rfl (v_top (w := .int (nI k)) rfl ?_)))))
  refine v_aload_n h pX2_addToken_0 19 rfl 0 rfl rfl (v_iload_n h pX2_addToken_0 20 rfl 1 rfl rfl (v_iload_n h pX2_addToken_0 21 rfl 2 rfl rfl ?_))
  refine v_callV h pX2_addToken_0 22 mX2_107 (As := [.int (nI p), .int (nI (en (P 0) L p))]) (st := [.int (nI k), .ref (a 4)]) (kX2_numberOf _ _ cI cS a (up (up (splP P L k) 2 k (nI p)) 1 k (nI (so (P 0) L p))) p L (by omega) hLb) v0B v0C (vEmb_rf _ _) 0 rfl rfl rfl rfl rfl rfl rfl (vDet_k ?_)
  show V K (tW cI a (up (up (splP P L k) 2 k (nI p)) 1 k (nI (so (P 0) L p)))) 39 [(0, .ref (a 0)), (1, .int (nI p)), (2, .int (nI (en (P 0) L p)))] [.int (nvC (P 0) L p), .int (nI k), .ref (a 4)]
  refine v_iast h pX2_addToken_0 23 k 4 0 (ws' := tW cI a (up (up (up (splP P L k) 2 k (nI p)) 1 k (nI (so (P 0) L p))) 3 k (nvC (P 0) L p))) rfl rfl rfl rfl rfl (by omega) tW_s3 (v_aload_n h pX2_addToken_0 24 rfl 0 rfl rfl (v_dup h pX2_addToken_0 25 rfl rfl (v_get h pX2_addToken_0 26 fX2_28 0 rfl rfl rfl (v_top (w := .int (nI k)) rfl (v_iconst h pX2_addToken_0 27 rfl ki_1 ?_)))))
  refine v_iaddn h pX2_addToken_0 28 k 1 rfl (v_puti h pX2_addToken_0 29 gX2_28 0 (ws' := tW cI a (up (up (up (up (splP P L k) 2 k (nI p)) 1 k (nI (so (P 0) L p))) 3 k (nvC (P 0) L p)) 4 1 (nI (k + 1)))) rfl rfl rfl tW_p1 ?_)
  exact v_vret h pX2_addToken_0 30 hR hret rfl (up (up (up (up (splP P L k) 2 k (nI p)) 1 k (nI (so (P 0) L p))) 3 k (nvC (P 0) L p)) 4 1 (nI (k + 1))) rfl ⟨rfl, (by exact spl_s P L k p hSp)⟩
set_option maxHeartbeats 300000 in
set_option maxRecDepth 100000 in
theorem kX2_splitIntoTokens (l : Launch) (D : va_G) (cI cS : ClassId) (a : Nat → Nat) (x : xS) (P : Nat → Nat → Int32) (L : Nat) (hL : P 4 0 = nI L) (hLb : L ≤ 120) : vMet l D (vT cI cS) yX2_splitIntoTokens cX2_splitIntoTokens 2 none 7 154 (tW cI a) (exA x) [.ref (a 0)] P (splQ P L) := by
  refine vMet_of (by decide) rfl ?_
  intro K hl hD hnL hret h hR hEx
  subst hl hD
  show V K (tW cI a P) 0 [(0, .ref (a 0))] []
  refine v_aload_n h pX2_splitIntoTokens_0 0 rfl 0 rfl rfl (v_iconst h pX2_splitIntoTokens_0 1 rfl ki_0 (v_puti h pX2_splitIntoTokens_0 2 gX2_31 0 (ws' := tW cI a (up P 4 2 0)) rfl rfl rfl tW_p2 (v_aload_n h pX2_splitIntoTokens_0 3 rfl 0 rfl rfl (v_iconst h pX2_splitIntoTokens_0 4 rfl ki_0 (v_puti h pX2_splitIntoTokens_0 5 gX2_28 0 (ws' := tW cI a (up (up P 4 2 0) 4 1 0)) rfl rfl rfl tW_p1 ?_)))))
  refine v_eqw (ws' := tW cI a (splP P L 0)) (by rw [spl_0]) ?_
  refine v_iconst h pX2_splitIntoTokens_0 6 rfl ki_0 (v_istore_n h pX2_splitIntoTokens_0 7 (lv' := [(1, .int 0), (0, .ref (a 0))]) rfl rfl hnL rfl rfl ?_)
  refine v_lv [1, 0] (lv' := [(0, .ref (a 0)), (1, .int 0)]) rfl ?_
  have LA : ∀ (m p k : Nat), p ≤ L → L + 1 ≤ p + m → k ≤ p → (∀ j, j < k → St (P 0) L j < L) → ns (P 0) L p = St (P 0) L k → V K (tW cI a (splP P L k)) 12 [(0, .ref (a 0)), (1, .int (nI p))] [] := by
    intro m
    induction m with
    | zero => exact fun p k h1 h2 => absurd h2 (by omega)
    | succ m ihA =>
      intro p k h1 h2 hkp hSt hsk
      refine v_iload_n h pX2_splitIntoTokens_0 8 rfl 1 rfl rfl (v_aload_n h pX2_splitIntoTokens_0 9 rfl 0 rfl rfl (v_get h pX2_splitIntoTokens_0 10 fX2_24 0 rfl rfl rfl (v_top (w := .int (nI L)) (congrArg Value.int hL) ?_)))
      refine v_ncmp_ge (a := p) (b := L) (tgt := 55) h pX2_splitIntoTokens_0 11 rfl rfl (by omega) (by omega) (fun c1 => ?_) (fun c1 => ?_)
      · skip
        have epL : p = L := by omega
        have hSk : St (P 0) L k = L := by rw [← hsk, epL, ns_L]
        refine v_aload_n h pX2_splitIntoTokens_0 30 rfl 0 rfl rfl (v_get h pX2_splitIntoTokens_0 31 fX2_18 0 rfl rfl rfl (v_aload_n h pX2_splitIntoTokens_1 0 rfl 0 rfl rfl (v_get h pX2_splitIntoTokens_1 1 fX2_28 0 rfl rfl rfl (v_top (w := .int (nI k)) rfl (v_aload_n h pX2_splitIntoTokens_1 2 rfl 0 rfl rfl ?_)))))
        refine v_get h pX2_splitIntoTokens_1 3 fX2_24 0 rfl rfl rfl (v_top (w := .int (nI L)) (congrArg Value.int hL) (v_iast h pX2_splitIntoTokens_1 4 k 3 0 (ws' := tW cI a (up (splP P L k) 2 k (nI L))) rfl rfl rfl rfl rfl (by omega) tW_s2 (v_aload_n h pX2_splitIntoTokens_1 5 rfl 0 rfl rfl (v_get h pX2_splitIntoTokens_1 6 fX2_15 0 rfl rfl rfl (v_aload_n h pX2_splitIntoTokens_1 7 rfl 0 rfl rfl ?_)))))
        refine v_get h pX2_splitIntoTokens_1 8 fX2_28 0 rfl rfl rfl (v_top (w := .int (nI k)) rfl (v_bipush h pX2_splitIntoTokens_1 9 rfl kb_16 (v_iast h pX2_splitIntoTokens_1 10 k 2 0 (ws' := tW cI a (up (up (splP P L k) 2 k (nI L)) 1 k 16)) rfl rfl rfl rfl rfl (by omega) tW_s1 (v_aload_n h pX2_splitIntoTokens_1 11 rfl 0 rfl rfl (v_get h pX2_splitIntoTokens_1 12 fX2_21 0 rfl rfl rfl ?_)))))
        refine v_aload_n h pX2_splitIntoTokens_1 13 rfl 0 rfl rfl (v_get h pX2_splitIntoTokens_1 14 fX2_28 0 rfl rfl rfl (v_top (w := .int (nI k)) rfl (v_iconst h pX2_splitIntoTokens_1 15 rfl ki_0 (v_iast h pX2_splitIntoTokens_1 16 k 4 0 (ws' := tW cI a (up (up (up (splP P L k) 2 k (nI L)) 1 k 16) 3 k 0)) rfl rfl rfl rfl rfl (by omega) tW_s3 ?_))))
        refine v_eqw (ws' := tW cI a (tpS P L k 0 (P 4 3))) (by rw [spl_e P L k hSk]) ?_
        exact v_vret h pX2_splitIntoTokens_1 17 hR hret rfl (tpS P L k 0 (P 4 3)) rfl ⟨rfl, k, by omega, hSt, hSk, rfl⟩
      · skip
        refine v_aload_n h pX2_splitIntoTokens_0 12 rfl 0 rfl rfl (v_get h pX2_splitIntoTokens_0 13 fX2_9 0 rfl rfl rfl (v_iload_n h pX2_splitIntoTokens_0 14 rfl 1 rfl rfl (v_iald h pX2_splitIntoTokens_0 15 p 1 0 rfl rfl rfl rfl rfl (by omega) (v_top (w := .int (P 0 p)) rfl (v_bipush h pX2_splitIntoTokens_0 16 rfl kb_32 ?_)))))
        refine v_icmp_eq (tgt := 49) h pX2_splitIntoTokens_0 17 rfl rfl (fun c2 => ?_) (fun c2 => ?_)
        · skip
          refine v_iinc h pX2_splitIntoTokens_0 28 (v := nI (p + 1)) (lv' := [(1, .int (nI (p + 1))), (0, .ref (a 0))]) rfl 1 rfl hnL rfl rfl (nI_1 p) (v_goto (tgt := 12) h pX2_splitIntoTokens_0 29 rfl rfl (v_lv [1, 0] (lv' := [(0, .ref (a 0)), (1, .int (nI (p + 1)))]) rfl ?_))
          exact ihA (p + 1) k (by omega) (by omega) (by omega) hSt ((ns_sp (by omega) c2).trans hsk)
        · skip
          refine v_aload_n h pX2_splitIntoTokens_0 18 rfl 0 rfl rfl (v_iload_n h pX2_splitIntoTokens_0 19 rfl 1 rfl rfl ?_)
          refine v_callV h pX2_splitIntoTokens_0 20 mX2_93 (As := [.int (nI p)]) (st := []) (kX2_isTogether _ _ cI cS a (splP P L k) p L hL hLb (by omega)) v0B v0C (vEmb_rf _ _) 0 rfl rfl rfl rfl rfl rfl rfl (vDet_k ?_)
          show V K (tW cI a (splP P L k)) 36 [(0, .ref (a 0)), (1, .int (nI p))] [.int (bI (tgB (P 0) L p))]
          refine v_bif_ne (tgt := 49) h pX2_splitIntoTokens_0 21 rfl rfl (fun c3 => ?_) (fun c3 => ?_)
          · skip
            refine v_iinc h pX2_splitIntoTokens_0 28 (v := nI (p + 1)) (lv' := [(1, .int (nI (p + 1))), (0, .ref (a 0))]) rfl 1 rfl hnL rfl rfl (nI_1 p) (v_goto (tgt := 12) h pX2_splitIntoTokens_0 29 rfl rfl (v_lv [1, 0] (lv' := [(0, .ref (a 0)), (1, .int (nI (p + 1)))]) rfl ?_))
            exact ihA (p + 1) k (by omega) (by omega) (by omega) hSt ((ns_tg (by omega) c3).trans hsk)
          · skip
            have hSp : St (P 0) L k = p := hsk.symm.trans (ns_at c2 c3)
            refine v_aload_n h pX2_splitIntoTokens_0 22 rfl 0 rfl rfl (v_iload_n h pX2_splitIntoTokens_0 23 rfl 1 rfl rfl (v_aload_n h pX2_splitIntoTokens_0 24 rfl 0 rfl rfl (v_iload_n h pX2_splitIntoTokens_0 25 rfl 1 rfl rfl ?_)))
            refine v_callV h pX2_splitIntoTokens_0 26 mX2_96 (As := [.int (nI p)]) (st := [.int (nI p), .ref (a 0)]) (kX2_endOfToken _ _ cI cS a (splP P L k) p L (by omega) hL hLb) v0B v0C (vEmb_rf _ _) 0 rfl rfl rfl rfl rfl rfl rfl (vDet_k ?_)
            show V K (tW cI a (splP P L k)) 46 [(0, .ref (a 0)), (1, .int (nI p))] [.int (nI (en (P 0) L p)), .int (nI p), .ref (a 0)]
            refine v_callV h pX2_splitIntoTokens_0 27 mX2_100 (As := [.int (nI p), .int (nI (en (P 0) L p))]) (st := []) (kX2_addToken _ _ cI cS a x P L k p hL hLb hkp (by omega) hSp) (exA_B _) (exA_C hEx.2) (vEmb_rf _ _) 0 rfl rfl rfl rfl rfl rfl rfl (vDet_k ?_)
            show V K (tW cI a (splP P L (k + 1))) 49 [(0, .ref (a 0)), (1, .int (nI p))] []
            refine v_iinc h pX2_splitIntoTokens_0 28 (v := nI (p + 1)) (lv' := [(1, .int (nI (p + 1))), (0, .ref (a 0))]) rfl 1 rfl hnL rfl rfl (nI_1 p) (v_goto (tgt := 12) h pX2_splitIntoTokens_0 29 rfl rfl (v_lv [1, 0] (lv' := [(0, .ref (a 0)), (1, .int (nI (p + 1)))]) rfl ?_))
            exact ihA (p + 1) (k + 1) (by omega) (by omega) (by omega) (fun j hj => (Nat.lt_succ_iff_lt_or_eq.mp hj).elim (hSt j) (fun e => by rw [e, hSp]; omega)) ((ns_nx (by omega)).trans (congrArg (nx (P 0) L) hSp.symm))
  exact LA (L + 1) 0 0 (by omega) (by omega) (by omega) (fun j hj => absurd hj (by omega)) (ns_0 _ _)
