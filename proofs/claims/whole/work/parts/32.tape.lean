set_option maxHeartbeats 300000 in
set_option maxRecDepth 100000 in
theorem kX2_readComes (l : Launch) (D : va_G) (cI cS : ClassId) (a b : Nat → Nat) (x : xS) (P E : Nat → Nat → Int32) (L N k : Nat) (v : Int32) (hNe : St (P 0) L N = L) (hNL : N ≤ L) (hLb : L ≤ 120) (n : Nat) (hk : k + 1 ≤ N) : vMet l D (vT cI cS) yX2_readComes cX2_readComes 2 (some .boolean) 2 42 (uW cI a b) (exA x) [.ref (a 0), .ref (b 0)] (tpS P L N (k + 1) v, E) (itC P L N k (comS (P 0) L E n (St (P 0) L k))) := by
  refine vMet_of (by decide) rfl ?_
  intro K hl hD hnL hret h hR hEx
  subst hl hD
  show V K (uW cI a b (tpS P L N (k + 1) v, E)) 0 [(0, .ref (a 0)), (1, .ref (b 0))] []
  have hrn := rn_N (m := 99) hNe hk
  have hrg := rn_ge (P 0) L (k + 1) 99
  refine v_aload_n h pX2_readComes_0 0 rfl 0 rfl rfl (v_bipush h pX2_readComes_0 1 rfl kb_99 ?_)
  refine v_callV h pX2_readComes_0 2 mX2_81 (As := [.int 99]) (st := []) (kX2_readNumber _ _ cI cS a P L N (k + 1) 99 v hNe hNL hLb (by omega) (by omega)) v0B v0C uW_1 0 rfl rfl rfl rfl rfl rfl rfl (vDet_k ?_)
  show V K (uW cI a b (tpS P L N (rnK (P 0) L (k + 1) 99) (nvC (P 0) L (St (P 0) L (k + 1))), E)) 6 [(0, .ref (a 0)), (1, .ref (b 0))] [.int (bI (nmOK (P 0) L (St (P 0) L (k + 1)) 99))]
  refine v_bif_ne (tgt := 11) h pX2_readComes_0 3 rfl rfl (fun c1 => ?_) (fun c1 => ?_)
  · skip
    have hnm99 := c1
    refine v_aload_n h pX2_readComes_0 6 rfl 1 rfl rfl (v_aload_n h pX2_readComes_0 7 rfl 0 rfl rfl (v_get h pX2_readComes_0 8 fX2_34 0 rfl rfl rfl (v_top (w := .int (nvC (P 0) L (St (P 0) L (k + 1)))) rfl (v_puti h pX2_readComes_0 9 gX2_90 5 (ws' := uW cI a b (tpS P L N (rnK (P 0) L (k + 1) 99) (nvC (P 0) L (St (P 0) L (k + 1))), up E 9 1 (nvC (P 0) L (St (P 0) L (k + 1))))) rfl rfl rfl uW_p1 (v_iconst h pX2_readComes_0 10 rfl ki_1 ?_)))))
    exact v_zret h pX2_readComes_0 11 (Or.inr rfl) hR hret rfl ((tpS P L N (rnK (P 0) L (k + 1) 99) (nvC (P 0) L (St (P 0) L (k + 1))), up E 9 1 (nvC (P 0) L (St (P 0) L (k + 1))))) rfl (Or.inl ⟨_, _, _, _, com_1 hnm99, by omega, by omega, rfl, rfl⟩)
  · skip
    have hnm99 := c1
    refine v_iconst h pX2_readComes_0 4 rfl ki_0 ?_
    exact v_zret h pX2_readComes_0 5 (Or.inl rfl) hR hret rfl ((tpS P L N (rnK (P 0) L (k + 1) 99) (nvC (P 0) L (St (P 0) L (k + 1))), E)) rfl (Or.inr ⟨_, _, _, com_0 hnm99, by omega, rfl, rfl⟩)
set_option maxHeartbeats 300000 in
set_option maxRecDepth 100000 in
theorem kX2_readBed (l : Launch) (D : va_G) (cI cS : ClassId) (a b : Nat → Nat) (x : xS) (P E : Nat → Nat → Int32) (L N k : Nat) (v : Int32) (hNe : St (P 0) L N = L) (hNL : N ≤ L) (hLb : L ≤ 120) (n : Nat) (hk : k + 1 ≤ N) : vMet l D (vT cI cS) yX2_readBed cX2_readBed 3 (some .boolean) 3 65 (uW cI a b) (exA x) [.ref (a 0), .ref (b 0)] (tpS P L N (k + 1) v, E) (itC P L N k (bedS (P 0) L E n (St (P 0) L k))) := by
  refine vMet_of (by decide) rfl ?_
  intro K hl hD hnL hret h hR hEx
  subst hl hD
  show V K (uW cI a b (tpS P L N (k + 1) v, E)) 0 [(0, .ref (a 0)), (1, .ref (b 0))] []
  refine v_aload_n h pX2_readBed_0 0 rfl 0 rfl rfl (v_iconst h pX2_readBed_0 1 rfl ki_5 ?_)
  refine v_callV h pX2_readBed_0 2 mX2_81 (As := [.int 5]) (st := []) (kX2_readNumber _ _ cI cS a P L N (k + 1) 5 v hNe hNL hLb (by omega) (by omega)) v0B v0C uW_1 0 rfl rfl rfl rfl rfl rfl rfl (vDet_k ?_)
  show V K (uW cI a b (tpS P L N (rnK (P 0) L (k + 1) 5) (nvC (P 0) L (St (P 0) L (k + 1))), E)) 5 [(0, .ref (a 0)), (1, .ref (b 0))] [.int (bI (nmOK (P 0) L (St (P 0) L (k + 1)) 5))]
  refine v_bif_ne (tgt := 10) h pX2_readBed_0 3 rfl rfl (fun c1 => ?_) (fun c1 => ?_)
  · skip
    have hnm5 := c1
    have hrn := rn_N (m := 5) hNe hk
    rw [rnK_t c1] at hrn
    refine v_eqw (ws' := uW cI a b (tpS P L N (k + 1 + 1) (nvC (P 0) L (St (P 0) L (k + 1))), E)) (by rw [rnK_t c1]) ?_
    obtain ⟨e_v, l_v⟩ := nm_i (by decide) c1
    refine v_aload_n h pX2_readBed_0 6 rfl 0 rfl rfl (v_get h pX2_readBed_0 7 fX2_34 0 rfl rfl rfl (v_top (w := .int (nvC (P 0) L (St (P 0) L (k + 1)))) rfl ?_))
    refine v_top (w := .int (nI (ix (nmV (P 0) L (St (P 0) L (k + 1)))))) (congrArg Value.int e_v) (v_istore_n h pX2_readBed_0 8 (lv' := [(2, .int (nI (ix (nmV (P 0) L (St (P 0) L (k + 1)))))), (0, .ref (a 0)), (1, .ref (b 0))]) rfl rfl hnL rfl rfl (v_aload_n h pX2_readBed_0 9 rfl 1 rfl rfl (v_bipush h pX2_readBed_0 10 rfl kb_12 (v_sipush h pX2_readBed_0 11 rfl ks_999 (v_aload_n h pX2_readBed_0 12 rfl 2 rfl rfl ?_)))))
    refine v_get h pX2_readBed_0 13 fX2_84 5 rfl rfl rfl (v_iload_n h pX2_readBed_0 14 rfl 0 rfl rfl (v_iald h pX2_readBed_0 15 (ix (nmV (P 0) L (St (P 0) L (k + 1)))) 6 0 rfl rfl rfl rfl rfl (by omega) ?_))
    refine v_callV h pX2_readBed_0 16 mX2_67 (As := [.int 12, .int 999, .int (E 0 (ix (nmV (P 0) L (St (P 0) L (k + 1)))))]) (st := []) (kX2_readAfter _ _ cI cS a P L N (k + 1 + 1) 12 999 (nvC (P 0) L (St (P 0) L (k + 1))) (E 0 (ix (nmV (P 0) L (St (P 0) L (k + 1))))) hNe hNL hLb (by omega) (by omega) (by omega)) v0B v0C uW_1 0 rfl rfl rfl rfl rfl rfl rfl (vDet_k ?_)
    show V K (uW cI a b (tpS P L N (raK (P 0) L (k + 1 + 1) 12 999) (raV (P 0) L (k + 1 + 1) 12 (E 0 (ix (nmV (P 0) L (St (P 0) L (k + 1)))))), E)) 30 [(2, .int (nI (ix (nmV (P 0) L (St (P 0) L (k + 1)))))), (0, .ref (a 0)), (1, .ref (b 0))] [.int (bI (pB (decide (so (P 0) L (St (P 0) L (k + 1 + 1)) = 12)) (P 0) L (St (P 0) L (k + 1 + 1)) 999))]
    refine v_bif_ne (tgt := 35) h pX2_readBed_0 17 rfl rfl (fun c2 => ?_) (fun c2 => ?_)
    · skip
      have hpb12 := c2
      have ef12 := ra_F (T := P 0) (L := L) (k := k + 1 + 1) (w := 12) (m := 999)
      have en12 := ra_N (m := 999) hNe (k := k + 1 + 1) (w := 12) (by omega) (by decide)
      have eg12 := ra_ge (P 0) L (k + 1 + 1) 12 999
      generalize raK (P 0) L (k + 1 + 1) 12 999 = k3 at ef12 en12 eg12 ⊢
      refine v_aload_n h pX2_readBed_0 20 rfl 2 rfl rfl (v_get h pX2_readBed_0 21 fX2_84 5 rfl rfl rfl (v_iload_n h pX2_readBed_0 22 rfl 0 rfl rfl (v_aload_n h pX2_readBed_0 23 rfl 1 rfl rfl (v_get h pX2_readBed_0 24 fX2_34 0 rfl rfl rfl (v_top (w := .int (raV (P 0) L (k + 1 + 1) 12 (E 0 (ix (nmV (P 0) L (St (P 0) L (k + 1))))))) rfl ?_)))))
      refine v_iast h pX2_readBed_0 25 (ix (nmV (P 0) L (St (P 0) L (k + 1)))) 6 0 (ws' := uW cI a b (tpS P L N k3 (raV (P 0) L (k + 1 + 1) 12 (E 0 (ix (nmV (P 0) L (St (P 0) L (k + 1)))))), up E 0 (ix (nmV (P 0) L (St (P 0) L (k + 1)))) (raV (P 0) L (k + 1 + 1) 12 (E 0 (ix (nmV (P 0) L (St (P 0) L (k + 1)))))))) rfl rfl rfl rfl rfl (by omega) uW_s0 ?_
      refine v_eqw (ws' := uW cI a b (tpS P L N k3 (raV (P 0) L (k + 1 + 1) 12 (E 0 (ix (nmV (P 0) L (St (P 0) L (k + 1)))))), pE (decide (so (P 0) L (St (P 0) L (k + 1 + 1)) = 12)) (P 0) L (St (P 0) L (k + 1 + 1)) 999 E 0 (ix (nmV (P 0) L (St (P 0) L (k + 1)))))) (by rw [ra_E (by decide) hpb12]) ?_
      refine v_aload_n h pX2_readBed_0 26 rfl 1 rfl rfl (v_bipush h pX2_readBed_0 27 rfl kb_13 (v_bipush h pX2_readBed_0 28 rfl kb_9 (v_aload_n h pX2_readBed_0 29 rfl 2 rfl rfl (v_get h pX2_readBed_0 30 fX2_87 5 rfl rfl rfl (v_iload_n h pX2_readBed_0 31 rfl 0 rfl rfl ?_)))))
      refine v_iald h pX2_readBed_1 0 (ix (nmV (P 0) L (St (P 0) L (k + 1)))) 7 0 rfl rfl rfl rfl rfl (by omega) ?_
      refine v_callV h pX2_readBed_1 1 mX2_67 (As := [.int 13, .int 9, .int ((pE (decide (so (P 0) L (St (P 0) L (k + 1 + 1)) = 12)) (P 0) L (St (P 0) L (k + 1 + 1)) 999 E 0 (ix (nmV (P 0) L (St (P 0) L (k + 1))))) 1 (ix (nmV (P 0) L (St (P 0) L (k + 1)))))]) (st := []) (kX2_readAfter _ _ cI cS a P L N k3 13 9 (raV (P 0) L (k + 1 + 1) 12 (E 0 (ix (nmV (P 0) L (St (P 0) L (k + 1)))))) ((pE (decide (so (P 0) L (St (P 0) L (k + 1 + 1)) = 12)) (P 0) L (St (P 0) L (k + 1 + 1)) 999 E 0 (ix (nmV (P 0) L (St (P 0) L (k + 1))))) 1 (ix (nmV (P 0) L (St (P 0) L (k + 1))))) hNe hNL hLb (by omega) (by omega) (by omega)) v0B v0C uW_1 0 rfl rfl rfl rfl rfl rfl rfl (vDet_k ?_)
      show V K (uW cI a b (tpS P L N (raK (P 0) L k3 13 9) (raV (P 0) L k3 13 ((pE (decide (so (P 0) L (St (P 0) L (k + 1 + 1)) = 12)) (P 0) L (St (P 0) L (k + 1 + 1)) 999 E 0 (ix (nmV (P 0) L (St (P 0) L (k + 1))))) 1 (ix (nmV (P 0) L (St (P 0) L (k + 1)))))), pE (decide (so (P 0) L (St (P 0) L (k + 1 + 1)) = 12)) (P 0) L (St (P 0) L (k + 1 + 1)) 999 E 0 (ix (nmV (P 0) L (St (P 0) L (k + 1)))))) 59 [(2, .int (nI (ix (nmV (P 0) L (St (P 0) L (k + 1)))))), (0, .ref (a 0)), (1, .ref (b 0))] [.int (bI (pB (decide (so (P 0) L (St (P 0) L k3) = 13)) (P 0) L (St (P 0) L k3) 9))]
      refine v_bif_ne (tgt := 64) h pX2_readBed_1 2 rfl rfl (fun c3 => ?_) (fun c3 => ?_)
      · skip
        have hpb13 := c3
        have ef13 := ra_F (T := P 0) (L := L) (k := k3) (w := 13) (m := 9)
        have en13 := ra_N (m := 9) hNe (k := k3) (w := 13) (by omega) (by decide)
        have eg13 := ra_ge (P 0) L (k3) 13 9
        generalize raK (P 0) L (k3) 13 9 = k4 at ef13 en13 eg13 ⊢
        refine v_aload_n h pX2_readBed_1 5 rfl 2 rfl rfl (v_get h pX2_readBed_1 6 fX2_87 5 rfl rfl rfl (v_iload_n h pX2_readBed_1 7 rfl 0 rfl rfl (v_aload_n h pX2_readBed_1 8 rfl 1 rfl rfl (v_get h pX2_readBed_1 9 fX2_34 0 rfl rfl rfl (v_top (w := .int (raV (P 0) L k3 13 ((pE (decide (so (P 0) L (St (P 0) L (k + 1 + 1)) = 12)) (P 0) L (St (P 0) L (k + 1 + 1)) 999 E 0 (ix (nmV (P 0) L (St (P 0) L (k + 1))))) 1 (ix (nmV (P 0) L (St (P 0) L (k + 1))))))) rfl ?_)))))
        refine v_iast h pX2_readBed_1 10 (ix (nmV (P 0) L (St (P 0) L (k + 1)))) 7 0 (ws' := uW cI a b (tpS P L N k4 (raV (P 0) L k3 13 ((pE (decide (so (P 0) L (St (P 0) L (k + 1 + 1)) = 12)) (P 0) L (St (P 0) L (k + 1 + 1)) 999 E 0 (ix (nmV (P 0) L (St (P 0) L (k + 1))))) 1 (ix (nmV (P 0) L (St (P 0) L (k + 1)))))), up (pE (decide (so (P 0) L (St (P 0) L (k + 1 + 1)) = 12)) (P 0) L (St (P 0) L (k + 1 + 1)) 999 E 0 (ix (nmV (P 0) L (St (P 0) L (k + 1))))) 1 (ix (nmV (P 0) L (St (P 0) L (k + 1)))) (raV (P 0) L k3 13 ((pE (decide (so (P 0) L (St (P 0) L (k + 1 + 1)) = 12)) (P 0) L (St (P 0) L (k + 1 + 1)) 999 E 0 (ix (nmV (P 0) L (St (P 0) L (k + 1))))) 1 (ix (nmV (P 0) L (St (P 0) L (k + 1)))))))) rfl rfl rfl rfl rfl (by omega) uW_s1 ?_
        refine v_eqw (ws' := uW cI a b (tpS P L N k4 (raV (P 0) L k3 13 ((pE (decide (so (P 0) L (St (P 0) L (k + 1 + 1)) = 12)) (P 0) L (St (P 0) L (k + 1 + 1)) 999 E 0 (ix (nmV (P 0) L (St (P 0) L (k + 1))))) 1 (ix (nmV (P 0) L (St (P 0) L (k + 1)))))), pE (decide (so (P 0) L (St (P 0) L k3) = 13)) (P 0) L (St (P 0) L k3) 9 (pE (decide (so (P 0) L (St (P 0) L (k + 1 + 1)) = 12)) (P 0) L (St (P 0) L (k + 1 + 1)) 999 E 0 (ix (nmV (P 0) L (St (P 0) L (k + 1))))) 1 (ix (nmV (P 0) L (St (P 0) L (k + 1)))))) (by rw [ra_E (by decide) hpb13]) ?_
        refine v_iconst h pX2_readBed_1 11 rfl ki_1 ?_
        exact v_zret h pX2_readBed_1 12 (Or.inr rfl) hR hret rfl ((tpS P L N k4 (raV (P 0) L k3 13 ((pE (decide (so (P 0) L (St (P 0) L (k + 1 + 1)) = 12)) (P 0) L (St (P 0) L (k + 1 + 1)) 999 E 0 (ix (nmV (P 0) L (St (P 0) L (k + 1))))) 1 (ix (nmV (P 0) L (St (P 0) L (k + 1)))))), pE (decide (so (P 0) L (St (P 0) L k3) = 13)) (P 0) L (St (P 0) L k3) 9 (pE (decide (so (P 0) L (St (P 0) L (k + 1 + 1)) = 12)) (P 0) L (St (P 0) L (k + 1 + 1)) 999 E 0 (ix (nmV (P 0) L (St (P 0) L (k + 1))))) 1 (ix (nmV (P 0) L (St (P 0) L (k + 1)))))) rfl (Or.inl ⟨_, _, _, _, bedS_k rfl rfl ef12 ef13 hnm5 hpb12 hpb13, by omega, by omega, rfl, rfl⟩)
      · skip
        have hpb13 := c3
        have ef13 := ra_F (T := P 0) (L := L) (k := k3) (w := 13) (m := 9)
        have en13 := ra_N (m := 9) hNe (k := k3) (w := 13) (by omega) (by decide)
        have eg13 := ra_ge (P 0) L (k3) 13 9
        generalize raK (P 0) L (k3) 13 9 = k4 at ef13 en13 eg13 ⊢
        refine v_iconst h pX2_readBed_1 3 rfl ki_0 ?_
        exact v_zret h pX2_readBed_1 4 (Or.inl rfl) hR hret rfl ((tpS P L N k4 (raV (P 0) L k3 13 ((pE (decide (so (P 0) L (St (P 0) L (k + 1 + 1)) = 12)) (P 0) L (St (P 0) L (k + 1 + 1)) 999 E 0 (ix (nmV (P 0) L (St (P 0) L (k + 1))))) 1 (ix (nmV (P 0) L (St (P 0) L (k + 1)))))), pE (decide (so (P 0) L (St (P 0) L (k + 1 + 1)) = 12)) (P 0) L (St (P 0) L (k + 1 + 1)) 999 E 0 (ix (nmV (P 0) L (St (P 0) L (k + 1)))))) rfl (Or.inr ⟨_, _, _, bedS_e2 rfl rfl ef12 ef13 hnm5 hpb12 hpb13, by omega, rfl, rfl⟩)
    · skip
      have hpb12 := c2
      have ef12 := ra_F (T := P 0) (L := L) (k := k + 1 + 1) (w := 12) (m := 999)
      have en12 := ra_N (m := 999) hNe (k := k + 1 + 1) (w := 12) (by omega) (by decide)
      have eg12 := ra_ge (P 0) L (k + 1 + 1) 12 999
      generalize raK (P 0) L (k + 1 + 1) 12 999 = k3 at ef12 en12 eg12 ⊢
      refine v_iconst h pX2_readBed_0 18 rfl ki_0 ?_
      exact v_zret h pX2_readBed_0 19 (Or.inl rfl) hR hret rfl ((tpS P L N k3 (raV (P 0) L (k + 1 + 1) 12 (E 0 (ix (nmV (P 0) L (St (P 0) L (k + 1)))))), E)) rfl (Or.inr ⟨_, _, _, bedS_e1 rfl rfl ef12 hnm5 hpb12, by omega, rfl, rfl⟩)
  · skip
    have hnm5 := c1
    refine v_eqw (ws' := uW cI a b (tpS P L N (k + 1) (nvC (P 0) L (St (P 0) L (k + 1))), E)) (by rw [rnK_f c1]) ?_
    refine v_iconst h pX2_readBed_0 4 rfl ki_0 ?_
    exact v_zret h pX2_readBed_0 5 (Or.inl rfl) hR hret rfl ((tpS P L N (k + 1) (nvC (P 0) L (St (P 0) L (k + 1))), E)) rfl (Or.inr ⟨_, _, _, bedS_e0 rfl hnm5, by omega, rfl, rfl⟩)
set_option maxHeartbeats 300000 in
set_option maxRecDepth 100000 in
theorem kX2_readOyster (l : Launch) (D : va_G) (cI cS : ClassId) (a b : Nat → Nat) (x : xS) (P E : Nat → Nat → Int32) (L N k : Nat) (v : Int32) (hNe : St (P 0) L N = L) (hNL : N ≤ L) (hLb : L ≤ 120) (n : Nat) (hW : Wf E n) (hn : n < 8) (kd : Int32) (hk : k + 1 ≤ N) : vMet l D (vT cI cS) yX2_readOyster cX2_readOyster 4 (some .boolean) 3 65 (uW cI a b) (exA x) [.ref (a 0), .ref (b 0), .int kd] (tpS P L N (k + 1) v, E) (itC P L N k (oyS (P 0) L E n kd (St (P 0) L k))) := by
  refine vMet_of (by decide) rfl ?_
  intro K hl hD hnL hret h hR hEx
  subst hl hD
  show V K (uW cI a b (tpS P L N (k + 1) v, E)) 0 [(0, .ref (a 0)), (1, .ref (b 0)), (2, .int kd)] []
  refine v_aload_n h pX2_readOyster_0 0 rfl 0 rfl rfl (v_bipush h pX2_readOyster_0 1 rfl kb_9 (v_iconst h pX2_readOyster_0 2 rfl ki_5 (v_iconst h pX2_readOyster_0 3 rfl ki_0 ?_)))
  refine v_callV h pX2_readOyster_0 4 mX2_67 (As := [.int 9, .int 5, .int 0]) (st := []) (kX2_readAfter _ _ cI cS a P L N (k + 1) 9 5 v 0 hNe hNL hLb (by omega) (by omega) (by omega)) v0B v0C uW_1 0 rfl rfl rfl rfl rfl rfl rfl (vDet_k ?_)
  show V K (uW cI a b (tpS P L N (raK (P 0) L (k + 1) 9 5) (raV (P 0) L (k + 1) 9 0), E)) 8 [(0, .ref (a 0)), (1, .ref (b 0)), (2, .int kd)] [.int (bI (pB (decide (so (P 0) L (St (P 0) L (k + 1)) = 9)) (P 0) L (St (P 0) L (k + 1)) 5))]
  refine v_bif_ne (tgt := 13) h pX2_readOyster_0 5 rfl rfl (fun c1 => ?_) (fun c1 => ?_)
  · skip
    have hpb9 := c1
    have ef9 := ra_F (T := P 0) (L := L) (k := k + 1) (w := 9) (m := 5)
    have en9 := ra_N (m := 5) hNe (k := k + 1) (w := 9) (by omega) (by decide)
    have eg9 := ra_ge (P 0) L (k + 1) 9 5
    generalize raK (P 0) L (k + 1) 9 5 = k2 at ef9 en9 eg9 ⊢
    refine v_aload_n h pX2_readOyster_0 8 rfl 1 rfl rfl (v_iload_n h pX2_readOyster_0 9 rfl 2 rfl rfl (v_aload_n h pX2_readOyster_0 10 rfl 0 rfl rfl (v_get h pX2_readOyster_0 11 fX2_34 0 rfl rfl rfl (v_top (w := .int (raV (P 0) L (k + 1) 9 0)) rfl ?_))))
    refine v_callV h pX2_readOyster_0 12 mX2_71 (As := [.int kd, .int (raV (P 0) L (k + 1) 9 0)]) (st := []) (kX0_addOyster _ _ cI cS b E n hW (by omega) kd (raV (P 0) L (k + 1) 9 0)) v0B v0C uW_2 5 rfl rfl rfl rfl rfl rfl rfl (vDet_k ?_)
    show V K (uW cI a b (tpS P L N k2 (raV (P 0) L (k + 1) 9 0), newS E n kd (raV (P 0) L (k + 1) 9 0))) 22 [(0, .ref (a 0)), (1, .ref (b 0)), (2, .int kd)] [.int (nI n)]
    refine v_eqw (ws' := uW cI a b (tpS P L N k2 (raV (P 0) L (k + 1) 9 0), pE (decide (so (P 0) L (St (P 0) L (k + 1)) = 9)) (P 0) L (St (P 0) L (k + 1)) 5 (newS E n kd 0) 3 n)) (by rw [ra_new hpb9]) ?_
    refine v_istore_n h pX2_readOyster_0 13 (lv' := [(3, .int (nI n)), (0, .ref (a 0)), (1, .ref (b 0)), (2, .int kd)]) rfl rfl hnL rfl rfl (v_iload_n h pX2_readOyster_0 14 rfl 0 rfl rfl (v_nif_lt (a := n) (tgt := 44) h pX2_readOyster_0 15 rfl rfl (by omega) (v_aload_n h pX2_readOyster_0 16 rfl 1 rfl rfl (v_bipush h pX2_readOyster_0 17 rfl kb_10 (v_bipush h pX2_readOyster_0 18 rfl kb_99 ?_)))))
    refine v_aload_n h pX2_readOyster_0 19 rfl 2 rfl rfl (v_get h pX2_readOyster_0 20 fX2_75 5 rfl rfl rfl (v_iload_n h pX2_readOyster_0 21 rfl 0 rfl rfl (v_iald h pX2_readOyster_0 22 n 10 0 rfl rfl rfl rfl rfl (by omega) ?_)))
    refine v_callV h pX2_readOyster_0 23 mX2_67 (As := [.int 10, .int 99, .int ((pE (decide (so (P 0) L (St (P 0) L (k + 1)) = 9)) (P 0) L (St (P 0) L (k + 1)) 5 (newS E n kd 0) 3 n) 4 n)]) (st := []) (kX2_readAfter _ _ cI cS a P L N k2 10 99 (raV (P 0) L (k + 1) 9 0) ((pE (decide (so (P 0) L (St (P 0) L (k + 1)) = 9)) (P 0) L (St (P 0) L (k + 1)) 5 (newS E n kd 0) 3 n) 4 n) hNe hNL hLb (by omega) (by omega) (by omega)) v0B v0C uW_1 0 rfl rfl rfl rfl rfl rfl rfl (vDet_k ?_)
    show V K (uW cI a b (tpS P L N (raK (P 0) L k2 10 99) (raV (P 0) L k2 10 ((pE (decide (so (P 0) L (St (P 0) L (k + 1)) = 9)) (P 0) L (St (P 0) L (k + 1)) 5 (newS E n kd 0) 3 n) 4 n)), pE (decide (so (P 0) L (St (P 0) L (k + 1)) = 9)) (P 0) L (St (P 0) L (k + 1)) 5 (newS E n kd 0) 3 n)) 41 [(3, .int (nI n)), (0, .ref (a 0)), (1, .ref (b 0)), (2, .int kd)] [.int (bI (pB (decide (so (P 0) L (St (P 0) L k2) = 10)) (P 0) L (St (P 0) L k2) 99))]
    refine v_bif_ne (tgt := 46) h pX2_readOyster_0 24 rfl rfl (fun c2 => ?_) (fun c2 => ?_)
    · skip
      have hpb10 := c2
      have ef10 := ra_F (T := P 0) (L := L) (k := k2) (w := 10) (m := 99)
      have en10 := ra_N (m := 99) hNe (k := k2) (w := 10) (by omega) (by decide)
      have eg10 := ra_ge (P 0) L (k2) 10 99
      generalize raK (P 0) L (k2) 10 99 = k3 at ef10 en10 eg10 ⊢
      refine v_aload_n h pX2_readOyster_0 27 rfl 2 rfl rfl (v_get h pX2_readOyster_0 28 fX2_75 5 rfl rfl rfl (v_iload_n h pX2_readOyster_0 29 rfl 0 rfl rfl (v_aload_n h pX2_readOyster_0 30 rfl 1 rfl rfl (v_get h pX2_readOyster_0 31 fX2_34 0 rfl rfl rfl (v_top (w := .int (raV (P 0) L k2 10 ((pE (decide (so (P 0) L (St (P 0) L (k + 1)) = 9)) (P 0) L (St (P 0) L (k + 1)) 5 (newS E n kd 0) 3 n) 4 n))) rfl ?_)))))
      refine v_iast h pX2_readOyster_1 0 n 10 0 (ws' := uW cI a b (tpS P L N k3 (raV (P 0) L k2 10 ((pE (decide (so (P 0) L (St (P 0) L (k + 1)) = 9)) (P 0) L (St (P 0) L (k + 1)) 5 (newS E n kd 0) 3 n) 4 n)), up (pE (decide (so (P 0) L (St (P 0) L (k + 1)) = 9)) (P 0) L (St (P 0) L (k + 1)) 5 (newS E n kd 0) 3 n) 4 n (raV (P 0) L k2 10 ((pE (decide (so (P 0) L (St (P 0) L (k + 1)) = 9)) (P 0) L (St (P 0) L (k + 1)) 5 (newS E n kd 0) 3 n) 4 n)))) rfl rfl rfl rfl rfl (by omega) uW_s4 ?_
      refine v_eqw (ws' := uW cI a b (tpS P L N k3 (raV (P 0) L k2 10 ((pE (decide (so (P 0) L (St (P 0) L (k + 1)) = 9)) (P 0) L (St (P 0) L (k + 1)) 5 (newS E n kd 0) 3 n) 4 n)), pE (decide (so (P 0) L (St (P 0) L k2) = 10)) (P 0) L (St (P 0) L k2) 99 (pE (decide (so (P 0) L (St (P 0) L (k + 1)) = 9)) (P 0) L (St (P 0) L (k + 1)) 5 (newS E n kd 0) 3 n) 4 n)) (by rw [ra_E (by decide) hpb10]) ?_
      refine v_aload_n h pX2_readOyster_1 1 rfl 1 rfl rfl (v_bipush h pX2_readOyster_1 2 rfl kb_11 (v_sipush h pX2_readOyster_1 3 rfl ks_999 (v_aload_n h pX2_readOyster_1 4 rfl 2 rfl rfl (v_get h pX2_readOyster_1 5 fX2_78 5 rfl rfl rfl (v_iload_n h pX2_readOyster_1 6 rfl 0 rfl rfl ?_)))))
      refine v_iald h pX2_readOyster_1 7 n 11 0 rfl rfl rfl rfl rfl (by omega) ?_
      refine v_callV h pX2_readOyster_1 8 mX2_67 (As := [.int 11, .int 999, .int ((pE (decide (so (P 0) L (St (P 0) L k2) = 10)) (P 0) L (St (P 0) L k2) 99 (pE (decide (so (P 0) L (St (P 0) L (k + 1)) = 9)) (P 0) L (St (P 0) L (k + 1)) 5 (newS E n kd 0) 3 n) 4 n) 5 n)]) (st := []) (kX2_readAfter _ _ cI cS a P L N k3 11 999 (raV (P 0) L k2 10 ((pE (decide (so (P 0) L (St (P 0) L (k + 1)) = 9)) (P 0) L (St (P 0) L (k + 1)) 5 (newS E n kd 0) 3 n) 4 n)) ((pE (decide (so (P 0) L (St (P 0) L k2) = 10)) (P 0) L (St (P 0) L k2) 99 (pE (decide (so (P 0) L (St (P 0) L (k + 1)) = 9)) (P 0) L (St (P 0) L (k + 1)) 5 (newS E n kd 0) 3 n) 4 n) 5 n) hNe hNL hLb (by omega) (by omega) (by omega)) v0B v0C uW_1 0 rfl rfl rfl rfl rfl rfl rfl (vDet_k ?_)
      show V K (uW cI a b (tpS P L N (raK (P 0) L k3 11 999) (raV (P 0) L k3 11 ((pE (decide (so (P 0) L (St (P 0) L k2) = 10)) (P 0) L (St (P 0) L k2) 99 (pE (decide (so (P 0) L (St (P 0) L (k + 1)) = 9)) (P 0) L (St (P 0) L (k + 1)) 5 (newS E n kd 0) 3 n) 4 n) 5 n)), pE (decide (so (P 0) L (St (P 0) L k2) = 10)) (P 0) L (St (P 0) L k2) 99 (pE (decide (so (P 0) L (St (P 0) L (k + 1)) = 9)) (P 0) L (St (P 0) L (k + 1)) 5 (newS E n kd 0) 3 n) 4 n)) 71 [(3, .int (nI n)), (0, .ref (a 0)), (1, .ref (b 0)), (2, .int kd)] [.int (bI (pB (decide (so (P 0) L (St (P 0) L k3) = 11)) (P 0) L (St (P 0) L k3) 999))]
      refine v_bif_ne (tgt := 76) h pX2_readOyster_1 9 rfl rfl (fun c3 => ?_) (fun c3 => ?_)
      · skip
        have hpb11 := c3
        have ef11 := ra_F (T := P 0) (L := L) (k := k3) (w := 11) (m := 999)
        have en11 := ra_N (m := 999) hNe (k := k3) (w := 11) (by omega) (by decide)
        have eg11 := ra_ge (P 0) L (k3) 11 999
        generalize raK (P 0) L (k3) 11 999 = k4 at ef11 en11 eg11 ⊢
        refine v_aload_n h pX2_readOyster_1 12 rfl 2 rfl rfl (v_get h pX2_readOyster_1 13 fX2_78 5 rfl rfl rfl (v_iload_n h pX2_readOyster_1 14 rfl 0 rfl rfl (v_aload_n h pX2_readOyster_1 15 rfl 1 rfl rfl (v_get h pX2_readOyster_1 16 fX2_34 0 rfl rfl rfl (v_top (w := .int (raV (P 0) L k3 11 ((pE (decide (so (P 0) L (St (P 0) L k2) = 10)) (P 0) L (St (P 0) L k2) 99 (pE (decide (so (P 0) L (St (P 0) L (k + 1)) = 9)) (P 0) L (St (P 0) L (k + 1)) 5 (newS E n kd 0) 3 n) 4 n) 5 n))) rfl ?_)))))
        refine v_iast h pX2_readOyster_1 17 n 11 0 (ws' := uW cI a b (tpS P L N k4 (raV (P 0) L k3 11 ((pE (decide (so (P 0) L (St (P 0) L k2) = 10)) (P 0) L (St (P 0) L k2) 99 (pE (decide (so (P 0) L (St (P 0) L (k + 1)) = 9)) (P 0) L (St (P 0) L (k + 1)) 5 (newS E n kd 0) 3 n) 4 n) 5 n)), up (pE (decide (so (P 0) L (St (P 0) L k2) = 10)) (P 0) L (St (P 0) L k2) 99 (pE (decide (so (P 0) L (St (P 0) L (k + 1)) = 9)) (P 0) L (St (P 0) L (k + 1)) 5 (newS E n kd 0) 3 n) 4 n) 5 n (raV (P 0) L k3 11 ((pE (decide (so (P 0) L (St (P 0) L k2) = 10)) (P 0) L (St (P 0) L k2) 99 (pE (decide (so (P 0) L (St (P 0) L (k + 1)) = 9)) (P 0) L (St (P 0) L (k + 1)) 5 (newS E n kd 0) 3 n) 4 n) 5 n)))) rfl rfl rfl rfl rfl (by omega) uW_s5 ?_
        refine v_eqw (ws' := uW cI a b (tpS P L N k4 (raV (P 0) L k3 11 ((pE (decide (so (P 0) L (St (P 0) L k2) = 10)) (P 0) L (St (P 0) L k2) 99 (pE (decide (so (P 0) L (St (P 0) L (k + 1)) = 9)) (P 0) L (St (P 0) L (k + 1)) 5 (newS E n kd 0) 3 n) 4 n) 5 n)), pE (decide (so (P 0) L (St (P 0) L k3) = 11)) (P 0) L (St (P 0) L k3) 999 (pE (decide (so (P 0) L (St (P 0) L k2) = 10)) (P 0) L (St (P 0) L k2) 99 (pE (decide (so (P 0) L (St (P 0) L (k + 1)) = 9)) (P 0) L (St (P 0) L (k + 1)) 5 (newS E n kd 0) 3 n) 4 n) 5 n)) (by rw [ra_E (by decide) hpb11]) ?_
        refine v_iconst h pX2_readOyster_1 18 rfl ki_1 ?_
        exact v_zret h pX2_readOyster_1 19 (Or.inr rfl) hR hret rfl ((tpS P L N k4 (raV (P 0) L k3 11 ((pE (decide (so (P 0) L (St (P 0) L k2) = 10)) (P 0) L (St (P 0) L k2) 99 (pE (decide (so (P 0) L (St (P 0) L (k + 1)) = 9)) (P 0) L (St (P 0) L (k + 1)) 5 (newS E n kd 0) 3 n) 4 n) 5 n)), pE (decide (so (P 0) L (St (P 0) L k3) = 11)) (P 0) L (St (P 0) L k3) 999 (pE (decide (so (P 0) L (St (P 0) L k2) = 10)) (P 0) L (St (P 0) L k2) 99 (pE (decide (so (P 0) L (St (P 0) L (k + 1)) = 9)) (P 0) L (St (P 0) L (k + 1)) 5 (newS E n kd 0) 3 n) 4 n) 5 n)) rfl (Or.inl ⟨_, _, _, _, oyS_ok (by omega) rfl ef9 ef10 ef11 hpb9 hpb10 hpb11, by omega, by omega, rfl, rfl⟩)
      · skip
        have hpb11 := c3
        have ef11 := ra_F (T := P 0) (L := L) (k := k3) (w := 11) (m := 999)
        have en11 := ra_N (m := 999) hNe (k := k3) (w := 11) (by omega) (by decide)
        have eg11 := ra_ge (P 0) L (k3) 11 999
        generalize raK (P 0) L (k3) 11 999 = k4 at ef11 en11 eg11 ⊢
        refine v_iconst h pX2_readOyster_1 10 rfl ki_0 ?_
        exact v_zret h pX2_readOyster_1 11 (Or.inl rfl) hR hret rfl ((tpS P L N k4 (raV (P 0) L k3 11 ((pE (decide (so (P 0) L (St (P 0) L k2) = 10)) (P 0) L (St (P 0) L k2) 99 (pE (decide (so (P 0) L (St (P 0) L (k + 1)) = 9)) (P 0) L (St (P 0) L (k + 1)) 5 (newS E n kd 0) 3 n) 4 n) 5 n)), pE (decide (so (P 0) L (St (P 0) L k2) = 10)) (P 0) L (St (P 0) L k2) 99 (pE (decide (so (P 0) L (St (P 0) L (k + 1)) = 9)) (P 0) L (St (P 0) L (k + 1)) 5 (newS E n kd 0) 3 n) 4 n)) rfl (Or.inr ⟨_, _, _, oyS_e3 (by omega) rfl ef9 ef10 ef11 hpb9 hpb10 hpb11, by omega, rfl, rfl⟩)
    · skip
      have hpb10 := c2
      have ef10 := ra_F (T := P 0) (L := L) (k := k2) (w := 10) (m := 99)
      have en10 := ra_N (m := 99) hNe (k := k2) (w := 10) (by omega) (by decide)
      have eg10 := ra_ge (P 0) L (k2) 10 99
      generalize raK (P 0) L (k2) 10 99 = k3 at ef10 en10 eg10 ⊢
      refine v_iconst h pX2_readOyster_0 25 rfl ki_0 ?_
      exact v_zret h pX2_readOyster_0 26 (Or.inl rfl) hR hret rfl ((tpS P L N k3 (raV (P 0) L k2 10 ((pE (decide (so (P 0) L (St (P 0) L (k + 1)) = 9)) (P 0) L (St (P 0) L (k + 1)) 5 (newS E n kd 0) 3 n) 4 n)), pE (decide (so (P 0) L (St (P 0) L (k + 1)) = 9)) (P 0) L (St (P 0) L (k + 1)) 5 (newS E n kd 0) 3 n)) rfl (Or.inr ⟨_, _, _, oyS_e2 (by omega) rfl ef9 ef10 hpb9 hpb10, by omega, rfl, rfl⟩)
  · skip
    have hpb9 := c1
    have ef9 := ra_F (T := P 0) (L := L) (k := k + 1) (w := 9) (m := 5)
    have en9 := ra_N (m := 5) hNe (k := k + 1) (w := 9) (by omega) (by decide)
    have eg9 := ra_ge (P 0) L (k + 1) 9 5
    generalize raK (P 0) L (k + 1) 9 5 = k2 at ef9 en9 eg9 ⊢
    refine v_iconst h pX2_readOyster_0 6 rfl ki_0 ?_
    exact v_zret h pX2_readOyster_0 7 (Or.inl rfl) hR hret rfl ((tpS P L N k2 (raV (P 0) L (k + 1) 9 0), E)) rfl (Or.inr ⟨_, _, _, oyS_e1 (by omega) rfl ef9 hpb9, by omega, rfl, rfl⟩)
set_option maxHeartbeats 300000 in
set_option maxRecDepth 100000 in
theorem kX2_readItem (l : Launch) (D : va_G) (cI cS : ClassId) (a b : Nat → Nat) (x : xS) (P E : Nat → Nat → Int32) (L N k : Nat) (v : Int32) (hNe : St (P 0) L N = L) (hNL : N ≤ L) (hLb : L ≤ 120) (n : Nat) (hW : Wf E n) (hk : k ≤ N) : vMet l D (vT cI cS) yX2_readItem cX2_readItem 3 (some .boolean) 4 88 (uW cI a b) (exA x) [.ref (a 0), .ref (b 0)] (tpS P L N (k) v, E) (itC P L N k (itS (P 0) L E n (St (P 0) L k))) := by
  refine vMet_of (by decide) rfl ?_
  intro K hl hD hnL hret h hR hEx
  subst hl hD
  show V K (uW cI a b (tpS P L N k v, E)) 0 [(0, .ref (a 0)), (1, .ref (b 0))] []
  have hn8 := hW.1
  refine v_aload_n h pX2_readItem_0 0 rfl 0 rfl rfl (v_bipush h pX2_readItem_0 1 rfl kb_7 ?_)
  refine v_callV h pX2_readItem_0 2 mX2_44 (As := [.int 7]) (st := []) (kX2_passIf _ _ cI cS a P L N k 7 v hNe hNL hLb (by omega) (by omega)) v0B v0C uW_1 0 rfl rfl rfl rfl rfl rfl rfl (vDet_k ?_)
  show V K (uW cI a b (tpS P L N (pfK (P 0) L k 7) v, E)) 6 [(0, .ref (a 0)), (1, .ref (b 0))] [.int (bI (decide (so (P 0) L (St (P 0) L k) = 7)))]
  refine v_bif_eq (tgt := 15) h pX2_readItem_0 3 rfl rfl (fun c1 => ?_) (fun c1 => ?_)
  · skip
    have hps7 := of_decide_eq_false c1
    refine v_eqw (ws' := uW cI a b (tpS P L N k v, E)) (by rw [pfK_f hps7]) ?_
    refine v_aload_n h pX2_readItem_0 8 rfl 0 rfl rfl (v_bipush h pX2_readItem_0 9 rfl kb_8 ?_)
    refine v_callV h pX2_readItem_0 10 mX2_44 (As := [.int 8]) (st := []) (kX2_passIf _ _ cI cS a P L N k 8 v hNe hNL hLb (by omega) (by omega)) v0B v0C uW_1 0 rfl rfl rfl rfl rfl rfl rfl (vDet_k ?_)
    show V K (uW cI a b (tpS P L N (pfK (P 0) L k 8) v, E)) 21 [(0, .ref (a 0)), (1, .ref (b 0))] [.int (bI (decide (so (P 0) L (St (P 0) L k) = 8)))]
    refine v_bif_eq (tgt := 30) h pX2_readItem_0 11 rfl rfl (fun c2 => ?_) (fun c2 => ?_)
    · skip
      have hps8 := of_decide_eq_false c2
      refine v_eqw (ws' := uW cI a b (tpS P L N k v, E)) (by rw [pfK_f hps8]) ?_
      refine v_aload_n h pX2_readItem_0 16 rfl 0 rfl rfl (v_get h pX2_readItem_0 17 fX2_15 0 rfl rfl rfl (v_aload_n h pX2_readItem_0 18 rfl 0 rfl rfl (v_get h pX2_readItem_0 19 fX2_31 0 rfl rfl rfl (v_top (w := .int (nI k)) rfl (v_iald h pX2_readItem_0 20 k 2 0 rfl rfl rfl rfl rfl (by omega) ?_)))))
      refine v_top (w := .int (nI (so (P 0) L (St (P 0) L k)))) (congrArg Value.int (tp_1 (k := k) (v := v) (by omega))) ?_
      have hs17 := so_le (P 0) L (St (P 0) L k)
      refine v_istore_n h pX2_readItem_0 21 (lv' := [(2, .int (nI (so (P 0) L (St (P 0) L k)))), (0, .ref (a 0)), (1, .ref (b 0))]) rfl rfl hnL rfl rfl (v_iload_n h pX2_readItem_0 22 rfl 0 rfl rfl ?_)
      refine v_callSN h pX2_readItem_0 23 nX3_isKind hEx.2.1 (As := [.int (nI (so (P 0) L (St (P 0) L k)))]) (st := []) (kX3_isKind _ _ cI cS (nI (so (P 0) L (St (P 0) L k)))) v0B v0C (vEmb_u _) rfl rfl rfl rfl rfl (vDet_k ?_)
      rw [kd7 (by omega)]
      show V K (uW cI a b (tpS P L N k v, E)) 44 [(2, .int (nI (so (P 0) L (St (P 0) L k)))), (0, .ref (a 0)), (1, .ref (b 0))] [.int (bI (decide (so (P 0) L (St (P 0) L k) < 7)))]
      refine v_bif_eq (tgt := 75) h pX2_readItem_0 24 rfl rfl (fun c3 => ?_) (fun c3 => ?_)
      · skip
        have hk7 := of_decide_eq_false c3
        refine v_iconst h pX2_readItem_1 7 rfl ki_0 ?_
        exact v_zret h pX2_readItem_1 8 (Or.inl rfl) hR hret rfl ((tpS P L N k v, E)) rfl (Or.inr ⟨_, _, _, it_no hk7 hps7 hps8, by omega, rfl, rfl⟩)
      · skip
        have hk7 := of_decide_eq_true c3
        refine v_aload_n h pX2_readItem_0 25 rfl 2 rfl rfl ?_
        refine v_callV h pX2_readItem_0 26 mX2_57 (As := []) (st := []) (kX0_isFull _ _ cI cS b E n hW) v0B v0C uW_2 5 rfl rfl rfl rfl rfl rfl rfl (vDet_k ?_)
        show V K (uW cI a b (tpS P L N k v, E)) 51 [(2, .int (nI (so (P 0) L (St (P 0) L k)))), (0, .ref (a 0)), (1, .ref (b 0))] [.int (bI (decide (8 ≤ n)))]
        refine v_bif_ne (tgt := 75) h pX2_readItem_0 27 rfl rfl (fun c4 => ?_) (fun c4 => ?_)
        · skip
          have h8 := of_decide_eq_true c4
          refine v_iconst h pX2_readItem_1 7 rfl ki_0 ?_
          exact v_zret h pX2_readItem_1 8 (Or.inl rfl) hR hret rfl ((tpS P L N k v, E)) rfl (Or.inr ⟨_, _, _, (it_oy hk7).trans (oyS_8 (by omega)), by omega, rfl, rfl⟩)
        · skip
          have h8 := of_decide_eq_false c4
          refine v_aload_n h pX2_readItem_0 28 rfl 1 rfl rfl (v_iload_n h pX2_readItem_0 29 rfl 0 rfl rfl ?_)
          refine v_callV h pX2_readItem_0 30 mX2_44 (As := [.int (nI (so (P 0) L (St (P 0) L k)))]) (st := []) (kX2_passIf _ _ cI cS a P L N k (so (P 0) L (St (P 0) L k)) v hNe hNL hLb (by omega) (by omega)) v0B v0C uW_1 0 rfl rfl rfl rfl rfl rfl rfl (vDet_k ?_)
          show V K (uW cI a b (tpS P L N (pfK (P 0) L k (so (P 0) L (St (P 0) L k))) v, E)) 59 [(2, .int (nI (so (P 0) L (St (P 0) L k)))), (0, .ref (a 0)), (1, .ref (b 0))] [.int (bI (decide (so (P 0) L (St (P 0) L k) = (so (P 0) L (St (P 0) L k)))))]
          refine v_bif_eq (tgt := 75) h pX2_readItem_0 31 rfl rfl (fun c0 => absurd (c0.symm.trans (decide_eq_true rfl)) (by decide)) (fun c0 => ?_)
          have hkN0 := so_N hNe (k := k) (by omega) (by omega)
          refine v_eqw (ws' := uW cI a b (tpS P L N (k + 1) v, E)) (by rw [pfK_t rfl]) ?_
          refine v_aload_n h pX2_readItem_1 0 rfl 1 rfl rfl (v_aload_n h pX2_readItem_1 1 rfl 2 rfl rfl (v_iload_n h pX2_readItem_1 2 rfl 0 rfl rfl ?_))
          refine v_callV h pX2_readItem_1 3 mX2_63 (As := [.ref (b 0), .int (nI (so (P 0) L (St (P 0) L k)))]) (st := []) (kX2_readOyster _ _ cI cS a b x P E L N k v hNe hNL hLb n hW (by omega) (nI (so (P 0) L (St (P 0) L k))) (by omega)) (exA_B _) (exA_C hEx.2) (vEmb_rf _ _) 0 rfl rfl rfl rfl rfl rfl rfl (fun v5 u5 q5 => ?_)
          rcases q5 with ⟨E1, n1, k1, w1, hr, hk1, hk1N, rfl, rfl⟩ | ⟨E1, k1, w1, hr, hk1N, rfl, rfl⟩
          · skip
            show V K (uW cI a b (tpS P L N k1 w1, E1)) 68 [(2, .int (nI (so (P 0) L (St (P 0) L k)))), (0, .ref (a 0)), (1, .ref (b 0))] [.int 1]
            refine v_if_eq (tgt := 75) h pX2_readItem_1 4 rfl rfl (fun c6 => absurd c6 (by decide)) (fun c6 => ?_)
            refine v_iconst h pX2_readItem_1 5 rfl ki_1 (v_goto (tgt := 76) h pX2_readItem_1 6 rfl rfl ?_)
            exact v_zret h pX2_readItem_1 8 (Or.inr rfl) hR hret rfl ((tpS P L N k1 w1, E1)) rfl (Or.inl ⟨_, _, _, _, (it_oy hk7).trans hr, by omega, by omega, rfl, rfl⟩)
          · skip
            show V K (uW cI a b (tpS P L N k1 w1, E1)) 68 [(2, .int (nI (so (P 0) L (St (P 0) L k)))), (0, .ref (a 0)), (1, .ref (b 0))] [.int 0]
            refine v_if_eq (tgt := 75) h pX2_readItem_1 4 rfl rfl (fun c7 => ?_) (fun c7 => absurd c7 (by decide))
            refine v_iconst h pX2_readItem_1 7 rfl ki_0 ?_
            exact v_zret h pX2_readItem_1 8 (Or.inl rfl) hR hret rfl ((tpS P L N k1 w1, E1)) rfl (Or.inr ⟨_, _, _, (it_oy hk7).trans hr, by omega, rfl, rfl⟩)
    · skip
      have hps8 := of_decide_eq_true c2
      refine v_eqw (ws' := uW cI a b (tpS P L N (k + 1) v, E)) (by rw [pfK_t hps8]) ?_
      have hkNc2 := so_N hNe (k := k) (by omega) (by omega)
      refine v_aload_n h pX2_readItem_0 12 rfl 0 rfl rfl (v_aload_n h pX2_readItem_0 13 rfl 1 rfl rfl ?_)
      refine v_callV h pX2_readItem_0 14 mX2_51 (As := [.ref (b 0)]) (st := []) (kX2_readComes _ _ cI cS a b x P E L N k v hNe hNL hLb n (by omega)) (exA_B _) (exA_C hEx.2) (vEmb_rf _ _) 0 rfl rfl rfl rfl rfl rfl rfl (fun v8 u8 q8 => ?_)
      rcases q8 with ⟨E1, n1, k1, w1, hr, hk1, hk1N, rfl, rfl⟩ | ⟨E1, k1, w1, hr, hk1N, rfl, rfl⟩
      · skip
        show V K (uW cI a b (tpS P L N k1 w1, E1)) 29 [(0, .ref (a 0)), (1, .ref (b 0))] [.int 1]
        exact v_zret h pX2_readItem_0 15 (Or.inr rfl) hR hret rfl ((tpS P L N k1 w1, E1)) rfl (Or.inl ⟨_, _, _, _, (it_com hps8).trans hr, by omega, by omega, rfl, rfl⟩)
      · skip
        show V K (uW cI a b (tpS P L N k1 w1, E1)) 29 [(0, .ref (a 0)), (1, .ref (b 0))] [.int 0]
        exact v_zret h pX2_readItem_0 15 (Or.inl rfl) hR hret rfl ((tpS P L N k1 w1, E1)) rfl (Or.inr ⟨_, _, _, (it_com hps8).trans hr, by omega, rfl, rfl⟩)
  · skip
    have hps7 := of_decide_eq_true c1
    refine v_eqw (ws' := uW cI a b (tpS P L N (k + 1) v, E)) (by rw [pfK_t hps7]) ?_
    have hkNc1 := so_N hNe (k := k) (by omega) (by omega)
    refine v_aload_n h pX2_readItem_0 4 rfl 0 rfl rfl (v_aload_n h pX2_readItem_0 5 rfl 1 rfl rfl ?_)
    refine v_callV h pX2_readItem_0 6 mX2_48 (As := [.ref (b 0)]) (st := []) (kX2_readBed _ _ cI cS a b x P E L N k v hNe hNL hLb n (by omega)) (exA_B _) (exA_C hEx.2) (vEmb_rf _ _) 0 rfl rfl rfl rfl rfl rfl rfl (fun v9 u9 q9 => ?_)
    rcases q9 with ⟨E1, n1, k1, w1, hr, hk1, hk1N, rfl, rfl⟩ | ⟨E1, k1, w1, hr, hk1N, rfl, rfl⟩
    · skip
      show V K (uW cI a b (tpS P L N k1 w1, E1)) 14 [(0, .ref (a 0)), (1, .ref (b 0))] [.int 1]
      exact v_zret h pX2_readItem_0 7 (Or.inr rfl) hR hret rfl ((tpS P L N k1 w1, E1)) rfl (Or.inl ⟨_, _, _, _, (it_bed hps7).trans hr, by omega, by omega, rfl, rfl⟩)
    · skip
      show V K (uW cI a b (tpS P L N k1 w1, E1)) 14 [(0, .ref (a 0)), (1, .ref (b 0))] [.int 0]
      exact v_zret h pX2_readItem_0 7 (Or.inl rfl) hR hret rfl ((tpS P L N k1 w1, E1)) rfl (Or.inr ⟨_, _, _, (it_bed hps7).trans hr, by omega, rfl, rfl⟩)
