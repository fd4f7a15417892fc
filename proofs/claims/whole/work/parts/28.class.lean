set_option maxHeartbeats 300000 in
set_option maxRecDepth 100000 in
theorem kX3_trialGrowsAs (l : Launch) (D : va_G) (cI cS : ClassId) (a : Nat → Nat) (E T Kp P F : Nat → Nat → Int32) (S : Nat → Nat → Nat → Int32) (hS : WfS S) (t y : Nat) (ht : t < 4) (hy : y < 8) (n : Nat) (hT : Wf T n) (hz : T 9 4 = 0) : vMet l D (vT cI cS) yX3_trialGrowsAs cX3_trialGrowsAs 5 (some .boolean) 4 82 (cW cI cS a) v0 [.ref (a 0), .ref (a (37 + 2 * t)), .int (nI y)] (E, T, Kp, P, S, F) (cRel (some (.int (bI (likS n T (S t 0) y (ix (S t 1 1)))))) E Kp P S F) := by
  refine vMet_of (by decide) rfl ?_
  intro K hl hD hnL hret h hR hEx
  subst hl hD
  show V K (cW cI cS a (E, T, Kp, P, S, F)) 0 [(0, .ref (a 0)), (1, .ref (a (37 + 2 * t))), (2, .int (nI y))] []
  have hsz := hS.sizeL ht
  refine v_iconst h pX3_trialGrowsAs_0 0 rfl ki_0 (v_istore_n h pX3_trialGrowsAs_0 1 (lv' := [(3, .int 0), (0, .ref (a 0)), (1, .ref (a (37 + 2 * t))), (2, .int (nI y))]) rfl rfl hnL rfl rfl ?_)
  refine v_lv [1, 2, 3, 0] (lv' := [(0, .ref (a 0)), (1, .ref (a (37 + 2 * t))), (2, .int (nI y)), (3, .int 0)]) rfl ?_
  have LA : ∀ (m iA : Nat), iA ≤ (ix (S t 1 1)) → (likS n T (S t 0) y iA = true) → (ix (S t 1 1)) + 1 ≤ iA + m → V K (cW cI cS a (E, yearsS n 0 T (iA - 1), Kp, P, S, F)) 2 [(0, .ref (a 0)), (1, .ref (a (37 + 2 * t))), (2, .int (nI y)), (3, .int (nI iA))] [] := by
    intro m
    induction m with
    | zero => exact fun iA h1 hh h2 => absurd h2 (by omega)
    | succ m ihA =>
      intro iA hleA hhA hltA
      refine v_iload_n h pX3_trialGrowsAs_0 2 rfl 3 rfl rfl (v_aload_n h pX3_trialGrowsAs_0 3 rfl 1 rfl rfl (v_get h pX3_trialGrowsAs_0 4 fX3_204 (37 + 2 * t) rfl (cW_sh (by omega)) rfl (v_top (w := .int (nI (ix (S t 1 1)))) (congrArg Value.int (hS.size (by omega))) ?_)))
      refine v_ncmp_ge (a := iA) (b := ix (S t 1 1)) (tgt := 57) h pX3_trialGrowsAs_0 5 rfl rfl (by omega) (by omega) (fun c2 => ?_) (fun c2 => ?_)
      · skip
        refine v_iconst h pX3_trialGrowsAs_0 30 rfl ki_1 ?_
        exact v_zret h pX3_trialGrowsAs_0 31 (Or.inr rfl) hR hret rfl ((E, yearsS n 0 T (iA - 1), Kp, P, S, F)) rfl ⟨vI (by first | (rw [show iA = ix (S t 1 1) by omega] at hhA; rw [hhA]; rfl) | (rw [likS_no (k := iA) (by rw [likB]; simp [c2]) (by omega)]; rfl)), _, rfl⟩
      · skip
        refine v_iload_n h pX3_trialGrowsAs_0 6 rfl 3 rfl rfl ?_
        refine v_nif_le (a := iA) (tgt := 21) h pX3_trialGrowsAs_0 7 rfl rfl (by omega) (fun c3 => ?_) (fun c3 => ?_)
        · skip
          refine v_eqw (ws' := cW cI cS a (E, yearsS n 0 T iA, Kp, P, S, F)) (by rw [show iA - 1 = iA from by omega]) ?_
          refine v_aload_n h pX3_trialGrowsAs_0 11 rfl 1 rfl rfl (v_get h pX3_trialGrowsAs_0 12 fX3_207 (37 + 2 * t) rfl (cW_sh (by omega)) rfl (v_iload_n h pX3_trialGrowsAs_0 13 rfl 3 rfl rfl (v_iald h pX3_trialGrowsAs_0 14 iA (38 + 2 * t) 0 rfl (cW_sn2 (by omega)) rfl rfl rfl (by omega) (v_istore h pX3_trialGrowsAs_0 15 (lv' := [(4, .int (S t 0 iA)), (0, .ref (a 0)), (1, .ref (a (37 + 2 * t))), (2, .int (nI y)), (3, .int (nI iA))]) rfl hnL rfl rfl (v_iload h pX3_trialGrowsAs_0 16 rfl 0 rfl ?_)))))
          refine v_iconst h pX3_trialGrowsAs_0 17 rfl ki_m1 ?_
          refine v_icmp_eq (tgt := 51) h pX3_trialGrowsAs_0 18 rfl rfl (fun c4 => ?_) (fun c4 => ?_)
          · skip
            refine v_iinc h pX3_trialGrowsAs_0 28 (v := nI (iA + 1)) (lv' := [(3, .int (nI (iA + 1))), (4, .int (S t 0 iA)), (0, .ref (a 0)), (1, .ref (a (37 + 2 * t))), (2, .int (nI y))]) rfl 4 rfl hnL rfl rfl (nI_1 iA) (v_goto (tgt := 2) h pX3_trialGrowsAs_0 29 rfl rfl (v_lv [2, 3, 4, 0] (lv' := [(0, .ref (a 0)), (1, .ref (a (37 + 2 * t))), (2, .int (nI y)), (3, .int (nI (iA + 1)))]) rfl (v_eqw (ws' := cW cI cS a (E, yearsS n 0 T ((iA + 1) - 1), Kp, P, S, F)) (by rw [Nat.add_sub_cancel]) ?_)))
            exact ihA (iA + 1) (by omega) (by rw [likS, hhA, likB]; simp [c2, (eq_true c3), (eq_true c4)]) (by omega)
          · skip
            refine v_iload h pX3_trialGrowsAs_0 19 rfl 0 rfl (v_aload_n h pX3_trialGrowsAs_0 20 rfl 1 rfl rfl (v_get h pX3_trialGrowsAs_0 21 fX3_16 0 rfl rfl rfl (v_get h pX3_trialGrowsAs_0 22 fX3_116 11 rfl rfl rfl (v_iload_n h pX3_trialGrowsAs_0 23 rfl 3 rfl rfl (v_iald h pX3_trialGrowsAs_0 24 y 17 0 rfl rfl rfl rfl rfl (by omega) ?_)))))
            refine v_icmp_eq (tgt := 51) h pX3_trialGrowsAs_0 25 rfl rfl (fun c5 => ?_) (fun c5 => ?_)
            · skip
              refine v_iinc h pX3_trialGrowsAs_0 28 (v := nI (iA + 1)) (lv' := [(3, .int (nI (iA + 1))), (4, .int (S t 0 iA)), (0, .ref (a 0)), (1, .ref (a (37 + 2 * t))), (2, .int (nI y))]) rfl 4 rfl hnL rfl rfl (nI_1 iA) (v_goto (tgt := 2) h pX3_trialGrowsAs_0 29 rfl rfl (v_lv [2, 3, 4, 0] (lv' := [(0, .ref (a 0)), (1, .ref (a (37 + 2 * t))), (2, .int (nI y)), (3, .int (nI (iA + 1)))]) rfl (v_eqw (ws' := cW cI cS a (E, yearsS n 0 T ((iA + 1) - 1), Kp, P, S, F)) (by rw [Nat.add_sub_cancel]) ?_)))
              exact ihA (iA + 1) (by omega) (by rw [likS, hhA, likB]; simp [c2, (eq_true c3), c4, (eq_true c5)]) (by omega)
            · skip
              refine v_iconst h pX3_trialGrowsAs_0 26 rfl ki_0 ?_
              exact v_zret h pX3_trialGrowsAs_0 27 (Or.inl rfl) hR hret rfl ((E, yearsS n 0 T iA, Kp, P, S, F)) rfl ⟨vI (by first | (rw [show iA = ix (S t 1 1) by omega] at hhA; rw [hhA]; rfl) | (rw [likS_no (k := iA) (by rw [likB]; simp [c2, (eq_true c3), c4, c5]) (by omega)]; rfl)), _, rfl⟩
        · skip
          refine v_aload_n h pX3_trialGrowsAs_0 8 rfl 0 rfl rfl (v_get h pX3_trialGrowsAs_0 9 fX3_16 0 rfl rfl rfl ?_)
          refine v_callV h pX3_trialGrowsAs_0 10 mX3_146 (As := []) (st := []) (kX0_passYear0 _ _ cI cS (sh a 11) (yearsS n 0 T (iA - 1)) n (Wf_years hT 0 _) ((yearsS_94 _ _ _ _).trans hz)) v0B v0C emb_T 11 rfl rfl rfl rfl rfl rfl rfl (vDet_k ?_)
          show V K (cW cI cS a (E, yearS n 0 (yearsS n 0 T (iA - 1)), Kp, P, S, F)) 21 [(0, .ref (a 0)), (1, .ref (a (37 + 2 * t))), (2, .int (nI y)), (3, .int (nI iA))] []
          refine v_eqw (ws' := cW cI cS a (E, yearsS n 0 T iA, Kp, P, S, F)) (by rw [yr_pred (by omega)]) ?_
          refine v_aload_n h pX3_trialGrowsAs_0 11 rfl 1 rfl rfl (v_get h pX3_trialGrowsAs_0 12 fX3_207 (37 + 2 * t) rfl (cW_sh (by omega)) rfl (v_iload_n h pX3_trialGrowsAs_0 13 rfl 3 rfl rfl (v_iald h pX3_trialGrowsAs_0 14 iA (38 + 2 * t) 0 rfl (cW_sn2 (by omega)) rfl rfl rfl (by omega) (v_istore h pX3_trialGrowsAs_0 15 (lv' := [(4, .int (S t 0 iA)), (0, .ref (a 0)), (1, .ref (a (37 + 2 * t))), (2, .int (nI y)), (3, .int (nI iA))]) rfl hnL rfl rfl (v_iload h pX3_trialGrowsAs_0 16 rfl 0 rfl ?_)))))
          refine v_iconst h pX3_trialGrowsAs_0 17 rfl ki_m1 ?_
          refine v_icmp_eq (tgt := 51) h pX3_trialGrowsAs_0 18 rfl rfl (fun c6 => ?_) (fun c6 => ?_)
          · skip
            refine v_iinc h pX3_trialGrowsAs_0 28 (v := nI (iA + 1)) (lv' := [(3, .int (nI (iA + 1))), (4, .int (S t 0 iA)), (0, .ref (a 0)), (1, .ref (a (37 + 2 * t))), (2, .int (nI y))]) rfl 4 rfl hnL rfl rfl (nI_1 iA) (v_goto (tgt := 2) h pX3_trialGrowsAs_0 29 rfl rfl (v_lv [2, 3, 4, 0] (lv' := [(0, .ref (a 0)), (1, .ref (a (37 + 2 * t))), (2, .int (nI y)), (3, .int (nI (iA + 1)))]) rfl (v_eqw (ws' := cW cI cS a (E, yearsS n 0 T ((iA + 1) - 1), Kp, P, S, F)) (by rw [Nat.add_sub_cancel]) ?_)))
            exact ihA (iA + 1) (by omega) (by rw [likS, hhA, likB]; simp [c2, c3, (eq_true c6)]) (by omega)
          · skip
            refine v_iload h pX3_trialGrowsAs_0 19 rfl 0 rfl (v_aload_n h pX3_trialGrowsAs_0 20 rfl 1 rfl rfl (v_get h pX3_trialGrowsAs_0 21 fX3_16 0 rfl rfl rfl (v_get h pX3_trialGrowsAs_0 22 fX3_116 11 rfl rfl rfl (v_iload_n h pX3_trialGrowsAs_0 23 rfl 3 rfl rfl (v_iald h pX3_trialGrowsAs_0 24 y 17 0 rfl rfl rfl rfl rfl (by omega) ?_)))))
            refine v_icmp_eq (tgt := 51) h pX3_trialGrowsAs_0 25 rfl rfl (fun c7 => ?_) (fun c7 => ?_)
            · skip
              refine v_iinc h pX3_trialGrowsAs_0 28 (v := nI (iA + 1)) (lv' := [(3, .int (nI (iA + 1))), (4, .int (S t 0 iA)), (0, .ref (a 0)), (1, .ref (a (37 + 2 * t))), (2, .int (nI y))]) rfl 4 rfl hnL rfl rfl (nI_1 iA) (v_goto (tgt := 2) h pX3_trialGrowsAs_0 29 rfl rfl (v_lv [2, 3, 4, 0] (lv' := [(0, .ref (a 0)), (1, .ref (a (37 + 2 * t))), (2, .int (nI y)), (3, .int (nI (iA + 1)))]) rfl (v_eqw (ws' := cW cI cS a (E, yearsS n 0 T ((iA + 1) - 1), Kp, P, S, F)) (by rw [Nat.add_sub_cancel]) ?_)))
              exact ihA (iA + 1) (by omega) (by rw [likS, hhA, likB]; simp [c2, c3, c6, (eq_true c7)]) (by omega)
            · skip
              refine v_iconst h pX3_trialGrowsAs_0 26 rfl ki_0 ?_
              exact v_zret h pX3_trialGrowsAs_0 27 (Or.inl rfl) hR hret rfl ((E, yearsS n 0 T iA, Kp, P, S, F)) rfl ⟨vI (by first | (rw [show iA = ix (S t 1 1) by omega] at hhA; rw [hhA]; rfl) | (rw [likS_no (k := iA) (by rw [likB]; simp [c2, c3, c6, c7]) (by omega)]; rfl)), _, rfl⟩
  exact LA ((ix (S t 1 1)) + 1) 0 (by omega) rfl (by omega)
set_option maxHeartbeats 300000 in
set_option maxRecDepth 100000 in
theorem kX3_fitsWeight (l : Launch) (D : va_G) (cI cS : ClassId) (a : Nat → Nat) (E T Kp P F : Nat → Nat → Int32) (S : Nat → Nat → Nat → Int32) (hS : WfS S) (n : Nat) (hW : Wf E n) (hZ : E 9 4 = 0) (t y w : Nat) (ht : t < 4) (hy : y < 8) (hw : w ≤ 99) : vMet l D (vT cI cS) yX3_fitsWeight cX3_fitsWeight 4 (some .boolean) 5 106 (cW cI cS a) v0 [.ref (a 0), .int (nI t), .int (nI y), .int (nI w)] (E, T, Kp, P, S, F) (cRel (some (.int (bI (likS n (up E 4 y (nI w)) (S t 0) y (ix (S t 1 1)))))) E Kp P S F) := by
  refine vMet_of (by decide) rfl ?_
  intro K hl hD hnL hret h hR hEx
  subst hl hD
  show V K (cW cI cS a (E, T, Kp, P, S, F)) 0 [(0, .ref (a 0)), (1, .int (nI t)), (2, .int (nI y)), (3, .int (nI w))] []
  refine v_aload_n h pX3_fitsWeight_0 0 rfl 0 rfl rfl (v_get h pX3_fitsWeight_0 1 fX3_16 0 rfl rfl rfl (v_aload_n h pX3_fitsWeight_0 2 rfl 0 rfl rfl (v_get h pX3_fitsWeight_0 3 fX3_10 0 rfl rfl rfl ?_)))
  refine v_callV h pX3_fitsWeight_0 4 mX3_139 (As := [.ref (a 1)]) (st := []) (kX0_copyFrom _ _ cI cS (sh a 11) (sh a 1) E T) v0B v0C emb_TE 11 rfl rfl rfl rfl rfl rfl rfl (vDet_k ?_)
  show V K (cW cI cS a (E, E, Kp, P, S, F)) 11 [(0, .ref (a 0)), (1, .int (nI t)), (2, .int (nI y)), (3, .int (nI w))] []
  refine v_aload_n h pX3_fitsWeight_0 5 rfl 0 rfl rfl (v_get h pX3_fitsWeight_0 6 fX3_16 0 rfl rfl rfl (v_get h pX3_fitsWeight_0 7 fX3_158 11 rfl rfl rfl (v_iload_n h pX3_fitsWeight_0 8 rfl 2 rfl rfl (v_iload_n h pX3_fitsWeight_0 9 rfl 3 rfl rfl (v_iast h pX3_fitsWeight_0 10 y 16 0 (ws' := cW cI cS a (E, up E 4 y (nI w), Kp, P, S, F)) rfl rfl rfl rfl rfl (by omega) cW_Ts4 ?_)))))
  refine v_aload_n h pX3_fitsWeight_0 11 rfl 0 rfl rfl (v_aload_n h pX3_fitsWeight_0 12 rfl 0 rfl rfl (v_get h pX3_fitsWeight_0 13 fX3_35 0 rfl rfl rfl (v_iload_n h pX3_fitsWeight_0 14 rfl 1 rfl rfl (v_aald h pX3_fitsWeight_0 15 t 36 1 rfl rfl rfl rfl rfl (by omega) rfl (v_iload_n h pX3_fitsWeight_0 16 rfl 2 rfl rfl ?_)))))
  refine v_callV h pX3_fitsWeight_0 17 mX3_194 (As := [.ref (a (37 + 2 * t)), .int (nI y)]) (st := []) (kX3_trialGrowsAs _ _ cI cS a E (up E 4 y (nI w)) Kp P F S hS t y (by omega) (by omega) n (Wf_upw hW (by omega)) (show (up E 4 y (nI w)) 9 4 = 0 from hZ)) v0B v0C (vEmb_rf _ _) 0 rfl rfl rfl rfl rfl rfl rfl (fun v1 u1 q1 => ?_)
  obtain ⟨rfl, X1, rfl⟩ := q1
  show V K (cW cI cS a (E, X1, Kp, P, S, F)) 32 [(0, .ref (a 0)), (1, .int (nI t)), (2, .int (nI y)), (3, .int (nI w))] [.int (bI (likS n (up E 4 y (nI w)) (S t 0) y (ix (S t 1 1))))]
  exact v_zret h pX3_fitsWeight_0 18 (bI_01 _) hR hret rfl ((E, X1, Kp, P, S, F)) rfl ⟨vI rfl, _, rfl⟩
set_option maxHeartbeats 300000 in
set_option maxRecDepth 100000 in
theorem kX3_faultOfTelling (l : Launch) (D : va_G) (cI cS : ClassId) (a : Nat → Nat) (E T Kp P F : Nat → Nat → Int32) (S : Nat → Nat → Nat → Int32) (n : Nat) (hW : Wf E n) (s y : Int32) : vDet l D (vT cI cS) yX3_faultOfTelling cX3_faultOfTelling 3 (some .int) 2 42 (cW cI cS a) [.ref (a 0), .int s, .int y] (E, T, Kp, P, S, F) (some (.int (fotS S s y n))) ((E, T, Kp, P, S, F)) := by
  refine vMet_of (by decide) rfl ?_
  intro K hl hD hnL hret h hR hEx
  subst hl hD
  show V K (cW cI cS a (E, T, Kp, P, S, F)) 0 [(0, .ref (a 0)), (1, .int s), (2, .int y)] []
  refine v_iload_n h pX3_faultOfTelling_0 0 rfl 1 rfl rfl ?_
  refine v_callS h pX3_faultOfTelling_0 1 mX3_198 (As := [.int s]) (st := []) (kX3_isSheet _ _ cI cS s) v0B v0C (vEmb_u _) rfl rfl rfl rfl rfl (vDet_k ?_)
  show V K (cW cI cS a (E, T, Kp, P, S, F)) 4 [(0, .ref (a 0)), (1, .int s), (2, .int y)] [.int (bI (inB s 0 3))]
  refine v_bif_ne (tgt := 9) h pX3_faultOfTelling_0 2 rfl rfl (fun c1 => ?_) (fun c1 => ?_)
  · skip
    obtain ⟨e_s, l_s⟩ := inB_t 3 rfl (by decide) c1
    refine v_aload_n h pX3_faultOfTelling_0 5 rfl 0 rfl rfl (v_get h pX3_faultOfTelling_0 6 fX3_35 0 rfl rfl rfl (v_iload_n h pX3_faultOfTelling_0 7 rfl 1 rfl rfl (v_top (w := .int (nI (ix s))) (congrArg Value.int e_s) (v_aald h pX3_faultOfTelling_0 8 (ix s) 36 1 rfl rfl rfl rfl rfl (by omega) rfl ?_))))
    refine v_callV h pX3_faultOfTelling_0 9 mX3_201 (As := []) (st := []) (kX1_isMissing _ _ cI cS (sh a (37 + 2 * (ix s))) (S (ix s))) v0B v0C (emb_S (by omega)) (37 + 2 * (ix s)) rfl (cW_sh (by omega)) rfl rfl rfl rfl rfl (vDet_k ?_)
    show V K (cW cI cS a (E, T, Kp, P, st S (ix s) (S (ix s)), F)) 18 [(0, .ref (a 0)), (1, .int s), (2, .int y)] [.int (bI (decide (S (ix s) 1 0 = 0)))]
    refine v_eqw (ws' := cW cI cS a (E, T, Kp, P, S, F)) (by rw [st_id]) ?_
    refine v_bif_eq (tgt := 23) h pX3_faultOfTelling_0 10 rfl rfl (fun c2 => ?_) (fun c2 => ?_)
    · skip
      have c2m := of_decide_eq_false c2
      refine v_aload_n h pX3_faultOfTelling_0 13 rfl 0 rfl rfl (v_iload_n h pX3_faultOfTelling_0 14 rfl 2 rfl rfl ?_)
      refine v_callV h pX3_faultOfTelling_0 15 mX3_83 (As := [.int y]) (st := []) (kX3_isOyster _ _ cI cS a E T Kp P F S n hW y) v0B v0C (vEmb_rf _ _) 0 rfl rfl rfl rfl rfl rfl rfl (vDet_k ?_)
      show V K (cW cI cS a (E, T, Kp, P, S, F)) 28 [(0, .ref (a 0)), (1, .int s), (2, .int y)] [.int (bI (oyB y n))]
      refine v_bif_eq (tgt := 35) h pX3_faultOfTelling_0 16 rfl rfl (fun c3 => ?_) (fun c3 => ?_)
      · skip
        refine v_iconst h pX3_faultOfTelling_0 19 rfl ki_0 ?_
        exact v_iret h pX3_faultOfTelling_0 20 hR hret rfl ((E, T, Kp, P, S, F)) rfl ⟨vI (by simp [fotS, c1, c2m, c3]), rfl⟩
      · skip
        refine v_iconst h pX3_faultOfTelling_0 17 rfl ki_m1 (v_goto (tgt := 36) h pX3_faultOfTelling_0 18 rfl rfl ?_)
        exact v_iret h pX3_faultOfTelling_0 20 hR hret rfl ((E, T, Kp, P, S, F)) rfl ⟨vI (by simp [fotS, c1, c2m, c3]), rfl⟩
    · skip
      have c2m := of_decide_eq_true c2
      refine v_iconst h pX3_faultOfTelling_0 11 rfl ki_5 ?_
      exact v_iret h pX3_faultOfTelling_0 12 hR hret rfl ((E, T, Kp, P, S, F)) rfl ⟨vI (by simp [fotS, c1, (eq_true c2m)]), rfl⟩
  · skip
    refine v_iconst h pX3_faultOfTelling_0 3 rfl ki_0 ?_
    exact v_iret h pX3_faultOfTelling_0 4 hR hret rfl ((E, T, Kp, P, S, F)) rfl ⟨vI (by simp [fotS, c1]), rfl⟩
set_option maxHeartbeats 300000 in
set_option maxRecDepth 100000 in
theorem kX3_fits (l : Launch) (D : va_G) (cI cS : ClassId) (a : Nat → Nat) (E T Kp P F : Nat → Nat → Int32) (S : Nat → Nat → Nat → Int32) (n : Nat) (hW : Wf E n) (hZ : E 9 4 = 0) (hS : WfS S) (t y : Int32) : vMet l D (vT cI cS) yX3_fits cX3_fits 6 (some .int) 6 129 (cW cI cS a) v0 [.ref (a 0), .int t, .int y] (E, T, Kp, P, S, F) (cPost (some (.int (if inB t 0 3 = true then (if S (ix t) 1 0 = 0 then (-1000006) else if oyB y n = true then (nI (cntU (fun v => likS n (up E 4 (ix y) (nI v)) (S (ix t) 0) (ix y) (ix (S (ix t) 1 1))) 99)) else (-1000001)) else (-1000001)))) (E) (Kp) (P) (S) (if inB t 0 3 = true then (if S (ix t) 1 0 = 0 then fndC F 5 else if oyB y n = true then (F) else fndC F 0) else fndC F 0)) := by
  refine vMet_of (by decide) rfl ?_
  intro K hl hD hnL hret h hR hEx
  subst hl hD
  show V K (cW cI cS a (E, T, Kp, P, S, F)) 0 [(0, .ref (a 0)), (1, .int t), (2, .int y)] []
  have hn8 := hW.1
  refine v_aload_n h pX3_fits_0 0 rfl 0 rfl rfl (v_iload_n h pX3_fits_0 1 rfl 1 rfl rfl (v_iload_n h pX3_fits_0 2 rfl 2 rfl rfl ?_))
  refine v_callV h pX3_fits_0 3 mX3_187 (As := [.int t, .int y]) (st := []) (kX3_faultOfTelling _ _ cI cS a E T Kp P F S n hW t y) v0B v0C (vEmb_rf _ _) 0 rfl rfl rfl rfl rfl rfl rfl (vDet_k ?_)
  show V K (cW cI cS a (E, T, Kp, P, S, F)) 6 [(0, .ref (a 0)), (1, .int t), (2, .int y)] [.int (fotS S t y n)]
  rcases fot_c S t y n with ⟨qa, qe⟩ | ⟨qa, qb, qe⟩ | ⟨qa, qb, qc, qe⟩ | ⟨qa, qb, qc, qe⟩
  · skip
    refine v_top (w := .int 0) (congrArg Value.int qe) (v_istore_n h pX3_fits_0 4 (lv' := [(3, .int 0), (0, .ref (a 0)), (1, .int t), (2, .int y)]) rfl rfl hnL rfl rfl (v_iload_n h pX3_fits_0 5 rfl 0 rfl rfl ?_))
    refine v_if_lt (tgt := 17) h pX3_fits_0 6 rfl rfl (fun c1 => absurd c1 (by decide)) (fun c1 => ?_)
    refine v_aload_n h pX3_fits_0 7 rfl 1 rfl rfl (v_iload_n h pX3_fits_0 8 rfl 0 rfl rfl ?_)
    refine v_callV h pX3_fits_0 9 mX3_55 (As := [.int 0]) (st := []) (kX3_finding _ _ cI cS a E T Kp P F S 0 (by decide)) v0B v0C (vEmb_rf _ _) 0 rfl rfl rfl rfl rfl rfl rfl (vDet_k ?_)
    show V K (cW cI cS a (E, T, Kp, P, S, fndC F 0)) 16 [(3, .int 0), (0, .ref (a 0)), (1, .int t), (2, .int y)] [.int ((-1000001) - (nI 0))]
    refine v_top (w := .int (-1000001)) (by decide) ?_
    exact v_iret h pX3_fits_0 10 hR hret rfl ((E, T, Kp, P, S, fndC F 0)) rfl ⟨vI (by simp [qa]), rfl, rfl, ⟨rfl, rfl⟩, rfl, (fR_of (by simp [qa]))⟩
  · skip
    refine v_top (w := .int 5) (congrArg Value.int qe) (v_istore_n h pX3_fits_0 4 (lv' := [(3, .int 5), (0, .ref (a 0)), (1, .int t), (2, .int y)]) rfl rfl hnL rfl rfl (v_iload_n h pX3_fits_0 5 rfl 0 rfl rfl ?_))
    refine v_if_lt (tgt := 17) h pX3_fits_0 6 rfl rfl (fun c2 => absurd c2 (by decide)) (fun c2 => ?_)
    refine v_aload_n h pX3_fits_0 7 rfl 1 rfl rfl (v_iload_n h pX3_fits_0 8 rfl 0 rfl rfl ?_)
    refine v_callV h pX3_fits_0 9 mX3_55 (As := [.int 5]) (st := []) (kX3_finding _ _ cI cS a E T Kp P F S 5 (by decide)) v0B v0C (vEmb_rf _ _) 0 rfl rfl rfl rfl rfl rfl rfl (vDet_k ?_)
    show V K (cW cI cS a (E, T, Kp, P, S, fndC F 5)) 16 [(3, .int 5), (0, .ref (a 0)), (1, .int t), (2, .int y)] [.int ((-1000001) - (nI 5))]
    refine v_top (w := .int (-1000006)) (by decide) ?_
    exact v_iret h pX3_fits_0 10 hR hret rfl ((E, T, Kp, P, S, fndC F 5)) rfl ⟨vI (by simp [qa, (eq_true qb)]), rfl, rfl, ⟨rfl, rfl⟩, rfl, (fR_of (by simp [qa, (eq_true qb)]))⟩
  · skip
    refine v_top (w := .int 0) (congrArg Value.int qe) (v_istore_n h pX3_fits_0 4 (lv' := [(3, .int 0), (0, .ref (a 0)), (1, .int t), (2, .int y)]) rfl rfl hnL rfl rfl (v_iload_n h pX3_fits_0 5 rfl 0 rfl rfl ?_))
    refine v_if_lt (tgt := 17) h pX3_fits_0 6 rfl rfl (fun c3 => absurd c3 (by decide)) (fun c3 => ?_)
    refine v_aload_n h pX3_fits_0 7 rfl 1 rfl rfl (v_iload_n h pX3_fits_0 8 rfl 0 rfl rfl ?_)
    refine v_callV h pX3_fits_0 9 mX3_55 (As := [.int 0]) (st := []) (kX3_finding _ _ cI cS a E T Kp P F S 0 (by decide)) v0B v0C (vEmb_rf _ _) 0 rfl rfl rfl rfl rfl rfl rfl (vDet_k ?_)
    show V K (cW cI cS a (E, T, Kp, P, S, fndC F 0)) 16 [(3, .int 0), (0, .ref (a 0)), (1, .int t), (2, .int y)] [.int ((-1000001) - (nI 0))]
    refine v_top (w := .int (-1000001)) (by decide) ?_
    exact v_iret h pX3_fits_0 10 hR hret rfl ((E, T, Kp, P, S, fndC F 0)) rfl ⟨vI (by simp [qa, qb, qc]), rfl, rfl, ⟨rfl, rfl⟩, rfl, (fR_of (by simp [qa, qb, qc]))⟩
  · skip
    refine v_top (w := .int (-1)) (congrArg Value.int qe) ?_
    obtain ⟨e_t, l_t⟩ := inB_t 3 rfl (by decide) qa
    obtain ⟨e_y, l_y⟩ := oyB_t hn8 qc
    refine v_istore_n h pX3_fits_0 4 (lv' := [(3, .int (-1)), (0, .ref (a 0)), (1, .int t), (2, .int y)]) rfl rfl hnL rfl rfl (v_iload_n h pX3_fits_0 5 rfl 0 rfl rfl ?_)
    refine v_if_lt (tgt := 17) h pX3_fits_0 6 rfl rfl (fun c4 => ?_) (fun c4 => absurd c4 (by decide))
    refine v_iconst h pX3_fits_0 11 rfl ki_0 (v_istore h pX3_fits_0 12 (lv' := [(4, .int 0), (3, .int (-1)), (0, .ref (a 0)), (1, .int t), (2, .int y)]) rfl hnL rfl rfl (v_iconst h pX3_fits_0 13 rfl ki_1 (v_istore h pX3_fits_0 14 (lv' := [(5, .int 1), (4, .int 0), (3, .int (-1)), (0, .ref (a 0)), (1, .int t), (2, .int y)]) rfl hnL rfl rfl ?_)))
    refine v_lv [3, 4, 5, 1, 0] (lv' := [(0, .ref (a 0)), (1, .int t), (2, .int y), (4, .int 0), (5, .int 1)]) rfl ?_
    have LA : ∀ (m iA : Nat) (TA : Nat → Nat → Int32), iA ≤ 99 → (True) → 99 + 1 ≤ iA + m → V K (cW cI cS a (E, TA, Kp, P, S, F)) 23 [(0, .ref (a 0)), (1, .int t), (2, .int y), (4, .int (nI (cntU (fun v => likS n (up E 4 (ix y) (nI v)) (S (ix t) 0) (ix y) (ix (S (ix t) 1 1))) iA))), (5, .int (nI (iA + 1)))] [] := by
      intro m
      induction m with
      | zero => exact fun iA TA h1 hh h2 => absurd h2 (by omega)
      | succ m ihA =>
        intro iA TA hleA hhA hltA
        have hcu := cntU_le (fun v => likS n (up E 4 (ix y) (nI v)) (S (ix t) 0) (ix y) (ix (S (ix t) 1 1))) iA
        refine v_iload h pX3_fits_0 15 rfl 4 rfl (v_bipush h pX3_fits_0 16 rfl kb_99 ?_)
        refine v_ncmp_gt (a := iA + 1) (b := 99) (tgt := 50) h pX3_fits_0 17 rfl rfl (by omega) (by omega) (fun c6 => ?_) (fun c6 => ?_)
        · skip
          obtain rfl : 99 = iA := by omega
          refine v_iload h pX3_fits_0 27 rfl 3 rfl ?_
          exact v_iret h pX3_fits_0 28 hR hret rfl ((E, TA, Kp, P, S, F)) rfl ⟨vI (by simp [qa, qb, qc, c6]), rfl, rfl, ⟨rfl, rfl⟩, rfl, (fR_of (by simp [qa, qb, qc, c6]))⟩
        · skip
          refine v_aload_n h pX3_fits_0 18 rfl 0 rfl rfl (v_iload_n h pX3_fits_0 19 rfl 1 rfl rfl (v_top (w := .int (nI (ix t))) (congrArg Value.int e_t) (v_iload_n h pX3_fits_0 20 rfl 2 rfl rfl (v_top (w := .int (nI (ix y))) (congrArg Value.int e_y) (v_iload h pX3_fits_0 21 rfl 4 rfl ?_)))))
          refine v_callV h pX3_fits_0 22 mX3_190 (As := [.int (nI (ix t)), .int (nI (ix y)), .int (nI (iA + 1))]) (st := []) (kX3_fitsWeight _ _ cI cS a E TA Kp P F S hS n hW hZ (ix t) (ix y) (iA + 1) (by omega) (by omega) (by omega)) v0B v0C (vEmb_rf _ _) 0 rfl rfl rfl rfl rfl rfl rfl (fun v7 u7 q7 => ?_)
          obtain ⟨rfl, X7, rfl⟩ := q7
          show V K (cW cI cS a (E, X7, Kp, P, S, F)) 38 [(0, .ref (a 0)), (1, .int t), (2, .int y), (4, .int (nI (cntU (fun v => likS n (up E 4 (ix y) (nI v)) (S (ix t) 0) (ix y) (ix (S (ix t) 1 1))) iA))), (5, .int (nI (iA + 1)))] [.int (bI (likS n (up E 4 (ix y) (nI (iA + 1))) (S (ix t) 0) (ix y) (ix (S (ix t) 1 1))))]
          refine v_bif_eq (tgt := 44) h pX3_fits_0 23 rfl rfl (fun c9 => ?_) (fun c9 => ?_)
          · skip
            refine v_iinc h pX3_fits_0 25 (v := nI (iA + 1 + 1)) (lv' := [(5, .int (nI (iA + 1 + 1))), (0, .ref (a 0)), (1, .int t), (2, .int y), (4, .int (nI (cntU (fun v => likS n (up E 4 (ix y) (nI v)) (S (ix t) 0) (ix y) (ix (S (ix t) 1 1))) iA)))]) rfl 4 rfl hnL rfl rfl (nI_1 (iA + 1)) (v_goto (tgt := 23) h pX3_fits_0 26 rfl rfl (v_lv [1, 2, 3, 4, 0] (lv' := [(0, .ref (a 0)), (1, .int t), (2, .int y), (4, .int (nI (cntU (fun v => likS n (up E 4 (ix y) (nI v)) (S (ix t) 0) (ix y) (ix (S (ix t) 1 1))) iA))), (5, .int (nI (iA + 1 + 1)))]) rfl (v_eql (congrArg (fun z : Int32 => ([(0, .ref (a 0)), (1, .int t), (2, .int y), (4, .int z), (5, .int (nI (iA + 1 + 1)))] : List (Nat × Value))) (congrArg nI (cntU_0 (P := (fun v => likS n (up E 4 (ix y) (nI v)) (S (ix t) 0) (ix y) (ix (S (ix t) 1 1)))) (v := iA) c9).symm)) ?_)))
            exact ihA (iA + 1) X7 (by omega) (trivial) (by omega)
          · skip
            refine v_iinc h pX3_fits_0 24 (v := nI (cntU (fun v => likS n (up E 4 (ix y) (nI v)) (S (ix t) 0) (ix y) (ix (S (ix t) 1 1))) iA + 1)) (lv' := [(4, .int (nI (cntU (fun v => likS n (up E 4 (ix y) (nI v)) (S (ix t) 0) (ix y) (ix (S (ix t) 1 1))) iA + 1))), (0, .ref (a 0)), (1, .int t), (2, .int y), (5, .int (nI (iA + 1)))]) rfl 3 rfl hnL rfl rfl (nI_1 (cntU (fun v => likS n (up E 4 (ix y) (nI v)) (S (ix t) 0) (ix y) (ix (S (ix t) 1 1))) iA)) (v_iinc h pX3_fits_0 25 (v := nI (iA + 1 + 1)) (lv' := [(5, .int (nI (iA + 1 + 1))), (4, .int (nI (cntU (fun v => likS n (up E 4 (ix y) (nI v)) (S (ix t) 0) (ix y) (ix (S (ix t) 1 1))) iA + 1))), (0, .ref (a 0)), (1, .int t), (2, .int y)]) rfl 4 rfl hnL rfl rfl (nI_1 (iA + 1)) (v_goto (tgt := 23) h pX3_fits_0 26 rfl rfl (v_lv [2, 3, 4, 1, 0] (lv' := [(0, .ref (a 0)), (1, .int t), (2, .int y), (4, .int (nI (cntU (fun v => likS n (up E 4 (ix y) (nI v)) (S (ix t) 0) (ix y) (ix (S (ix t) 1 1))) iA + 1))), (5, .int (nI (iA + 1 + 1)))]) rfl (v_eql (congrArg (fun z : Int32 => ([(0, .ref (a 0)), (1, .int t), (2, .int y), (4, .int z), (5, .int (nI (iA + 1 + 1)))] : List (Nat × Value))) (congrArg nI (cntU_1 (P := (fun v => likS n (up E 4 (ix y) (nI v)) (S (ix t) 0) (ix y) (ix (S (ix t) 1 1)))) (v := iA) c9).symm)) ?_))))
            exact ihA (iA + 1) X7 (by omega) (trivial) (by omega)
    exact LA (99 + 1) 0 T (by omega) trivial (by omega)
set_option maxHeartbeats 300000 in
set_option maxRecDepth 100000 in
theorem kX3_weighed (l : Launch) (D : va_G) (cI cS : ClassId) (a : Nat → Nat) (E T Kp P F : Nat → Nat → Int32) (S : Nat → Nat → Nat → Int32) (n : Nat) (hW : Wf E n) (hZ : E 9 4 = 0) (hS : WfS S) (t y : Int32) : vMet l D (vT cI cS) yX3_weighed cX3_weighed 5 (some .int) 6 129 (cW cI cS a) v0 [.ref (a 0), .int t, .int y] (E, T, Kp, P, S, F) (cPost (some (.int (if inB t 0 3 = true then (if S (ix t) 1 0 = 0 then (-1000006) else if oyB y n = true then (if fstN (fun k => (fun v => likS n (up E 4 (ix y) (nI v)) (S (ix t) 0) (ix y) (ix (S (ix t) 1 1))) (k + 1)) 99 < 99 then nI (fstN (fun k => (fun v => likS n (up E 4 (ix y) (nI v)) (S (ix t) 0) (ix y) (ix (S (ix t) 1 1))) (k + 1)) 99 + 1) else (-1000004)) else (-1000001)) else (-1000001)))) (E) (Kp) (P) (S) (if inB t 0 3 = true then (if S (ix t) 1 0 = 0 then fndC F 5 else if oyB y n = true then (if fstN (fun k => (fun v => likS n (up E 4 (ix y) (nI v)) (S (ix t) 0) (ix y) (ix (S (ix t) 1 1))) (k + 1)) 99 < 99 then F else fndC F 3) else fndC F 0) else fndC F 0)) := by
  refine vMet_of (by decide) rfl ?_
  intro K hl hD hnL hret h hR hEx
  subst hl hD
  show V K (cW cI cS a (E, T, Kp, P, S, F)) 0 [(0, .ref (a 0)), (1, .int t), (2, .int y)] []
  have hn8 := hW.1
  refine v_aload_n h pX3_weighed_0 0 rfl 0 rfl rfl (v_iload_n h pX3_weighed_0 1 rfl 1 rfl rfl (v_iload_n h pX3_weighed_0 2 rfl 2 rfl rfl ?_))
  refine v_callV h pX3_weighed_0 3 mX3_187 (As := [.int t, .int y]) (st := []) (kX3_faultOfTelling _ _ cI cS a E T Kp P F S n hW t y) v0B v0C (vEmb_rf _ _) 0 rfl rfl rfl rfl rfl rfl rfl (vDet_k ?_)
  show V K (cW cI cS a (E, T, Kp, P, S, F)) 6 [(0, .ref (a 0)), (1, .int t), (2, .int y)] [.int (fotS S t y n)]
  rcases fot_c S t y n with ⟨qa, qe⟩ | ⟨qa, qb, qe⟩ | ⟨qa, qb, qc, qe⟩ | ⟨qa, qb, qc, qe⟩
  · skip
    refine v_top (w := .int 0) (congrArg Value.int qe) (v_istore_n h pX3_weighed_0 4 (lv' := [(3, .int 0), (0, .ref (a 0)), (1, .int t), (2, .int y)]) rfl rfl hnL rfl rfl (v_iload_n h pX3_weighed_0 5 rfl 0 rfl rfl ?_))
    refine v_if_lt (tgt := 17) h pX3_weighed_0 6 rfl rfl (fun c1 => absurd c1 (by decide)) (fun c1 => ?_)
    refine v_aload_n h pX3_weighed_0 7 rfl 1 rfl rfl (v_iload_n h pX3_weighed_0 8 rfl 0 rfl rfl ?_)
    refine v_callV h pX3_weighed_0 9 mX3_55 (As := [.int 0]) (st := []) (kX3_finding _ _ cI cS a E T Kp P F S 0 (by decide)) v0B v0C (vEmb_rf _ _) 0 rfl rfl rfl rfl rfl rfl rfl (vDet_k ?_)
    show V K (cW cI cS a (E, T, Kp, P, S, fndC F 0)) 16 [(3, .int 0), (0, .ref (a 0)), (1, .int t), (2, .int y)] [.int ((-1000001) - (nI 0))]
    refine v_top (w := .int (-1000001)) (by decide) ?_
    exact v_iret h pX3_weighed_0 10 hR hret rfl ((E, T, Kp, P, S, fndC F 0)) rfl ⟨vI (by first | (simp [qa]; done) | (have e1 : fstN (fun k => (fun v => likS n (up E 4 (ix y) (nI v)) (S (ix t) 0) (ix y) (ix (S (ix t) 1 1))) (k + 1)) 99 = iA := fstN_eq hhA (by assumption) (by omega); simp only [qa, if_true, if_false]; rw [e1]; try (rw [if_pos (by omega)]); done) | (have e1 : fstN (fun k => (fun v => likS n (up E 4 (ix y) (nI v)) (S (ix t) 0) (ix y) (ix (S (ix t) 1 1))) (k + 1)) 99 = 99 := fstN_no (fun j hj => hhA j (by omega)); simp only [qa, if_true, if_false]; rw [e1]; simp; done)), rfl, rfl, ⟨rfl, rfl⟩, rfl, (fR_of (by first | (simp [qa]; done) | (have e1 : fstN (fun k => (fun v => likS n (up E 4 (ix y) (nI v)) (S (ix t) 0) (ix y) (ix (S (ix t) 1 1))) (k + 1)) 99 = iA := fstN_eq hhA (by assumption) (by omega); simp only [qa, if_true, if_false]; rw [e1]; try (rw [if_pos (by omega)]); done) | (have e1 : fstN (fun k => (fun v => likS n (up E 4 (ix y) (nI v)) (S (ix t) 0) (ix y) (ix (S (ix t) 1 1))) (k + 1)) 99 = 99 := fstN_no (fun j hj => hhA j (by omega)); simp only [qa, if_true, if_false]; rw [e1]; simp; done)))⟩
  · skip
    refine v_top (w := .int 5) (congrArg Value.int qe) (v_istore_n h pX3_weighed_0 4 (lv' := [(3, .int 5), (0, .ref (a 0)), (1, .int t), (2, .int y)]) rfl rfl hnL rfl rfl (v_iload_n h pX3_weighed_0 5 rfl 0 rfl rfl ?_))
    refine v_if_lt (tgt := 17) h pX3_weighed_0 6 rfl rfl (fun c2 => absurd c2 (by decide)) (fun c2 => ?_)
    refine v_aload_n h pX3_weighed_0 7 rfl 1 rfl rfl (v_iload_n h pX3_weighed_0 8 rfl 0 rfl rfl ?_)
    refine v_callV h pX3_weighed_0 9 mX3_55 (As := [.int 5]) (st := []) (kX3_finding _ _ cI cS a E T Kp P F S 5 (by decide)) v0B v0C (vEmb_rf _ _) 0 rfl rfl rfl rfl rfl rfl rfl (vDet_k ?_)
    show V K (cW cI cS a (E, T, Kp, P, S, fndC F 5)) 16 [(3, .int 5), (0, .ref (a 0)), (1, .int t), (2, .int y)] [.int ((-1000001) - (nI 5))]
    refine v_top (w := .int (-1000006)) (by decide) ?_
    exact v_iret h pX3_weighed_0 10 hR hret rfl ((E, T, Kp, P, S, fndC F 5)) rfl ⟨vI (by first | (simp [qa, (eq_true qb)]; done) | (have e1 : fstN (fun k => (fun v => likS n (up E 4 (ix y) (nI v)) (S (ix t) 0) (ix y) (ix (S (ix t) 1 1))) (k + 1)) 99 = iA := fstN_eq hhA (by assumption) (by omega); simp only [qa, (eq_true qb), if_true, if_false]; rw [e1]; try (rw [if_pos (by omega)]); done) | (have e1 : fstN (fun k => (fun v => likS n (up E 4 (ix y) (nI v)) (S (ix t) 0) (ix y) (ix (S (ix t) 1 1))) (k + 1)) 99 = 99 := fstN_no (fun j hj => hhA j (by omega)); simp only [qa, (eq_true qb), if_true, if_false]; rw [e1]; simp; done)), rfl, rfl, ⟨rfl, rfl⟩, rfl, (fR_of (by first | (simp [qa, (eq_true qb)]; done) | (have e1 : fstN (fun k => (fun v => likS n (up E 4 (ix y) (nI v)) (S (ix t) 0) (ix y) (ix (S (ix t) 1 1))) (k + 1)) 99 = iA := fstN_eq hhA (by assumption) (by omega); simp only [qa, (eq_true qb), if_true, if_false]; rw [e1]; try (rw [if_pos (by omega)]); done) | (have e1 : fstN (fun k => (fun v => likS n (up E 4 (ix y) (nI v)) (S (ix t) 0) (ix y) (ix (S (ix t) 1 1))) (k + 1)) 99 = 99 := fstN_no (fun j hj => hhA j (by omega)); simp only [qa, (eq_true qb), if_true, if_false]; rw [e1]; simp; done)))⟩
  · skip
    refine v_top (w := .int 0) (congrArg Value.int qe) (v_istore_n h pX3_weighed_0 4 (lv' := [(3, .int 0), (0, .ref (a 0)), (1, .int t), (2, .int y)]) rfl rfl hnL rfl rfl (v_iload_n h pX3_weighed_0 5 rfl 0 rfl rfl ?_))
    refine v_if_lt (tgt := 17) h pX3_weighed_0 6 rfl rfl (fun c3 => absurd c3 (by decide)) (fun c3 => ?_)
    refine v_aload_n h pX3_weighed_0 7 rfl 1 rfl rfl (v_iload_n h pX3_weighed_0 8 rfl 0 rfl rfl ?_)
    refine v_callV h pX3_weighed_0 9 mX3_55 (As := [.int 0]) (st := []) (kX3_finding _ _ cI cS a E T Kp P F S 0 (by decide)) v0B v0C (vEmb_rf _ _) 0 rfl rfl rfl rfl rfl rfl rfl (vDet_k ?_)
    show V K (cW cI cS a (E, T, Kp, P, S, fndC F 0)) 16 [(3, .int 0), (0, .ref (a 0)), (1, .int t), (2, .int y)] [.int ((-1000001) - (nI 0))]
    refine v_top (w := .int (-1000001)) (by decide) ?_
    exact v_iret h pX3_weighed_0 10 hR hret rfl ((E, T, Kp, P, S, fndC F 0)) rfl ⟨vI (by first | (simp [qa, qb, qc]; done) | (have e1 : fstN (fun k => (fun v => likS n (up E 4 (ix y) (nI v)) (S (ix t) 0) (ix y) (ix (S (ix t) 1 1))) (k + 1)) 99 = iA := fstN_eq hhA (by assumption) (by omega); simp only [qa, qb, qc, if_true, if_false]; rw [e1]; try (rw [if_pos (by omega)]); done) | (have e1 : fstN (fun k => (fun v => likS n (up E 4 (ix y) (nI v)) (S (ix t) 0) (ix y) (ix (S (ix t) 1 1))) (k + 1)) 99 = 99 := fstN_no (fun j hj => hhA j (by omega)); simp only [qa, qb, qc, if_true, if_false]; rw [e1]; simp; done)), rfl, rfl, ⟨rfl, rfl⟩, rfl, (fR_of (by first | (simp [qa, qb, qc]; done) | (have e1 : fstN (fun k => (fun v => likS n (up E 4 (ix y) (nI v)) (S (ix t) 0) (ix y) (ix (S (ix t) 1 1))) (k + 1)) 99 = iA := fstN_eq hhA (by assumption) (by omega); simp only [qa, qb, qc, if_true, if_false]; rw [e1]; try (rw [if_pos (by omega)]); done) | (have e1 : fstN (fun k => (fun v => likS n (up E 4 (ix y) (nI v)) (S (ix t) 0) (ix y) (ix (S (ix t) 1 1))) (k + 1)) 99 = 99 := fstN_no (fun j hj => hhA j (by omega)); simp only [qa, qb, qc, if_true, if_false]; rw [e1]; simp; done)))⟩
  · skip
    refine v_top (w := .int (-1)) (congrArg Value.int qe) ?_
    obtain ⟨e_t, l_t⟩ := inB_t 3 rfl (by decide) qa
    obtain ⟨e_y, l_y⟩ := oyB_t hn8 qc
    refine v_istore_n h pX3_weighed_0 4 (lv' := [(3, .int (-1)), (0, .ref (a 0)), (1, .int t), (2, .int y)]) rfl rfl hnL rfl rfl (v_iload_n h pX3_weighed_0 5 rfl 0 rfl rfl ?_)
    refine v_if_lt (tgt := 17) h pX3_weighed_0 6 rfl rfl (fun c4 => ?_) (fun c4 => absurd c4 (by decide))
    refine v_iconst h pX3_weighed_0 11 rfl ki_1 (v_istore h pX3_weighed_0 12 (lv' := [(4, .int 1), (3, .int (-1)), (0, .ref (a 0)), (1, .int t), (2, .int y)]) rfl hnL rfl rfl ?_)
    refine v_lv [2, 3, 4, 0] (lv' := [(0, .ref (a 0)), (1, .int t), (2, .int y), (4, .int 1)]) rfl ?_
    have LA : ∀ (m iA : Nat) (TA : Nat → Nat → Int32), iA ≤ 99 → (∀ j, j < iA → (fun k => (fun v => likS n (up E 4 (ix y) (nI v)) (S (ix t) 0) (ix y) (ix (S (ix t) 1 1))) (k + 1)) j = false) → 99 + 1 ≤ iA + m → V K (cW cI cS a (E, TA, Kp, P, S, F)) 20 [(0, .ref (a 0)), (1, .int t), (2, .int y), (4, .int (nI (iA + 1)))] [] := by
      intro m
      induction m with
      | zero => exact fun iA TA h1 hh h2 => absurd h2 (by omega)
      | succ m ihA =>
        intro iA TA hleA hhA hltA
        refine v_iload h pX3_weighed_0 13 rfl 3 rfl (v_bipush h pX3_weighed_0 14 rfl kb_99 ?_)
        refine v_ncmp_gt (a := iA + 1) (b := 99) (tgt := 47) h pX3_weighed_0 15 rfl rfl (by omega) (by omega) (fun c6 => ?_) (fun c6 => ?_)
        · skip
          refine v_aload_n h pX3_weighed_0 26 rfl 0 rfl rfl (v_iconst h pX3_weighed_0 27 rfl ki_3 ?_)
          refine v_callV h pX3_weighed_0 28 mX3_55 (As := [.int 3]) (st := []) (kX3_finding _ _ cI cS a E TA Kp P F S 3 (by decide)) v0B v0C (vEmb_rf _ _) 0 rfl rfl rfl rfl rfl rfl rfl (vDet_k ?_)
          show V K (cW cI cS a (E, TA, Kp, P, S, fndC F 3)) 52 [(0, .ref (a 0)), (1, .int t), (2, .int y), (4, .int (nI (iA + 1)))] [.int ((-1000001) - (nI 3))]
          refine v_top (w := .int (-1000004)) (by decide) ?_
          exact v_iret h pX3_weighed_0 29 hR hret rfl ((E, TA, Kp, P, S, fndC F 3)) rfl ⟨vI (by first | (simp [qa, qb, qc, c6]; done) | (have e1 : fstN (fun k => (fun v => likS n (up E 4 (ix y) (nI v)) (S (ix t) 0) (ix y) (ix (S (ix t) 1 1))) (k + 1)) 99 = iA := fstN_eq hhA (by assumption) (by omega); simp only [qa, qb, qc, c6, if_true, if_false]; rw [e1]; try (rw [if_pos (by omega)]); done) | (have e1 : fstN (fun k => (fun v => likS n (up E 4 (ix y) (nI v)) (S (ix t) 0) (ix y) (ix (S (ix t) 1 1))) (k + 1)) 99 = 99 := fstN_no (fun j hj => hhA j (by omega)); simp only [qa, qb, qc, c6, if_true, if_false]; rw [e1]; simp; done)), rfl, rfl, ⟨rfl, rfl⟩, rfl, (fR_of (by first | (simp [qa, qb, qc, c6]; done) | (have e1 : fstN (fun k => (fun v => likS n (up E 4 (ix y) (nI v)) (S (ix t) 0) (ix y) (ix (S (ix t) 1 1))) (k + 1)) 99 = iA := fstN_eq hhA (by assumption) (by omega); simp only [qa, qb, qc, c6, if_true, if_false]; rw [e1]; try (rw [if_pos (by omega)]); done) | (have e1 : fstN (fun k => (fun v => likS n (up E 4 (ix y) (nI v)) (S (ix t) 0) (ix y) (ix (S (ix t) 1 1))) (k + 1)) 99 = 99 := fstN_no (fun j hj => hhA j (by omega)); simp only [qa, qb, qc, c6, if_true, if_false]; rw [e1]; simp; done)))⟩
        · skip
          refine v_aload_n h pX3_weighed_0 16 rfl 0 rfl rfl (v_iload_n h pX3_weighed_0 17 rfl 1 rfl rfl (v_top (w := .int (nI (ix t))) (congrArg Value.int e_t) (v_iload_n h pX3_weighed_0 18 rfl 2 rfl rfl (v_top (w := .int (nI (ix y))) (congrArg Value.int e_y) (v_iload h pX3_weighed_0 19 rfl 3 rfl ?_)))))
          refine v_callV h pX3_weighed_0 20 mX3_190 (As := [.int (nI (ix t)), .int (nI (ix y)), .int (nI (iA + 1))]) (st := []) (kX3_fitsWeight _ _ cI cS a E TA Kp P F S hS n hW hZ (ix t) (ix y) (iA + 1) (by omega) (by omega) (by omega)) v0B v0C (vEmb_rf _ _) 0 rfl rfl rfl rfl rfl rfl rfl (fun v7 u7 q7 => ?_)
          obtain ⟨rfl, X7, rfl⟩ := q7
          show V K (cW cI cS a (E, X7, Kp, P, S, F)) 35 [(0, .ref (a 0)), (1, .int t), (2, .int y), (4, .int (nI (iA + 1)))] [.int (bI (likS n (up E 4 (ix y) (nI (iA + 1))) (S (ix t) 0) (ix y) (ix (S (ix t) 1 1))))]
          refine v_bif_eq (tgt := 41) h pX3_weighed_0 21 rfl rfl (fun c9 => ?_) (fun c9 => ?_)
          · skip
            refine v_iinc h pX3_weighed_0 24 (v := nI (iA + 1 + 1)) (lv' := [(4, .int (nI (iA + 1 + 1))), (0, .ref (a 0)), (1, .int t), (2, .int y)]) rfl 3 rfl hnL rfl rfl (nI_1 (iA + 1)) (v_goto (tgt := 20) h pX3_weighed_0 25 rfl rfl (v_lv [1, 2, 3, 0] (lv' := [(0, .ref (a 0)), (1, .int t), (2, .int y), (4, .int (nI (iA + 1 + 1)))]) rfl ?_))
            exact ihA (iA + 1) X7 (by omega) (fun j hj => (Nat.lt_succ_iff_lt_or_eq.mp hj).elim (hhA j) (fun e => by rw [e]; exact c9)) (by omega)
          · skip
            refine v_iload h pX3_weighed_0 22 rfl 3 rfl ?_
            exact v_iret h pX3_weighed_0 23 hR hret rfl ((E, X7, Kp, P, S, F)) rfl ⟨vI (by first | (simp [qa, qb, qc, c6, c9]; done) | (have e1 : fstN (fun k => (fun v => likS n (up E 4 (ix y) (nI v)) (S (ix t) 0) (ix y) (ix (S (ix t) 1 1))) (k + 1)) 99 = iA := fstN_eq hhA (by assumption) (by omega); simp only [qa, qb, qc, c6, c9, if_true, if_false]; rw [e1]; try (rw [if_pos (by omega)]); done) | (have e1 : fstN (fun k => (fun v => likS n (up E 4 (ix y) (nI v)) (S (ix t) 0) (ix y) (ix (S (ix t) 1 1))) (k + 1)) 99 = 99 := fstN_no (fun j hj => hhA j (by omega)); simp only [qa, qb, qc, c6, c9, if_true, if_false]; rw [e1]; simp; done)), rfl, rfl, ⟨rfl, rfl⟩, rfl, (fR_of (by first | (simp [qa, qb, qc, c6, c9]; done) | (have e1 : fstN (fun k => (fun v => likS n (up E 4 (ix y) (nI v)) (S (ix t) 0) (ix y) (ix (S (ix t) 1 1))) (k + 1)) 99 = iA := fstN_eq hhA (by assumption) (by omega); simp only [qa, qb, qc, c6, c9, if_true, if_false]; rw [e1]; try (rw [if_pos (by omega)]); done) | (have e1 : fstN (fun k => (fun v => likS n (up E 4 (ix y) (nI v)) (S (ix t) 0) (ix y) (ix (S (ix t) 1 1))) (k + 1)) 99 = 99 := fstN_no (fun j hj => hhA j (by omega)); simp only [qa, qb, qc, c6, c9, if_true, if_false]; rw [e1]; simp; done)))⟩
    exact LA (99 + 1) 0 T (by omega) (fun j hj => absurd hj (by omega)) (by omega)
set_option maxHeartbeats 300000 in
set_option maxRecDepth 100000 in
theorem kX3_kinds (l : Launch) (D : va_G) (cI cS : ClassId) (a : Nat → Nat) (E T Kp P F : Nat → Nat → Int32) (S : Nat → Nat → Nat → Int32) (n : Nat) (hW : Wf E n) (hZ : E 9 4 = 0) (hS : WfS S) (t y : Int32) : vMet l D (vT cI cS) yX3_kinds cX3_kinds 6 (some .int) 5 106 (cW cI cS a) v0 [.ref (a 0), .int t, .int y] (E, T, Kp, P, S, F) (cPost (some (.int (if inB t 0 3 = true then (if S (ix t) 1 0 = 0 then (-1000006) else if oyB y n = true then (setS (fun v => likS n (up E 2 (ix y) (nI v)) (S (ix t) 0) (ix y) (ix (S (ix t) 1 1))) 7) else (-1000001)) else (-1000001)))) (E) (Kp) (P) (S) (if inB t 0 3 = true then (if S (ix t) 1 0 = 0 then fndC F 5 else if oyB y n = true then (F) else fndC F 0) else fndC F 0)) := by
  refine vMet_of (by decide) rfl ?_
  intro K hl hD hnL hret h hR hEx
  subst hl hD
  show V K (cW cI cS a (E, T, Kp, P, S, F)) 0 [(0, .ref (a 0)), (1, .int t), (2, .int y)] []
  have hn8 := hW.1
  refine v_aload_n h pX3_kinds_0 0 rfl 0 rfl rfl (v_iload_n h pX3_kinds_0 1 rfl 1 rfl rfl (v_iload_n h pX3_kinds_0 2 rfl 2 rfl rfl ?_))
  refine v_callV h pX3_kinds_0 3 mX3_187 (As := [.int t, .int y]) (st := []) (kX3_faultOfTelling _ _ cI cS a E T Kp P F S n hW t y) v0B v0C (vEmb_rf _ _) 0 rfl rfl rfl rfl rfl rfl rfl (vDet_k ?_)
  show V K (cW cI cS a (E, T, Kp, P, S, F)) 6 [(0, .ref (a 0)), (1, .int t), (2, .int y)] [.int (fotS S t y n)]
  rcases fot_c S t y n with ⟨qa, qe⟩ | ⟨qa, qb, qe⟩ | ⟨qa, qb, qc, qe⟩ | ⟨qa, qb, qc, qe⟩
  · skip
    refine v_top (w := .int 0) (congrArg Value.int qe) (v_istore_n h pX3_kinds_0 4 (lv' := [(3, .int 0), (0, .ref (a 0)), (1, .int t), (2, .int y)]) rfl rfl hnL rfl rfl (v_iload_n h pX3_kinds_0 5 rfl 0 rfl rfl ?_))
    refine v_if_lt (tgt := 17) h pX3_kinds_0 6 rfl rfl (fun c1 => absurd c1 (by decide)) (fun c1 => ?_)
    refine v_aload_n h pX3_kinds_0 7 rfl 1 rfl rfl (v_iload_n h pX3_kinds_0 8 rfl 0 rfl rfl ?_)
    refine v_callV h pX3_kinds_0 9 mX3_55 (As := [.int 0]) (st := []) (kX3_finding _ _ cI cS a E T Kp P F S 0 (by decide)) v0B v0C (vEmb_rf _ _) 0 rfl rfl rfl rfl rfl rfl rfl (vDet_k ?_)
    show V K (cW cI cS a (E, T, Kp, P, S, fndC F 0)) 16 [(3, .int 0), (0, .ref (a 0)), (1, .int t), (2, .int y)] [.int ((-1000001) - (nI 0))]
    refine v_top (w := .int (-1000001)) (by decide) ?_
    exact v_iret h pX3_kinds_0 10 hR hret rfl ((E, T, Kp, P, S, fndC F 0)) rfl ⟨vI (by simp [qa]), rfl, rfl, ⟨rfl, rfl⟩, rfl, (fR_of (by simp [qa]))⟩
  · skip
    refine v_top (w := .int 5) (congrArg Value.int qe) (v_istore_n h pX3_kinds_0 4 (lv' := [(3, .int 5), (0, .ref (a 0)), (1, .int t), (2, .int y)]) rfl rfl hnL rfl rfl (v_iload_n h pX3_kinds_0 5 rfl 0 rfl rfl ?_))
    refine v_if_lt (tgt := 17) h pX3_kinds_0 6 rfl rfl (fun c2 => absurd c2 (by decide)) (fun c2 => ?_)
    refine v_aload_n h pX3_kinds_0 7 rfl 1 rfl rfl (v_iload_n h pX3_kinds_0 8 rfl 0 rfl rfl ?_)
    refine v_callV h pX3_kinds_0 9 mX3_55 (As := [.int 5]) (st := []) (kX3_finding _ _ cI cS a E T Kp P F S 5 (by decide)) v0B v0C (vEmb_rf _ _) 0 rfl rfl rfl rfl rfl rfl rfl (vDet_k ?_)
    show V K (cW cI cS a (E, T, Kp, P, S, fndC F 5)) 16 [(3, .int 5), (0, .ref (a 0)), (1, .int t), (2, .int y)] [.int ((-1000001) - (nI 5))]
    refine v_top (w := .int (-1000006)) (by decide) ?_
    exact v_iret h pX3_kinds_0 10 hR hret rfl ((E, T, Kp, P, S, fndC F 5)) rfl ⟨vI (by simp [qa, (eq_true qb)]), rfl, rfl, ⟨rfl, rfl⟩, rfl, (fR_of (by simp [qa, (eq_true qb)]))⟩
  · skip
    refine v_top (w := .int 0) (congrArg Value.int qe) (v_istore_n h pX3_kinds_0 4 (lv' := [(3, .int 0), (0, .ref (a 0)), (1, .int t), (2, .int y)]) rfl rfl hnL rfl rfl (v_iload_n h pX3_kinds_0 5 rfl 0 rfl rfl ?_))
    refine v_if_lt (tgt := 17) h pX3_kinds_0 6 rfl rfl (fun c3 => absurd c3 (by decide)) (fun c3 => ?_)
    refine v_aload_n h pX3_kinds_0 7 rfl 1 rfl rfl (v_iload_n h pX3_kinds_0 8 rfl 0 rfl rfl ?_)
    refine v_callV h pX3_kinds_0 9 mX3_55 (As := [.int 0]) (st := []) (kX3_finding _ _ cI cS a E T Kp P F S 0 (by decide)) v0B v0C (vEmb_rf _ _) 0 rfl rfl rfl rfl rfl rfl rfl (vDet_k ?_)
    show V K (cW cI cS a (E, T, Kp, P, S, fndC F 0)) 16 [(3, .int 0), (0, .ref (a 0)), (1, .int t), (2, .int y)] [.int ((-1000001) - (nI 0))]
    refine v_top (w := .int (-1000001)) (by decide) ?_
    exact v_iret h pX3_kinds_0 10 hR hret rfl ((E, T, Kp, P, S, fndC F 0)) rfl ⟨vI (by simp [qa, qb, qc]), rfl, rfl, ⟨rfl, rfl⟩, rfl, (fR_of (by simp [qa, qb, qc]))⟩
  · skip
    refine v_top (w := .int (-1)) (congrArg Value.int qe) ?_
    obtain ⟨e_t, l_t⟩ := inB_t 3 rfl (by decide) qa
    obtain ⟨e_y, l_y⟩ := oyB_t hn8 qc
    refine v_istore_n h pX3_kinds_0 4 (lv' := [(3, .int (-1)), (0, .ref (a 0)), (1, .int t), (2, .int y)]) rfl rfl hnL rfl rfl (v_iload_n h pX3_kinds_0 5 rfl 0 rfl rfl ?_)
    refine v_if_lt (tgt := 17) h pX3_kinds_0 6 rfl rfl (fun c4 => ?_) (fun c4 => absurd c4 (by decide))
    refine v_iconst h pX3_kinds_0 11 rfl ki_0 (v_istore h pX3_kinds_0 12 (lv' := [(4, .int 0), (3, .int (-1)), (0, .ref (a 0)), (1, .int t), (2, .int y)]) rfl hnL rfl rfl (v_iconst h pX3_kinds_0 13 rfl ki_0 (v_istore h pX3_kinds_0 14 (lv' := [(5, .int 0), (4, .int 0), (3, .int (-1)), (0, .ref (a 0)), (1, .int t), (2, .int y)]) rfl hnL rfl rfl ?_)))
    refine v_lv [3, 4, 5, 1, 0] (lv' := [(0, .ref (a 0)), (1, .int t), (2, .int y), (4, .int 0), (5, .int 0)]) rfl ?_
    have LA : ∀ (m iA : Nat) (TA : Nat → Nat → Int32), iA ≤ 7 → (True) → 7 + 1 ≤ iA + m → V K (cW cI cS a (E, TA, Kp, P, S, F)) 23 [(0, .ref (a 0)), (1, .int t), (2, .int y), (4, .int (setS (fun v => likS n (up E 2 (ix y) (nI v)) (S (ix t) 0) (ix y) (ix (S (ix t) 1 1))) iA)), (5, .int (nI iA))] [] := by
      intro m
      induction m with
      | zero => exact fun iA TA h1 hh h2 => absurd h2 (by omega)
      | succ m ihA =>
        intro iA TA hleA hhA hltA
        refine v_iload h pX3_kinds_0 15 rfl 4 rfl (v_bipush h pX3_kinds_0 16 rfl kb_7 ?_)
        refine v_ncmp_ge (a := iA) (b := 7) (tgt := 81) h pX3_kinds_0 17 rfl rfl (by omega) (by omega) (fun c6 => ?_) (fun c6 => ?_)
        · skip
          obtain rfl : 7 = iA := by omega
          refine v_iload h pX3_kinds_1 13 rfl 3 rfl ?_
          exact v_iret h pX3_kinds_1 14 hR hret rfl ((E, TA, Kp, P, S, F)) rfl ⟨vI (by simp [qa, qb, qc, c6]), rfl, rfl, ⟨rfl, rfl⟩, rfl, (fR_of (by simp [qa, qb, qc, c6]))⟩
        · skip
          refine v_aload_n h pX3_kinds_0 18 rfl 0 rfl rfl (v_get h pX3_kinds_0 19 fX3_16 0 rfl rfl rfl (v_aload_n h pX3_kinds_0 20 rfl 0 rfl rfl (v_get h pX3_kinds_0 21 fX3_10 0 rfl rfl rfl ?_)))
          refine v_callV h pX3_kinds_0 22 mX3_139 (As := [.ref (a 1)]) (st := []) (kX0_copyFrom _ _ cI cS (sh a 11) (sh a 1) E TA) v0B v0C emb_TE 11 rfl rfl rfl rfl rfl rfl rfl (vDet_k ?_)
          show V K (cW cI cS a (E, E, Kp, P, S, F)) 41 [(0, .ref (a 0)), (1, .int t), (2, .int y), (4, .int (setS (fun v => likS n (up E 2 (ix y) (nI v)) (S (ix t) 0) (ix y) (ix (S (ix t) 1 1))) iA)), (5, .int (nI iA))] []
          refine v_aload_n h pX3_kinds_0 23 rfl 0 rfl rfl (v_get h pX3_kinds_0 24 fX3_16 0 rfl rfl rfl (v_get h pX3_kinds_0 25 fX3_155 11 rfl rfl rfl (v_iload_n h pX3_kinds_0 26 rfl 2 rfl rfl (v_top (w := .int (nI (ix y))) (congrArg Value.int e_y) (v_iload h pX3_kinds_0 27 rfl 4 rfl ?_)))))
          refine v_iast h pX3_kinds_0 28 (ix y) 14 0 (ws' := cW cI cS a (E, up E 2 (ix y) (nI iA), Kp, P, S, F)) rfl rfl rfl rfl rfl (by omega) cW_Ts2 (v_aload_n h pX3_kinds_0 29 rfl 0 rfl rfl (v_aload_n h pX3_kinds_0 30 rfl 0 rfl rfl (v_get h pX3_kinds_0 31 fX3_35 0 rfl rfl rfl (v_iload_n h pX3_kinds_1 0 rfl 1 rfl rfl (v_top (w := .int (nI (ix t))) (congrArg Value.int e_t) ?_)))))
          refine v_aald h pX3_kinds_1 1 (ix t) 36 1 rfl rfl rfl rfl rfl (by omega) rfl (v_iload_n h pX3_kinds_1 2 rfl 2 rfl rfl (v_top (w := .int (nI (ix y))) (congrArg Value.int e_y) ?_))
          refine v_callV h pX3_kinds_1 3 mX3_194 (As := [.ref (a (37 + 2 * (ix t))), .int (nI (ix y))]) (st := []) (kX3_trialGrowsAs _ _ cI cS a E (up E 2 (ix y) (nI iA)) Kp P F S hS (ix t) (ix y) (by omega) (by omega) n (Wf_upk hW (by omega)) (show (up E 2 (ix y) (nI iA)) 9 4 = 0 from hZ)) v0B v0C (vEmb_rf _ _) 0 rfl rfl rfl rfl rfl rfl rfl (fun v7 u7 q7 => ?_)
          obtain ⟨rfl, X7, rfl⟩ := q7
          show V K (cW cI cS a (E, X7, Kp, P, S, F)) 63 [(0, .ref (a 0)), (1, .int t), (2, .int y), (4, .int (setS (fun v => likS n (up E 2 (ix y) (nI v)) (S (ix t) 0) (ix y) (ix (S (ix t) 1 1))) iA)), (5, .int (nI iA))] [.int (bI (likS n (up E 2 (ix y) (nI iA)) (S (ix t) 0) (ix y) (ix (S (ix t) 1 1))))]
          refine v_bif_eq (tgt := 75) h pX3_kinds_1 4 rfl rfl (fun c9 => ?_) (fun c9 => ?_)
          · skip
            refine v_iinc h pX3_kinds_1 11 (v := nI (iA + 1)) (lv' := [(5, .int (nI (iA + 1))), (0, .ref (a 0)), (1, .int t), (2, .int y), (4, .int (setS (fun v => likS n (up E 2 (ix y) (nI v)) (S (ix t) 0) (ix y) (ix (S (ix t) 1 1))) iA))]) rfl 4 rfl hnL rfl rfl (nI_1 iA) (v_goto (tgt := 23) h pX3_kinds_1 12 rfl rfl (v_lv [1, 2, 3, 4, 0] (lv' := [(0, .ref (a 0)), (1, .int t), (2, .int y), (4, .int (setS (fun v => likS n (up E 2 (ix y) (nI v)) (S (ix t) 0) (ix y) (ix (S (ix t) 1 1))) iA)), (5, .int (nI (iA + 1)))]) rfl (v_eql (congrArg (fun z : Int32 => ([(0, .ref (a 0)), (1, .int t), (2, .int y), (4, .int z), (5, .int (nI (iA + 1)))] : List (Nat × Value))) (by simp [setS, qa, qb, qc, c6, c9] : setS (fun v => likS n (up E 2 (ix y) (nI v)) (S (ix t) 0) (ix y) (ix (S (ix t) 1 1))) iA = setS (fun v => likS n (up E 2 (ix y) (nI v)) (S (ix t) 0) (ix y) (ix (S (ix t) 1 1))) (iA + 1))) ?_)))
            exact ihA (iA + 1) X7 (by omega) (trivial) (by omega)
          · skip
            refine v_iload h pX3_kinds_1 5 rfl 3 rfl (v_iconst h pX3_kinds_1 6 rfl ki_1 (v_iload h pX3_kinds_1 7 rfl 4 rfl (v_ishl h pX3_kinds_1 8 rfl (v_ior h pX3_kinds_1 9 rfl (v_istore h pX3_kinds_1 10 (lv' := [(4, .int ((setS (fun v => likS n (up E 2 (ix y) (nI v)) (S (ix t) 0) (ix y) (ix (S (ix t) 1 1))) iA) ||| (1 <<< ((nI iA) &&& 31)))), (0, .ref (a 0)), (1, .int t), (2, .int y), (5, .int (nI iA))]) rfl hnL rfl rfl ?_)))))
            refine v_iinc h pX3_kinds_1 11 (v := nI (iA + 1)) (lv' := [(5, .int (nI (iA + 1))), (4, .int ((setS (fun v => likS n (up E 2 (ix y) (nI v)) (S (ix t) 0) (ix y) (ix (S (ix t) 1 1))) iA) ||| (1 <<< ((nI iA) &&& 31)))), (0, .ref (a 0)), (1, .int t), (2, .int y)]) rfl 4 rfl hnL rfl rfl (nI_1 iA) (v_goto (tgt := 23) h pX3_kinds_1 12 rfl rfl (v_lv [2, 3, 4, 1, 0] (lv' := [(0, .ref (a 0)), (1, .int t), (2, .int y), (4, .int ((setS (fun v => likS n (up E 2 (ix y) (nI v)) (S (ix t) 0) (ix y) (ix (S (ix t) 1 1))) iA) ||| (1 <<< ((nI iA) &&& 31)))), (5, .int (nI (iA + 1)))]) rfl (v_eql (congrArg (fun z : Int32 => ([(0, .ref (a 0)), (1, .int t), (2, .int y), (4, .int z), (5, .int (nI (iA + 1)))] : List (Nat × Value))) (by simp [setS, qa, qb, qc, c6, c9] : (setS (fun v => likS n (up E 2 (ix y) (nI v)) (S (ix t) 0) (ix y) (ix (S (ix t) 1 1))) iA) ||| (1 <<< ((nI iA) &&& 31)) = setS (fun v => likS n (up E 2 (ix y) (nI v)) (S (ix t) 0) (ix y) (ix (S (ix t) 1 1))) (iA + 1))) ?_)))
            exact ihA (iA + 1) X7 (by omega) (trivial) (by omega)
    exact LA (7 + 1) 0 T (by omega) trivial (by omega)
set_option maxHeartbeats 300000 in
set_option maxRecDepth 100000 in
theorem kX2_addByte (l : Launch) (D : va_G) (cI cS : ClassId) (a : Nat → Nat) (P : Nat → Nat → Int32) (p : Nat) (hp : P 4 0 = nI p) (hpb : p < 120) (b : Int32) : vDet l D (vT cI cS) yX2_addByte cX2_addByte 2 none 0 0 (tW cI a) [.ref (a 0), .int b] P (none) (up (up P 0 p b) 4 0 (nI (p + 1))) := by
  refine vMet_of (by decide) rfl ?_
  intro K hl hD hnL hret h hR hEx
  subst hl hD
  show V K (tW cI a P) 0 [(0, .ref (a 0)), (1, .int b)] []
  refine v_aload_n h pX2_addByte_0 0 rfl 0 rfl rfl (v_get h pX2_addByte_0 1 fX2_24 0 rfl rfl rfl (v_top (w := .int (nI p)) (congrArg Value.int hp) (v_bipush h pX2_addByte_0 2 rfl kb_120 ?_)))
  refine v_ncmp_ge (a := p) (b := 120) (tgt := 29) h pX2_addByte_0 3 rfl rfl (by omega) (by omega) (fun c0 => absurd c0 (by omega)) (fun c0 => ?_)
  refine v_aload_n h pX2_addByte_0 4 rfl 0 rfl rfl (v_get h pX2_addByte_0 5 fX2_9 0 rfl rfl rfl (v_aload_n h pX2_addByte_0 6 rfl 0 rfl rfl (v_get h pX2_addByte_0 7 fX2_24 0 rfl rfl rfl (v_top (w := .int (nI p)) (congrArg Value.int hp) (v_iload_n h pX2_addByte_0 8 rfl 1 rfl rfl ?_)))))
  refine v_iast h pX2_addByte_0 9 p 1 0 (ws' := tW cI a (up P 0 p b)) rfl rfl rfl rfl rfl (by omega) tW_s0 (v_aload_n h pX2_addByte_0 10 rfl 0 rfl rfl (v_dup h pX2_addByte_0 11 rfl rfl (v_get h pX2_addByte_0 12 fX2_24 0 rfl rfl rfl (v_top (w := .int (nI p)) (congrArg Value.int hp) (v_iconst h pX2_addByte_0 13 rfl ki_1 ?_)))))
  refine v_iaddn h pX2_addByte_0 14 p 1 rfl (v_puti h pX2_addByte_0 15 gX2_24 0 (ws' := tW cI a (up (up P 0 p b) 4 0 (nI (p + 1)))) rfl rfl rfl tW_p0 ?_)
  exact v_vret h pX2_addByte_0 16 hR hret rfl (up (up P 0 p b) 4 0 (nI (p + 1))) rfl ⟨rfl, rfl⟩
set_option maxHeartbeats 300000 in
set_option maxRecDepth 100000 in
theorem kX3_feed (l : Launch) (D : va_G) (cI cS : ClassId) (a : Nat → Nat) (E T Kp P F : Nat → Nat → Int32) (S : Nat → Nat → Nat → Int32) (n : Nat) (hW : Wf E n) (hZ : E 9 4 = 0) (hP : bd (P 4 0) 120) (v k : Int32) : vMet l D (vT cI cS) yX3_feed cX3_feed 4 (some .int) 1 21 (cW cI cS a) v0 [.ref (a 0), .int v, .int k] (E, T, Kp, P, S, F) (cPost (some (.int (cond (inB k 1 4) (if 120 < ix (P 4 0) + ix k then (-1000002) else nI (ix (P 4 0) + ix k)) ((-1000001))))) (E) (Kp) (cond (inB k 1 4) (if 120 < ix (P 4 0) + ix k then P else fdC v (ix k) (ix (P 4 0)) P) (P)) (S) (cond (inB k 1 4) (if 120 < ix (P 4 0) + ix k then fndC F 1 else F) (fndC F 0))) := by
  refine vMet_of (by decide) rfl ?_
  intro K hl hD hnL hret h hR hEx
  subst hl hD
  show V K (cW cI cS a (E, T, Kp, P, S, F)) 0 [(0, .ref (a 0)), (1, .int v), (2, .int k)] []
  have hn8 := hW.1
  obtain ⟨hP4, htl⟩ := bd_ix hP (by decide)
  refine v_iload_n h pX3_feed_0 0 rfl 2 rfl rfl (v_iconst h pX3_feed_0 1 rfl ki_1 ?_)
  refine v_icmp_lt (tgt := 10) h pX3_feed_0 2 rfl rfl (fun c1 => ?_) (fun c1 => ?_)
  · skip
    refine v_aload_n h pX3_feed_0 6 rfl 0 rfl rfl (v_iconst h pX3_feed_0 7 rfl ki_0 ?_)
    refine v_callV h pX3_feed_0 8 mX3_55 (As := [.int 0]) (st := []) (kX3_finding _ _ cI cS a E T Kp P F S 0 (by decide)) v0B v0C (vEmb_rf _ _) 0 rfl rfl rfl rfl rfl rfl rfl (vDet_k ?_)
    show V K (cW cI cS a (E, T, Kp, P, S, fndC F 0)) 15 [(0, .ref (a 0)), (1, .int v), (2, .int k)] [.int ((-1000001) - (nI 0))]
    refine v_top (w := .int (-1000001)) (by decide) ?_
    exact v_iret h pX3_feed_0 9 hR hret rfl ((E, T, Kp, P, S, fndC F 0)) rfl ⟨vI (by first | (simp [inB, c1, -Int32.not_lt]; done) | (rw [hin_k]; simp [c1]; done)), rfl, rfl, (pR_of (by first | (simp [inB, c1, -Int32.not_lt]; done) | (simp only [hin_k, c1, cond_true, if_false]; rfl))), rfl, (fR_of (by first | (simp [inB, c1, -Int32.not_lt]; done) | (simp only [hin_k, c1, cond_true, if_false]; rfl)))⟩
  · skip
    refine v_iload_n h pX3_feed_0 3 rfl 2 rfl rfl (v_iconst h pX3_feed_0 4 rfl ki_4 ?_)
    refine v_icmp_le2 (tgt := 16) h pX3_feed_0 5 rfl rfl (fun c2 => ?_) (fun c2 => ?_)
    · skip
      have hin_k : inB k 1 4 = true := by simp [inB, c1, c2, -Int32.not_lt]
      obtain ⟨e_k, l_k⟩ := inBl_t 1 4 rfl rfl (by decide) (by decide) hin_k
      refine v_aload_n h pX3_feed_0 10 rfl 0 rfl rfl (v_get h pX3_feed_0 11 fX3_29 0 rfl rfl rfl (v_get h pX3_feed_0 12 fX3_216 31 rfl rfl rfl (v_top (w := .int (nI (ix (P 4 0)))) (congrArg Value.int hP4) (v_iload_n h pX3_feed_0 13 rfl 2 rfl rfl (v_top (w := .int (nI (ix k))) (congrArg Value.int e_k) ?_)))))
      refine v_iaddn h pX3_feed_0 14 (ix (P 4 0)) (ix k) rfl (v_bipush h pX3_feed_0 15 rfl kb_120 ?_)
      refine v_ncmp_le (a := ix (P 4 0) + ix k) (b := 120) (tgt := 36) h pX3_feed_0 16 rfl rfl (by omega) (by omega) (fun c3 => ?_) (fun c3 => ?_)
      · skip
        have c3n := Nat.not_lt.mpr c3
        rcases (show ix k = 1 ∨ ix k = 2 ∨ ix k = 3 ∨ ix k = 4 by omega) with hkl | hkl | hkl | hkl
        · skip
          have ekl : k = 1 := by rw [e_k, hkl]; rfl
          refine v_iload_n h pX3_feed_0 21 rfl 2 rfl rfl (v_top (w := .int 1) (congrArg Value.int ekl) (v_iconst h pX3_feed_0 22 rfl ki_1 (v_isub h pX3_feed_0 23 rfl ?_)))
          refine v_top (w := .int 0) (by decide) ?_
          have cj : ¬ 120 < ix (P 4 0) + 1 := by omega
          refine v_istore_n h pX3_feed_0 24 (lv' := [(3, .int 0), (0, .ref (a 0)), (1, .int v), (2, .int k)]) rfl rfl hnL rfl rfl (v_iload_n h pX3_feed_0 25 rfl 0 rfl rfl ?_)
          refine v_if_lt (tgt := 67) h pX3_feed_0 26 rfl rfl (fun c4 => absurd c4 (by decide)) (fun c4 => ?_)
          refine v_aload_n h pX3_feed_0 27 rfl 1 rfl rfl (v_get h pX3_feed_0 28 fX3_29 0 rfl rfl rfl (v_iload_n h pX3_feed_0 29 rfl 2 rfl rfl (v_bipush h pX3_feed_0 30 rfl kb_8 (v_iload_n h pX3_feed_0 31 rfl 0 rfl rfl (v_imul h pX3_feed_1 0 rfl ?_)))))
          refine v_iushr h pX3_feed_1 1 rfl (v_sipush h pX3_feed_1 2 rfl ks_255 (v_iand h pX3_feed_1 3 rfl ?_))
          refine v_top (w := .int (bytS v 0)) (congrArg Value.int (bytU v 0 (by decide))) ?_
          refine v_callV h pX3_feed_1 4 mX3_217 (As := [.int (bytS v 0)]) (st := []) (kX2_addByte _ _ cI cS (sh a 31) P (ix (P 4 0)) hP4 (by omega) (bytS v 0)) v0B v0C emb_P 31 rfl rfl rfl rfl rfl rfl rfl (vDet_k ?_)
          show V K (cW cI cS a (E, T, Kp, up (up P 0 (ix (P 4 0)) (bytS v 0)) 4 0 (nI (ix (P 4 0) + 1)), S, F)) 61 [(3, .int 0), (0, .ref (a 0)), (1, .int v), (2, .int k)] []
          refine v_iinc h pX3_feed_1 5 (v := (-1)) (lv' := [(3, .int (-1)), (0, .ref (a 0)), (1, .int v), (2, .int k)]) rfl 0 rfl hnL rfl rfl (by decide) (v_goto (tgt := 40) h pX3_feed_1 6 rfl rfl (v_iload_n h pX3_feed_0 25 rfl 0 rfl rfl ?_))
          refine v_if_lt (tgt := 67) h pX3_feed_0 26 rfl rfl (fun c5 => ?_) (fun c5 => absurd c5 (by decide))
          refine v_aload_n h pX3_feed_1 7 rfl 1 rfl rfl (v_get h pX3_feed_1 8 fX3_29 0 rfl rfl rfl (v_get h pX3_feed_1 9 fX3_216 31 rfl rfl rfl (v_top (w := .int (nI (ix (P 4 0) + 1))) rfl ?_)))
          exact v_iret h pX3_feed_1 10 hR hret rfl ((E, T, Kp, up (up P 0 (ix (P 4 0)) (bytS v 0)) 4 0 (nI (ix (P 4 0) + 1)), S, F)) rfl ⟨vI (by first | (simp [inB, c1, c2, c3n, hkl, cj, -Int32.not_lt]; done) | (rw [hin_k]; simp [c1, c2, c3n, hkl, cj]; done)), rfl, rfl, (pR_of (by first | (simp [inB, c1, c2, c3n, hkl, cj, -Int32.not_lt]; done) | (simp only [hin_k, c1, c2, c3n, hkl, cj, cond_true, if_false]; rfl))), rfl, (fR_of (by first | (simp [inB, c1, c2, c3n, hkl, cj, -Int32.not_lt]; done) | (simp only [hin_k, c1, c2, c3n, hkl, cj, cond_true, if_false]; rfl)))⟩
        · skip
          have ekl : k = 2 := by rw [e_k, hkl]; rfl
          refine v_iload_n h pX3_feed_0 21 rfl 2 rfl rfl (v_top (w := .int 2) (congrArg Value.int ekl) (v_iconst h pX3_feed_0 22 rfl ki_1 (v_isub h pX3_feed_0 23 rfl ?_)))
          refine v_top (w := .int 1) (by decide) ?_
          have cj : ¬ 120 < ix (P 4 0) + 2 := by omega
          refine v_istore_n h pX3_feed_0 24 (lv' := [(3, .int 1), (0, .ref (a 0)), (1, .int v), (2, .int k)]) rfl rfl hnL rfl rfl (v_iload_n h pX3_feed_0 25 rfl 0 rfl rfl ?_)
          refine v_if_lt (tgt := 67) h pX3_feed_0 26 rfl rfl (fun c6 => absurd c6 (by decide)) (fun c6 => ?_)
          refine v_aload_n h pX3_feed_0 27 rfl 1 rfl rfl (v_get h pX3_feed_0 28 fX3_29 0 rfl rfl rfl (v_iload_n h pX3_feed_0 29 rfl 2 rfl rfl (v_bipush h pX3_feed_0 30 rfl kb_8 (v_iload_n h pX3_feed_0 31 rfl 0 rfl rfl (v_imul h pX3_feed_1 0 rfl ?_)))))
          refine v_iushr h pX3_feed_1 1 rfl (v_sipush h pX3_feed_1 2 rfl ks_255 (v_iand h pX3_feed_1 3 rfl ?_))
          refine v_top (w := .int (bytS v 1)) (congrArg Value.int (bytU v 1 (by decide))) ?_
          refine v_callV h pX3_feed_1 4 mX3_217 (As := [.int (bytS v 1)]) (st := []) (kX2_addByte _ _ cI cS (sh a 31) P (ix (P 4 0)) hP4 (by omega) (bytS v 1)) v0B v0C emb_P 31 rfl rfl rfl rfl rfl rfl rfl (vDet_k ?_)
          show V K (cW cI cS a (E, T, Kp, up (up P 0 (ix (P 4 0)) (bytS v 1)) 4 0 (nI (ix (P 4 0) + 1)), S, F)) 61 [(3, .int 1), (0, .ref (a 0)), (1, .int v), (2, .int k)] []
          refine v_iinc h pX3_feed_1 5 (v := 0) (lv' := [(3, .int 0), (0, .ref (a 0)), (1, .int v), (2, .int k)]) rfl 0 rfl hnL rfl rfl (by decide) (v_goto (tgt := 40) h pX3_feed_1 6 rfl rfl (v_iload_n h pX3_feed_0 25 rfl 0 rfl rfl ?_))
          refine v_if_lt (tgt := 67) h pX3_feed_0 26 rfl rfl (fun c7 => absurd c7 (by decide)) (fun c7 => ?_)
          refine v_aload_n h pX3_feed_0 27 rfl 1 rfl rfl (v_get h pX3_feed_0 28 fX3_29 0 rfl rfl rfl (v_iload_n h pX3_feed_0 29 rfl 2 rfl rfl (v_bipush h pX3_feed_0 30 rfl kb_8 (v_iload_n h pX3_feed_0 31 rfl 0 rfl rfl (v_imul h pX3_feed_1 0 rfl ?_)))))
          refine v_iushr h pX3_feed_1 1 rfl (v_sipush h pX3_feed_1 2 rfl ks_255 (v_iand h pX3_feed_1 3 rfl ?_))
          refine v_top (w := .int (bytS v 0)) (congrArg Value.int (bytU v 0 (by decide))) ?_
          refine v_callV h pX3_feed_1 4 mX3_217 (As := [.int (bytS v 0)]) (st := []) (kX2_addByte _ _ cI cS (sh a 31) (up (up P 0 (ix (P 4 0)) (bytS v 1)) 4 0 (nI (ix (P 4 0) + 1))) (ix (P 4 0) + 1) rfl (by omega) (bytS v 0)) v0B v0C emb_P 31 rfl rfl rfl rfl rfl rfl rfl (vDet_k ?_)
          show V K (cW cI cS a (E, T, Kp, up (up (up (up P 0 (ix (P 4 0)) (bytS v 1)) 4 0 (nI (ix (P 4 0) + 1))) 0 (ix (P 4 0) + 1) (bytS v 0)) 4 0 (nI (ix (P 4 0) + 1 + 1)), S, F)) 61 [(3, .int 0), (0, .ref (a 0)), (1, .int v), (2, .int k)] []
          refine v_iinc h pX3_feed_1 5 (v := (-1)) (lv' := [(3, .int (-1)), (0, .ref (a 0)), (1, .int v), (2, .int k)]) rfl 0 rfl hnL rfl rfl (by decide) (v_goto (tgt := 40) h pX3_feed_1 6 rfl rfl (v_iload_n h pX3_feed_0 25 rfl 0 rfl rfl ?_))
          refine v_if_lt (tgt := 67) h pX3_feed_0 26 rfl rfl (fun c8 => ?_) (fun c8 => absurd c8 (by decide))
          refine v_aload_n h pX3_feed_1 7 rfl 1 rfl rfl (v_get h pX3_feed_1 8 fX3_29 0 rfl rfl rfl (v_get h pX3_feed_1 9 fX3_216 31 rfl rfl rfl (v_top (w := .int (nI (ix (P 4 0) + 1 + 1))) rfl ?_)))
          exact v_iret h pX3_feed_1 10 hR hret rfl ((E, T, Kp, up (up (up (up P 0 (ix (P 4 0)) (bytS v 1)) 4 0 (nI (ix (P 4 0) + 1))) 0 (ix (P 4 0) + 1) (bytS v 0)) 4 0 (nI (ix (P 4 0) + 1 + 1)), S, F)) rfl ⟨vI (by first | (simp [inB, c1, c2, c3n, hkl, cj, -Int32.not_lt]; done) | (rw [hin_k]; simp [c1, c2, c3n, hkl, cj]; done)), rfl, rfl, (pR_of (by first | (simp [inB, c1, c2, c3n, hkl, cj, -Int32.not_lt]; done) | (simp only [hin_k, c1, c2, c3n, hkl, cj, cond_true, if_false]; rfl))), rfl, (fR_of (by first | (simp [inB, c1, c2, c3n, hkl, cj, -Int32.not_lt]; done) | (simp only [hin_k, c1, c2, c3n, hkl, cj, cond_true, if_false]; rfl)))⟩
        · skip
          have ekl : k = 3 := by rw [e_k, hkl]; rfl
          refine v_iload_n h pX3_feed_0 21 rfl 2 rfl rfl (v_top (w := .int 3) (congrArg Value.int ekl) (v_iconst h pX3_feed_0 22 rfl ki_1 (v_isub h pX3_feed_0 23 rfl ?_)))
          refine v_top (w := .int 2) (by decide) ?_
          have cj : ¬ 120 < ix (P 4 0) + 3 := by omega
          refine v_istore_n h pX3_feed_0 24 (lv' := [(3, .int 2), (0, .ref (a 0)), (1, .int v), (2, .int k)]) rfl rfl hnL rfl rfl (v_iload_n h pX3_feed_0 25 rfl 0 rfl rfl ?_)
          refine v_if_lt (tgt := 67) h pX3_feed_0 26 rfl rfl (fun c9 => absurd c9 (by decide)) (fun c9 => ?_)
          refine v_aload_n h pX3_feed_0 27 rfl 1 rfl rfl (v_get h pX3_feed_0 28 fX3_29 0 rfl rfl rfl (v_iload_n h pX3_feed_0 29 rfl 2 rfl rfl (v_bipush h pX3_feed_0 30 rfl kb_8 (v_iload_n h pX3_feed_0 31 rfl 0 rfl rfl (v_imul h pX3_feed_1 0 rfl ?_)))))
          refine v_iushr h pX3_feed_1 1 rfl (v_sipush h pX3_feed_1 2 rfl ks_255 (v_iand h pX3_feed_1 3 rfl ?_))
          refine v_top (w := .int (bytS v 2)) (congrArg Value.int (bytU v 2 (by decide))) ?_
          refine v_callV h pX3_feed_1 4 mX3_217 (As := [.int (bytS v 2)]) (st := []) (kX2_addByte _ _ cI cS (sh a 31) P (ix (P 4 0)) hP4 (by omega) (bytS v 2)) v0B v0C emb_P 31 rfl rfl rfl rfl rfl rfl rfl (vDet_k ?_)
          show V K (cW cI cS a (E, T, Kp, up (up P 0 (ix (P 4 0)) (bytS v 2)) 4 0 (nI (ix (P 4 0) + 1)), S, F)) 61 [(3, .int 2), (0, .ref (a 0)), (1, .int v), (2, .int k)] []
          refine v_iinc h pX3_feed_1 5 (v := 1) (lv' := [(3, .int 1), (0, .ref (a 0)), (1, .int v), (2, .int k)]) rfl 0 rfl hnL rfl rfl (by decide) (v_goto (tgt := 40) h pX3_feed_1 6 rfl rfl (v_iload_n h pX3_feed_0 25 rfl 0 rfl rfl ?_))
          refine v_if_lt (tgt := 67) h pX3_feed_0 26 rfl rfl (fun c10 => absurd c10 (by decide)) (fun c10 => ?_)
          refine v_aload_n h pX3_feed_0 27 rfl 1 rfl rfl (v_get h pX3_feed_0 28 fX3_29 0 rfl rfl rfl (v_iload_n h pX3_feed_0 29 rfl 2 rfl rfl (v_bipush h pX3_feed_0 30 rfl kb_8 (v_iload_n h pX3_feed_0 31 rfl 0 rfl rfl (v_imul h pX3_feed_1 0 rfl ?_)))))
          refine v_iushr h pX3_feed_1 1 rfl (v_sipush h pX3_feed_1 2 rfl ks_255 (v_iand h pX3_feed_1 3 rfl ?_))
          refine v_top (w := .int (bytS v 1)) (congrArg Value.int (bytU v 1 (by decide))) ?_
          refine v_callV h pX3_feed_1 4 mX3_217 (As := [.int (bytS v 1)]) (st := []) (kX2_addByte _ _ cI cS (sh a 31) (up (up P 0 (ix (P 4 0)) (bytS v 2)) 4 0 (nI (ix (P 4 0) + 1))) (ix (P 4 0) + 1) rfl (by omega) (bytS v 1)) v0B v0C emb_P 31 rfl rfl rfl rfl rfl rfl rfl (vDet_k ?_)
          show V K (cW cI cS a (E, T, Kp, up (up (up (up P 0 (ix (P 4 0)) (bytS v 2)) 4 0 (nI (ix (P 4 0) + 1))) 0 (ix (P 4 0) + 1) (bytS v 1)) 4 0 (nI (ix (P 4 0) + 1 + 1)), S, F)) 61 [(3, .int 1), (0, .ref (a 0)), (1, .int v), (2, .int k)] []
          refine v_iinc h pX3_feed_1 5 (v := 0) (lv' := [(3, .int 0), (0, .ref (a 0)), (1, .int v), (2, .int k)]) rfl 0 rfl hnL rfl rfl (by decide) (v_goto (tgt := 40) h pX3_feed_1 6 rfl rfl (v_iload_n h pX3_feed_0 25 rfl 0 rfl rfl ?_))
          refine v_if_lt (tgt := 67) h pX3_feed_0 26 rfl rfl (fun c11 => absurd c11 (by decide)) (fun c11 => ?_)
          refine v_aload_n h pX3_feed_0 27 rfl 1 rfl rfl (v_get h pX3_feed_0 28 fX3_29 0 rfl rfl rfl (v_iload_n h pX3_feed_0 29 rfl 2 rfl rfl (v_bipush h pX3_feed_0 30 rfl kb_8 (v_iload_n h pX3_feed_0 31 rfl 0 rfl rfl (v_imul h pX3_feed_1 0 rfl ?_)))))
          refine v_iushr h pX3_feed_1 1 rfl (v_sipush h pX3_feed_1 2 rfl ks_255 (v_iand h pX3_feed_1 3 rfl ?_))
          refine v_top (w := .int (bytS v 0)) (congrArg Value.int (bytU v 0 (by decide))) ?_
          refine v_callV h pX3_feed_1 4 mX3_217 (As := [.int (bytS v 0)]) (st := []) (kX2_addByte _ _ cI cS (sh a 31) (up (up (up (up P 0 (ix (P 4 0)) (bytS v 2)) 4 0 (nI (ix (P 4 0) + 1))) 0 (ix (P 4 0) + 1) (bytS v 1)) 4 0 (nI (ix (P 4 0) + 1 + 1))) (ix (P 4 0) + 1 + 1) rfl (by omega) (bytS v 0)) v0B v0C emb_P 31 rfl rfl rfl rfl rfl rfl rfl (vDet_k ?_)
          show V K (cW cI cS a (E, T, Kp, up (up (up (up (up (up P 0 (ix (P 4 0)) (bytS v 2)) 4 0 (nI (ix (P 4 0) + 1))) 0 (ix (P 4 0) + 1) (bytS v 1)) 4 0 (nI (ix (P 4 0) + 1 + 1))) 0 (ix (P 4 0) + 1 + 1) (bytS v 0)) 4 0 (nI (ix (P 4 0) + 1 + 1 + 1)), S, F)) 61 [(3, .int 0), (0, .ref (a 0)), (1, .int v), (2, .int k)] []
          refine v_iinc h pX3_feed_1 5 (v := (-1)) (lv' := [(3, .int (-1)), (0, .ref (a 0)), (1, .int v), (2, .int k)]) rfl 0 rfl hnL rfl rfl (by decide) (v_goto (tgt := 40) h pX3_feed_1 6 rfl rfl (v_iload_n h pX3_feed_0 25 rfl 0 rfl rfl ?_))
          refine v_if_lt (tgt := 67) h pX3_feed_0 26 rfl rfl (fun c12 => ?_) (fun c12 => absurd c12 (by decide))
          refine v_aload_n h pX3_feed_1 7 rfl 1 rfl rfl (v_get h pX3_feed_1 8 fX3_29 0 rfl rfl rfl (v_get h pX3_feed_1 9 fX3_216 31 rfl rfl rfl (v_top (w := .int (nI (ix (P 4 0) + 1 + 1 + 1))) rfl ?_)))
          exact v_iret h pX3_feed_1 10 hR hret rfl ((E, T, Kp, up (up (up (up (up (up P 0 (ix (P 4 0)) (bytS v 2)) 4 0 (nI (ix (P 4 0) + 1))) 0 (ix (P 4 0) + 1) (bytS v 1)) 4 0 (nI (ix (P 4 0) + 1 + 1))) 0 (ix (P 4 0) + 1 + 1) (bytS v 0)) 4 0 (nI (ix (P 4 0) + 1 + 1 + 1)), S, F)) rfl ⟨vI (by first | (simp [inB, c1, c2, c3n, hkl, cj, -Int32.not_lt]; done) | (rw [hin_k]; simp [c1, c2, c3n, hkl, cj]; done)), rfl, rfl, (pR_of (by first | (simp [inB, c1, c2, c3n, hkl, cj, -Int32.not_lt]; done) | (simp only [hin_k, c1, c2, c3n, hkl, cj, cond_true, if_false]; rfl))), rfl, (fR_of (by first | (simp [inB, c1, c2, c3n, hkl, cj, -Int32.not_lt]; done) | (simp only [hin_k, c1, c2, c3n, hkl, cj, cond_true, if_false]; rfl)))⟩
        · skip
          have ekl : k = 4 := by rw [e_k, hkl]; rfl
          refine v_iload_n h pX3_feed_0 21 rfl 2 rfl rfl (v_top (w := .int 4) (congrArg Value.int ekl) (v_iconst h pX3_feed_0 22 rfl ki_1 (v_isub h pX3_feed_0 23 rfl ?_)))
          refine v_top (w := .int 3) (by decide) ?_
          have cj : ¬ 120 < ix (P 4 0) + 4 := by omega
          refine v_istore_n h pX3_feed_0 24 (lv' := [(3, .int 3), (0, .ref (a 0)), (1, .int v), (2, .int k)]) rfl rfl hnL rfl rfl (v_iload_n h pX3_feed_0 25 rfl 0 rfl rfl ?_)
          refine v_if_lt (tgt := 67) h pX3_feed_0 26 rfl rfl (fun c13 => absurd c13 (by decide)) (fun c13 => ?_)
          refine v_aload_n h pX3_feed_0 27 rfl 1 rfl rfl (v_get h pX3_feed_0 28 fX3_29 0 rfl rfl rfl (v_iload_n h pX3_feed_0 29 rfl 2 rfl rfl (v_bipush h pX3_feed_0 30 rfl kb_8 (v_iload_n h pX3_feed_0 31 rfl 0 rfl rfl (v_imul h pX3_feed_1 0 rfl ?_)))))
          refine v_iushr h pX3_feed_1 1 rfl (v_sipush h pX3_feed_1 2 rfl ks_255 (v_iand h pX3_feed_1 3 rfl ?_))
          refine v_top (w := .int (bytS v 3)) (congrArg Value.int (bytU v 3 (by decide))) ?_
          refine v_callV h pX3_feed_1 4 mX3_217 (As := [.int (bytS v 3)]) (st := []) (kX2_addByte _ _ cI cS (sh a 31) P (ix (P 4 0)) hP4 (by omega) (bytS v 3)) v0B v0C emb_P 31 rfl rfl rfl rfl rfl rfl rfl (vDet_k ?_)
          show V K (cW cI cS a (E, T, Kp, up (up P 0 (ix (P 4 0)) (bytS v 3)) 4 0 (nI (ix (P 4 0) + 1)), S, F)) 61 [(3, .int 3), (0, .ref (a 0)), (1, .int v), (2, .int k)] []
          refine v_iinc h pX3_feed_1 5 (v := 2) (lv' := [(3, .int 2), (0, .ref (a 0)), (1, .int v), (2, .int k)]) rfl 0 rfl hnL rfl rfl (by decide) (v_goto (tgt := 40) h pX3_feed_1 6 rfl rfl (v_iload_n h pX3_feed_0 25 rfl 0 rfl rfl ?_))
          refine v_if_lt (tgt := 67) h pX3_feed_0 26 rfl rfl (fun c14 => absurd c14 (by decide)) (fun c14 => ?_)
          refine v_aload_n h pX3_feed_0 27 rfl 1 rfl rfl (v_get h pX3_feed_0 28 fX3_29 0 rfl rfl rfl (v_iload_n h pX3_feed_0 29 rfl 2 rfl rfl (v_bipush h pX3_feed_0 30 rfl kb_8 (v_iload_n h pX3_feed_0 31 rfl 0 rfl rfl (v_imul h pX3_feed_1 0 rfl ?_)))))
          refine v_iushr h pX3_feed_1 1 rfl (v_sipush h pX3_feed_1 2 rfl ks_255 (v_iand h pX3_feed_1 3 rfl ?_))
          refine v_top (w := .int (bytS v 2)) (congrArg Value.int (bytU v 2 (by decide))) ?_
          refine v_callV h pX3_feed_1 4 mX3_217 (As := [.int (bytS v 2)]) (st := []) (kX2_addByte _ _ cI cS (sh a 31) (up (up P 0 (ix (P 4 0)) (bytS v 3)) 4 0 (nI (ix (P 4 0) + 1))) (ix (P 4 0) + 1) rfl (by omega) (bytS v 2)) v0B v0C emb_P 31 rfl rfl rfl rfl rfl rfl rfl (vDet_k ?_)
          show V K (cW cI cS a (E, T, Kp, up (up (up (up P 0 (ix (P 4 0)) (bytS v 3)) 4 0 (nI (ix (P 4 0) + 1))) 0 (ix (P 4 0) + 1) (bytS v 2)) 4 0 (nI (ix (P 4 0) + 1 + 1)), S, F)) 61 [(3, .int 2), (0, .ref (a 0)), (1, .int v), (2, .int k)] []
          refine v_iinc h pX3_feed_1 5 (v := 1) (lv' := [(3, .int 1), (0, .ref (a 0)), (1, .int v), (2, .int k)]) rfl 0 rfl hnL rfl rfl (by decide) (v_goto (tgt := 40) h pX3_feed_1 6 rfl rfl (v_iload_n h pX3_feed_0 25 rfl 0 rfl rfl ?_))
          refine v_if_lt (tgt := 67) h pX3_feed_0 26 rfl rfl (fun c15 => absurd c15 (by decide)) (fun c15 => ?_)
          refine v_aload_n h pX3_feed_0 27 rfl 1 rfl rfl (v_get h pX3_feed_0 28 fX3_29 0 rfl rfl rfl (v_iload_n h pX3_feed_0 29 rfl 2 rfl rfl (v_bipush h pX3_feed_0 30 rfl kb_8 (v_iload_n h pX3_feed_0 31 rfl 0 rfl rfl (v_imul h pX3_feed_1 0 rfl ?_)))))
          refine v_iushr h pX3_feed_1 1 rfl (v_sipush h pX3_feed_1 2 rfl ks_255 (v_iand h pX3_feed_1 3 rfl ?_))
          refine v_top (w := .int (bytS v 1)) (congrArg Value.int (bytU v 1 (by decide))) ?_
          refine v_callV h pX3_feed_1 4 mX3_217 (As := [.int (bytS v 1)]) (st := []) (kX2_addByte _ _ cI cS (sh a 31) (up (up (up (up P 0 (ix (P 4 0)) (bytS v 3)) 4 0 (nI (ix (P 4 0) + 1))) 0 (ix (P 4 0) + 1) (bytS v 2)) 4 0 (nI (ix (P 4 0) + 1 + 1))) (ix (P 4 0) + 1 + 1) rfl (by omega) (bytS v 1)) v0B v0C emb_P 31 rfl rfl rfl rfl rfl rfl rfl (vDet_k ?_)
          show V K (cW cI cS a (E, T, Kp, up (up (up (up (up (up P 0 (ix (P 4 0)) (bytS v 3)) 4 0 (nI (ix (P 4 0) + 1))) 0 (ix (P 4 0) + 1) (bytS v 2)) 4 0 (nI (ix (P 4 0) + 1 + 1))) 0 (ix (P 4 0) + 1 + 1) (bytS v 1)) 4 0 (nI (ix (P 4 0) + 1 + 1 + 1)), S, F)) 61 [(3, .int 1), (0, .ref (a 0)), (1, .int v), (2, .int k)] []
          refine v_iinc h pX3_feed_1 5 (v := 0) (lv' := [(3, .int 0), (0, .ref (a 0)), (1, .int v), (2, .int k)]) rfl 0 rfl hnL rfl rfl (by decide) (v_goto (tgt := 40) h pX3_feed_1 6 rfl rfl (v_iload_n h pX3_feed_0 25 rfl 0 rfl rfl ?_))
          refine v_if_lt (tgt := 67) h pX3_feed_0 26 rfl rfl (fun c16 => absurd c16 (by decide)) (fun c16 => ?_)
          refine v_aload_n h pX3_feed_0 27 rfl 1 rfl rfl (v_get h pX3_feed_0 28 fX3_29 0 rfl rfl rfl (v_iload_n h pX3_feed_0 29 rfl 2 rfl rfl (v_bipush h pX3_feed_0 30 rfl kb_8 (v_iload_n h pX3_feed_0 31 rfl 0 rfl rfl (v_imul h pX3_feed_1 0 rfl ?_)))))
          refine v_iushr h pX3_feed_1 1 rfl (v_sipush h pX3_feed_1 2 rfl ks_255 (v_iand h pX3_feed_1 3 rfl ?_))
          refine v_top (w := .int (bytS v 0)) (congrArg Value.int (bytU v 0 (by decide))) ?_
          refine v_callV h pX3_feed_1 4 mX3_217 (As := [.int (bytS v 0)]) (st := []) (kX2_addByte _ _ cI cS (sh a 31) (up (up (up (up (up (up P 0 (ix (P 4 0)) (bytS v 3)) 4 0 (nI (ix (P 4 0) + 1))) 0 (ix (P 4 0) + 1) (bytS v 2)) 4 0 (nI (ix (P 4 0) + 1 + 1))) 0 (ix (P 4 0) + 1 + 1) (bytS v 1)) 4 0 (nI (ix (P 4 0) + 1 + 1 + 1))) (ix (P 4 0) + 1 + 1 + 1) rfl (by omega) (bytS v 0)) v0B v0C emb_P 31 rfl rfl rfl rfl rfl rfl rfl (vDet_k ?_)
          show V K (cW cI cS a (E, T, Kp, up (up (up (up (up (up (up (up P 0 (ix (P 4 0)) (bytS v 3)) 4 0 (nI (ix (P 4 0) + 1))) 0 (ix (P 4 0) + 1) (bytS v 2)) 4 0 (nI (ix (P 4 0) + 1 + 1))) 0 (ix (P 4 0) + 1 + 1) (bytS v 1)) 4 0 (nI (ix (P 4 0) + 1 + 1 + 1))) 0 (ix (P 4 0) + 1 + 1 + 1) (bytS v 0)) 4 0 (nI (ix (P 4 0) + 1 + 1 + 1 + 1)), S, F)) 61 [(3, .int 0), (0, .ref (a 0)), (1, .int v), (2, .int k)] []
          refine v_iinc h pX3_feed_1 5 (v := (-1)) (lv' := [(3, .int (-1)), (0, .ref (a 0)), (1, .int v), (2, .int k)]) rfl 0 rfl hnL rfl rfl (by decide) (v_goto (tgt := 40) h pX3_feed_1 6 rfl rfl (v_iload_n h pX3_feed_0 25 rfl 0 rfl rfl ?_))
          refine v_if_lt (tgt := 67) h pX3_feed_0 26 rfl rfl (fun c17 => ?_) (fun c17 => absurd c17 (by decide))
          refine v_aload_n h pX3_feed_1 7 rfl 1 rfl rfl (v_get h pX3_feed_1 8 fX3_29 0 rfl rfl rfl (v_get h pX3_feed_1 9 fX3_216 31 rfl rfl rfl (v_top (w := .int (nI (ix (P 4 0) + 1 + 1 + 1 + 1))) rfl ?_)))
          exact v_iret h pX3_feed_1 10 hR hret rfl ((E, T, Kp, up (up (up (up (up (up (up (up P 0 (ix (P 4 0)) (bytS v 3)) 4 0 (nI (ix (P 4 0) + 1))) 0 (ix (P 4 0) + 1) (bytS v 2)) 4 0 (nI (ix (P 4 0) + 1 + 1))) 0 (ix (P 4 0) + 1 + 1) (bytS v 1)) 4 0 (nI (ix (P 4 0) + 1 + 1 + 1))) 0 (ix (P 4 0) + 1 + 1 + 1) (bytS v 0)) 4 0 (nI (ix (P 4 0) + 1 + 1 + 1 + 1)), S, F)) rfl ⟨vI (by first | (simp [inB, c1, c2, c3n, hkl, cj, -Int32.not_lt]; done) | (rw [hin_k]; simp [c1, c2, c3n, hkl, cj]; done)), rfl, rfl, (pR_of (by first | (simp [inB, c1, c2, c3n, hkl, cj, -Int32.not_lt]; done) | (simp only [hin_k, c1, c2, c3n, hkl, cj, cond_true, if_false]; rfl))), rfl, (fR_of (by first | (simp [inB, c1, c2, c3n, hkl, cj, -Int32.not_lt]; done) | (simp only [hin_k, c1, c2, c3n, hkl, cj, cond_true, if_false]; rfl)))⟩
      · skip
        refine v_aload_n h pX3_feed_0 17 rfl 0 rfl rfl (v_iconst h pX3_feed_0 18 rfl ki_1 ?_)
        refine v_callV h pX3_feed_0 19 mX3_55 (As := [.int 1]) (st := []) (kX3_finding _ _ cI cS a E T Kp P F S 1 (by decide)) v0B v0C (vEmb_rf _ _) 0 rfl rfl rfl rfl rfl rfl rfl (vDet_k ?_)
        show V K (cW cI cS a (E, T, Kp, P, S, fndC F 1)) 35 [(0, .ref (a 0)), (1, .int v), (2, .int k)] [.int ((-1000001) - (nI 1))]
        refine v_top (w := .int (-1000002)) (by decide) ?_
        exact v_iret h pX3_feed_0 20 hR hret rfl ((E, T, Kp, P, S, fndC F 1)) rfl ⟨vI (by first | (simp [inB, c1, c2, c3, -Int32.not_lt]; done) | (rw [hin_k]; simp [c1, c2, c3]; done)), rfl, rfl, (pR_of (by first | (simp [inB, c1, c2, c3, -Int32.not_lt]; done) | (simp only [hin_k, c1, c2, c3, cond_true, if_false]; rfl))), rfl, (fR_of (by first | (simp [inB, c1, c2, c3, -Int32.not_lt]; done) | (simp only [hin_k, c1, c2, c3, cond_true, if_false]; rfl)))⟩
    · skip
      refine v_aload_n h pX3_feed_0 6 rfl 0 rfl rfl (v_iconst h pX3_feed_0 7 rfl ki_0 ?_)
      refine v_callV h pX3_feed_0 8 mX3_55 (As := [.int 0]) (st := []) (kX3_finding _ _ cI cS a E T Kp P F S 0 (by decide)) v0B v0C (vEmb_rf _ _) 0 rfl rfl rfl rfl rfl rfl rfl (vDet_k ?_)
      show V K (cW cI cS a (E, T, Kp, P, S, fndC F 0)) 15 [(0, .ref (a 0)), (1, .int v), (2, .int k)] [.int ((-1000001) - (nI 0))]
      refine v_top (w := .int (-1000001)) (by decide) ?_
      exact v_iret h pX3_feed_0 9 hR hret rfl ((E, T, Kp, P, S, fndC F 0)) rfl ⟨vI (by first | (simp [inB, c1, c2, -Int32.not_lt]; done) | (rw [hin_k]; simp [c1, c2]; done)), rfl, rfl, (pR_of (by first | (simp [inB, c1, c2, -Int32.not_lt]; done) | (simp only [hin_k, c1, c2, cond_true, if_false]; rfl))), rfl, (fR_of (by first | (simp [inB, c1, c2, -Int32.not_lt]; done) | (simp only [hin_k, c1, c2, cond_true, if_false]; rfl)))⟩
