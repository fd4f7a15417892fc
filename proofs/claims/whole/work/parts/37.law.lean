/-! ===== the law: each operation ===== -/
theorem lc_bed {K : vK} {b0 L : Nat} {xs : Nat → Int32} {cI cS : ClassId} {x : xS} (C : lH K b0 L xs cI cS x) (hL : L ≤ 3072) (a b : Nat → Nat) (t : Nat) (ht : 6 * t + 6 ≤ L) (u : kS) (w : mS) (hI : lInv t u w) (kk : ∀ (u : kS) (w : mS), lInv (t + 1) u w → V K (lW cI cS a b (u, w)) 1534 (lLv a b b0 t) []) : V K (lW cI cS a b (u, w)) 228 (lLv a b b0 t) [] := by
  obtain ⟨h, hnL, X, hb, hA, hx⟩ := C
  obtain ⟨E, T, Kp, P, S, F⟩ := u
  obtain ⟨E', K2, Bf, As, Q⟩ := w
  obtain ⟨e, hI⟩ := hI
  have e : E = E' := e
  subst e
  obtain ⟨r, E1, Kp1, P1, S1, F1, K1, Q1, hC, hM, hI1⟩ := op_bed K.1.2.1 K.2.2.1.2.2.1 cI cS a b x hI (by omega) (xs (6 * t + 1)) (xs (6 * t + 2)) (xs (6 * t + 3))
  refine v_aload_n h pL_law_0 22 rfl 2 rfl rfl ?_
  refine v_aload_n h pL_law_0 23 rfl 3 rfl rfl ?_
  refine v_iload_n h pL_law_0 24 rfl 0 rfl rfl ?_
  refine v_iconst h pL_law_0 25 rfl ki_1 ?_
  refine v_iadd h pL_law_0 26 rfl ?_
  refine v_sld h pL_law_0 27 X hb hA (6 * t + 1) rfl (ix6_1 t) (by omega) hL ?_
  refine v_aload_n h pL_law_0 28 rfl 3 rfl rfl ?_
  refine v_iload_n h pL_law_0 29 rfl 0 rfl rfl ?_
  refine v_iconst h pL_law_0 30 rfl ki_2 ?_
  refine v_iadd h pL_law_0 31 rfl ?_
  refine v_sld h pL_law_1 0 X hb hA (6 * t + 2) rfl (ix6_2 t) (by omega) hL ?_
  refine v_aload_n h pL_law_1 1 rfl 3 rfl rfl ?_
  refine v_iload_n h pL_law_1 2 rfl 0 rfl rfl ?_
  refine v_iconst h pL_law_1 3 rfl ki_3 ?_
  refine v_iadd h pL_law_1 4 rfl ?_
  refine v_sld h pL_law_1 5 X hb hA (6 * t + 3) rfl (ix6_3 t) (by omega) hL ?_
  refine v_callV h pL_law_1 6 mL_13 (As := [.int (xs (6 * t + 1)), .int (xs (6 * t + 2)), .int (xs (6 * t + 3))]) (st := []) hC v0B v0C emb_lc 0 rfl rfl rfl rfl rfl rfl rfl (fun v u1 hc => ?_)
  have hv := hc.1
  subst hv
  show V K (lW cI cS a b (u1, (E, K2, Bf, As, Q))) 247 (lLv a b b0 t) [.int r]
  refine v_aload_n h pL_law_1 7 rfl 1 rfl rfl ?_
  refine v_aload_n h pL_law_1 8 rfl 3 rfl rfl ?_
  refine v_iload_n h pL_law_1 9 rfl 0 rfl rfl ?_
  refine v_iconst h pL_law_1 10 rfl ki_1 ?_
  refine v_iadd h pL_law_1 11 rfl ?_
  refine v_sld h pL_law_1 12 X hb hA (6 * t + 1) rfl (ix6_1 t) (by omega) hL ?_
  refine v_aload_n h pL_law_1 13 rfl 3 rfl rfl ?_
  refine v_iload_n h pL_law_1 14 rfl 0 rfl rfl ?_
  refine v_iconst h pL_law_1 15 rfl ki_2 ?_
  refine v_iadd h pL_law_1 16 rfl ?_
  refine v_sld h pL_law_1 17 X hb hA (6 * t + 2) rfl (ix6_2 t) (by omega) hL ?_
  refine v_aload_n h pL_law_1 18 rfl 3 rfl rfl ?_
  refine v_iload_n h pL_law_1 19 rfl 0 rfl rfl ?_
  refine v_iconst h pL_law_1 20 rfl ki_3 ?_
  refine v_iadd h pL_law_1 21 rfl ?_
  refine v_sld h pL_law_1 22 X hb hA (6 * t + 3) rfl (ix6_3 t) (by omega) hL ?_
  refine v_callV h pL_law_1 23 mL_17 (As := [.int (xs (6 * t + 1)), .int (xs (6 * t + 2)), .int (xs (6 * t + 3))]) (st := [.int r]) hM v0B v0C emb_lm 47 rfl rfl rfl rfl rfl rfl rfl (fun v w1 hm => ?_)
  have hv := hm.1
  subst hv
  show V K (lW cI cS a b (u1, w1)) 266 (lLv a b b0 t) [.int r, .int r]
  exact v_icmp_eq (tgt := 1534) h pL_law_1 24 rfl rfl (fun _ => kk _ _ (lInv_of hc hm hI1)) (fun z => absurd rfl z)
theorem lc_bedOf {K : vK} {b0 L : Nat} {xs : Nat → Int32} {cI cS : ClassId} {x : xS} (C : lH K b0 L xs cI cS x) (hL : L ≤ 3072) (a b : Nat → Nat) (t : Nat) (ht : 6 * t + 6 ≤ L) (u : kS) (w : mS) (hI : lInv t u w) (kk : ∀ (u : kS) (w : mS), lInv (t + 1) u w → V K (lW cI cS a b (u, w)) 1534 (lLv a b b0 t) []) : V K (lW cI cS a b (u, w)) 271 (lLv a b b0 t) [] := by
  obtain ⟨h, hnL, X, hb, hA, hx⟩ := C
  obtain ⟨E, T, Kp, P, S, F⟩ := u
  obtain ⟨E', K2, Bf, As, Q⟩ := w
  obtain ⟨e, hI⟩ := hI
  have e : E = E' := e
  subst e
  obtain ⟨r, E1, Kp1, P1, S1, F1, K1, Q1, hC, hM, hI1⟩ := op_bedOf K.1.2.1 K.2.2.1.2.2.1 cI cS a b x hI (by omega) (xs (6 * t + 1)) (xs (6 * t + 2))
  refine v_aload_n h pL_law_1 27 rfl 2 rfl rfl ?_
  refine v_aload_n h pL_law_1 28 rfl 3 rfl rfl ?_
  refine v_iload_n h pL_law_1 29 rfl 0 rfl rfl ?_
  refine v_iconst h pL_law_1 30 rfl ki_1 ?_
  refine v_iadd h pL_law_1 31 rfl ?_
  refine v_sld h pL_law_2 0 X hb hA (6 * t + 1) rfl (ix6_1 t) (by omega) hL ?_
  refine v_aload_n h pL_law_2 1 rfl 3 rfl rfl ?_
  refine v_iload_n h pL_law_2 2 rfl 0 rfl rfl ?_
  refine v_iconst h pL_law_2 3 rfl ki_2 ?_
  refine v_iadd h pL_law_2 4 rfl ?_
  refine v_sld h pL_law_2 5 X hb hA (6 * t + 2) rfl (ix6_2 t) (by omega) hL ?_
  refine v_callV h pL_law_2 6 mL_18 (As := [.int (xs (6 * t + 1)), .int (xs (6 * t + 2))]) (st := []) hC v0B v0C emb_lc 0 rfl rfl rfl rfl rfl rfl rfl (fun v u1 hc => ?_)
  have hv := hc.1
  subst hv
  show V K (lW cI cS a b (u1, (E, K2, Bf, As, Q))) 285 (lLv a b b0 t) [.int r]
  refine v_aload_n h pL_law_2 7 rfl 1 rfl rfl ?_
  refine v_aload_n h pL_law_2 8 rfl 3 rfl rfl ?_
  refine v_iload_n h pL_law_2 9 rfl 0 rfl rfl ?_
  refine v_iconst h pL_law_2 10 rfl ki_1 ?_
  refine v_iadd h pL_law_2 11 rfl ?_
  refine v_sld h pL_law_2 12 X hb hA (6 * t + 1) rfl (ix6_1 t) (by omega) hL ?_
  refine v_aload_n h pL_law_2 13 rfl 3 rfl rfl ?_
  refine v_iload_n h pL_law_2 14 rfl 0 rfl rfl ?_
  refine v_iconst h pL_law_2 15 rfl ki_2 ?_
  refine v_iadd h pL_law_2 16 rfl ?_
  refine v_sld h pL_law_2 17 X hb hA (6 * t + 2) rfl (ix6_2 t) (by omega) hL ?_
  refine v_callV h pL_law_2 18 mL_22 (As := [.int (xs (6 * t + 1)), .int (xs (6 * t + 2))]) (st := [.int r]) hM v0B v0C emb_lm 47 rfl rfl rfl rfl rfl rfl rfl (fun v w1 hm => ?_)
  have hv := hm.1
  subst hv
  show V K (lW cI cS a b (u1, w1)) 299 (lLv a b b0 t) [.int r, .int r]
  exact v_icmp_eq (tgt := 1534) h pL_law_2 19 rfl rfl (fun _ => kk _ _ (lInv_of hc hm hI1)) (fun z => absurd rfl z)
theorem lc_comes {K : vK} {b0 L : Nat} {xs : Nat → Int32} {cI cS : ClassId} {x : xS} (C : lH K b0 L xs cI cS x) (hL : L ≤ 3072) (a b : Nat → Nat) (t : Nat) (ht : 6 * t + 6 ≤ L) (u : kS) (w : mS) (hI : lInv t u w) (kk : ∀ (u : kS) (w : mS), lInv (t + 1) u w → V K (lW cI cS a b (u, w)) 1534 (lLv a b b0 t) []) : V K (lW cI cS a b (u, w)) 304 (lLv a b b0 t) [] := by
  obtain ⟨h, hnL, X, hb, hA, hx⟩ := C
  obtain ⟨E, T, Kp, P, S, F⟩ := u
  obtain ⟨E', K2, Bf, As, Q⟩ := w
  obtain ⟨e, hI⟩ := hI
  have e : E = E' := e
  subst e
  obtain ⟨r, E1, Kp1, P1, S1, F1, K1, Q1, hC, hM, hI1⟩ := op_comes K.1.2.1 K.2.2.1.2.2.1 cI cS a b x hI (by omega) (xs (6 * t + 1))
  refine v_aload_n h pL_law_2 22 rfl 2 rfl rfl ?_
  refine v_aload_n h pL_law_2 23 rfl 3 rfl rfl ?_
  refine v_iload_n h pL_law_2 24 rfl 0 rfl rfl ?_
  refine v_iconst h pL_law_2 25 rfl ki_1 ?_
  refine v_iadd h pL_law_2 26 rfl ?_
  refine v_sld h pL_law_2 27 X hb hA (6 * t + 1) rfl (ix6_1 t) (by omega) hL ?_
  refine v_callV h pL_law_2 28 mL_23 (As := [.int (xs (6 * t + 1))]) (st := []) hC v0B v0C emb_lc 0 rfl rfl rfl rfl rfl rfl rfl (fun v u1 hc => ?_)
  have hv := hc.1
  subst hv
  show V K (lW cI cS a b (u1, (E, K2, Bf, As, Q))) 313 (lLv a b b0 t) [.int r]
  refine v_aload_n h pL_law_2 29 rfl 1 rfl rfl ?_
  refine v_aload_n h pL_law_2 30 rfl 3 rfl rfl ?_
  refine v_iload_n h pL_law_2 31 rfl 0 rfl rfl ?_
  refine v_iconst h pL_law_3 0 rfl ki_1 ?_
  refine v_iadd h pL_law_3 1 rfl ?_
  refine v_sld h pL_law_3 2 X hb hA (6 * t + 1) rfl (ix6_1 t) (by omega) hL ?_
  refine v_callV h pL_law_3 3 mL_27 (As := [.int (xs (6 * t + 1))]) (st := [.int r]) hM v0B v0C emb_lm 47 rfl rfl rfl rfl rfl rfl rfl (fun v w1 hm => ?_)
  have hv := hm.1
  subst hv
  show V K (lW cI cS a b (u1, w1)) 322 (lLv a b b0 t) [.int r, .int r]
  exact v_icmp_eq (tgt := 1534) h pL_law_3 4 rfl rfl (fun _ => kk _ _ (lInv_of hc hm hI1)) (fun z => absurd rfl z)
theorem lc_oyster {K : vK} {b0 L : Nat} {xs : Nat → Int32} {cI cS : ClassId} {x : xS} (C : lH K b0 L xs cI cS x) (hL : L ≤ 3072) (a b : Nat → Nat) (t : Nat) (ht : 6 * t + 6 ≤ L) (u : kS) (w : mS) (hI : lInv t u w) (kk : ∀ (u : kS) (w : mS), lInv (t + 1) u w → V K (lW cI cS a b (u, w)) 1534 (lLv a b b0 t) []) : V K (lW cI cS a b (u, w)) 327 (lLv a b b0 t) [] := by
  obtain ⟨h, hnL, X, hb, hA, hx⟩ := C
  obtain ⟨E, T, Kp, P, S, F⟩ := u
  obtain ⟨E', K2, Bf, As, Q⟩ := w
  obtain ⟨e, hI⟩ := hI
  have e : E = E' := e
  subst e
  obtain ⟨r, E1, Kp1, P1, S1, F1, K1, Q1, hC, hM, hI1⟩ := op_oyster K.1.2.1 K.2.2.1.2.2.1 cI cS a b x hI (by omega) (xs (6 * t + 1)) (xs (6 * t + 2))
  refine v_aload_n h pL_law_3 7 rfl 2 rfl rfl ?_
  refine v_aload_n h pL_law_3 8 rfl 3 rfl rfl ?_
  refine v_iload_n h pL_law_3 9 rfl 0 rfl rfl ?_
  refine v_iconst h pL_law_3 10 rfl ki_1 ?_
  refine v_iadd h pL_law_3 11 rfl ?_
  refine v_sld h pL_law_3 12 X hb hA (6 * t + 1) rfl (ix6_1 t) (by omega) hL ?_
  refine v_aload_n h pL_law_3 13 rfl 3 rfl rfl ?_
  refine v_iload_n h pL_law_3 14 rfl 0 rfl rfl ?_
  refine v_iconst h pL_law_3 15 rfl ki_2 ?_
  refine v_iadd h pL_law_3 16 rfl ?_
  refine v_sld h pL_law_3 17 X hb hA (6 * t + 2) rfl (ix6_2 t) (by omega) hL ?_
  refine v_callV h pL_law_3 18 mL_28 (As := [.int (xs (6 * t + 1)), .int (xs (6 * t + 2))]) (st := []) hC v0B v0C emb_lc 0 rfl rfl rfl rfl rfl rfl rfl (fun v u1 hc => ?_)
  have hv := hc.1
  subst hv
  show V K (lW cI cS a b (u1, (E, K2, Bf, As, Q))) 341 (lLv a b b0 t) [.int r]
  refine v_aload_n h pL_law_3 19 rfl 1 rfl rfl ?_
  refine v_aload_n h pL_law_3 20 rfl 3 rfl rfl ?_
  refine v_iload_n h pL_law_3 21 rfl 0 rfl rfl ?_
  refine v_iconst h pL_law_3 22 rfl ki_1 ?_
  refine v_iadd h pL_law_3 23 rfl ?_
  refine v_sld h pL_law_3 24 X hb hA (6 * t + 1) rfl (ix6_1 t) (by omega) hL ?_
  refine v_aload_n h pL_law_3 25 rfl 3 rfl rfl ?_
  refine v_iload_n h pL_law_3 26 rfl 0 rfl rfl ?_
  refine v_iconst h pL_law_3 27 rfl ki_2 ?_
  refine v_iadd h pL_law_3 28 rfl ?_
  refine v_sld h pL_law_3 29 X hb hA (6 * t + 2) rfl (ix6_2 t) (by omega) hL ?_
  refine v_callV h pL_law_3 30 mL_31 (As := [.int (xs (6 * t + 1)), .int (xs (6 * t + 2))]) (st := [.int r]) hM v0B v0C emb_lm 47 rfl rfl rfl rfl rfl rfl rfl (fun v w1 hm => ?_)
  have hv := hm.1
  subst hv
  show V K (lW cI cS a b (u1, w1)) 355 (lLv a b b0 t) [.int r, .int r]
  exact v_icmp_eq (tgt := 1534) h pL_law_3 31 rfl rfl (fun _ => kk _ _ (lInv_of hc hm hI1)) (fun z => absurd rfl z)
theorem lc_of {K : vK} {b0 L : Nat} {xs : Nat → Int32} {cI cS : ClassId} {x : xS} (C : lH K b0 L xs cI cS x) (hL : L ≤ 3072) (a b : Nat → Nat) (t : Nat) (ht : 6 * t + 6 ≤ L) (u : kS) (w : mS) (hI : lInv t u w) (kk : ∀ (u : kS) (w : mS), lInv (t + 1) u w → V K (lW cI cS a b (u, w)) 1534 (lLv a b b0 t) []) : V K (lW cI cS a b (u, w)) 360 (lLv a b b0 t) [] := by
  obtain ⟨h, hnL, X, hb, hA, hx⟩ := C
  obtain ⟨E, T, Kp, P, S, F⟩ := u
  obtain ⟨E', K2, Bf, As, Q⟩ := w
  obtain ⟨e, hI⟩ := hI
  have e : E = E' := e
  subst e
  obtain ⟨r, E1, Kp1, P1, S1, F1, K1, Q1, hC, hM, hI1⟩ := op_of K.1.2.1 K.2.2.1.2.2.1 cI cS a b x hI (by omega) (xs (6 * t + 1)) (xs (6 * t + 2))
  refine v_aload_n h pL_law_4 2 rfl 2 rfl rfl ?_
  refine v_aload_n h pL_law_4 3 rfl 3 rfl rfl ?_
  refine v_iload_n h pL_law_4 4 rfl 0 rfl rfl ?_
  refine v_iconst h pL_law_4 5 rfl ki_1 ?_
  refine v_iadd h pL_law_4 6 rfl ?_
  refine v_sld h pL_law_4 7 X hb hA (6 * t + 1) rfl (ix6_1 t) (by omega) hL ?_
  refine v_aload_n h pL_law_4 8 rfl 3 rfl rfl ?_
  refine v_iload_n h pL_law_4 9 rfl 0 rfl rfl ?_
  refine v_iconst h pL_law_4 10 rfl ki_2 ?_
  refine v_iadd h pL_law_4 11 rfl ?_
  refine v_sld h pL_law_4 12 X hb hA (6 * t + 2) rfl (ix6_2 t) (by omega) hL ?_
  refine v_callV h pL_law_4 13 mL_32 (As := [.int (xs (6 * t + 1)), .int (xs (6 * t + 2))]) (st := []) hC v0B v0C emb_lc 0 rfl rfl rfl rfl rfl rfl rfl (fun v u1 hc => ?_)
  have hv := hc.1
  subst hv
  show V K (lW cI cS a b (u1, (E, K2, Bf, As, Q))) 374 (lLv a b b0 t) [.int r]
  refine v_aload_n h pL_law_4 14 rfl 1 rfl rfl ?_
  refine v_aload_n h pL_law_4 15 rfl 3 rfl rfl ?_
  refine v_iload_n h pL_law_4 16 rfl 0 rfl rfl ?_
  refine v_iconst h pL_law_4 17 rfl ki_1 ?_
  refine v_iadd h pL_law_4 18 rfl ?_
  refine v_sld h pL_law_4 19 X hb hA (6 * t + 1) rfl (ix6_1 t) (by omega) hL ?_
  refine v_aload_n h pL_law_4 20 rfl 3 rfl rfl ?_
  refine v_iload_n h pL_law_4 21 rfl 0 rfl rfl ?_
  refine v_iconst h pL_law_4 22 rfl ki_2 ?_
  refine v_iadd h pL_law_4 23 rfl ?_
  refine v_sld h pL_law_4 24 X hb hA (6 * t + 2) rfl (ix6_2 t) (by omega) hL ?_
  refine v_callV h pL_law_4 25 mL_35 (As := [.int (xs (6 * t + 1)), .int (xs (6 * t + 2))]) (st := [.int r]) hM v0B v0C emb_lm 47 rfl rfl rfl rfl rfl rfl rfl (fun v w1 hm => ?_)
  have hv := hm.1
  subst hv
  show V K (lW cI cS a b (u1, w1)) 388 (lLv a b b0 t) [.int r, .int r]
  exact v_icmp_eq (tgt := 1534) h pL_law_4 26 rfl rfl (fun _ => kk _ _ (lInv_of hc hm hI1)) (fun z => absurd rfl z)
theorem lc_change {K : vK} {b0 L : Nat} {xs : Nat → Int32} {cI cS : ClassId} {x : xS} (C : lH K b0 L xs cI cS x) (hL : L ≤ 3072) (a b : Nat → Nat) (t : Nat) (ht : 6 * t + 6 ≤ L) (u : kS) (w : mS) (hI : lInv t u w) (kk : ∀ (u : kS) (w : mS), lInv (t + 1) u w → V K (lW cI cS a b (u, w)) 1534 (lLv a b b0 t) []) : V K (lW cI cS a b (u, w)) 393 (lLv a b b0 t) [] := by
  obtain ⟨h, hnL, X, hb, hA, hx⟩ := C
  obtain ⟨E, T, Kp, P, S, F⟩ := u
  obtain ⟨E', K2, Bf, As, Q⟩ := w
  obtain ⟨e, hI⟩ := hI
  have e : E = E' := e
  subst e
  obtain ⟨r, E1, Kp1, P1, S1, F1, K1, Q1, hC, hM, hI1⟩ := op_change K.1.2.1 K.2.2.1.2.2.1 cI cS a b x hI (by omega) (xs (6 * t + 1)) (xs (6 * t + 2)) (xs (6 * t + 3))
  refine v_aload_n h pL_law_4 29 rfl 2 rfl rfl ?_
  refine v_aload_n h pL_law_4 30 rfl 3 rfl rfl ?_
  refine v_iload_n h pL_law_4 31 rfl 0 rfl rfl ?_
  refine v_iconst h pL_law_5 0 rfl ki_1 ?_
  refine v_iadd h pL_law_5 1 rfl ?_
  refine v_sld h pL_law_5 2 X hb hA (6 * t + 1) rfl (ix6_1 t) (by omega) hL ?_
  refine v_aload_n h pL_law_5 3 rfl 3 rfl rfl ?_
  refine v_iload_n h pL_law_5 4 rfl 0 rfl rfl ?_
  refine v_iconst h pL_law_5 5 rfl ki_2 ?_
  refine v_iadd h pL_law_5 6 rfl ?_
  refine v_sld h pL_law_5 7 X hb hA (6 * t + 2) rfl (ix6_2 t) (by omega) hL ?_
  refine v_aload_n h pL_law_5 8 rfl 3 rfl rfl ?_
  refine v_iload_n h pL_law_5 9 rfl 0 rfl rfl ?_
  refine v_iconst h pL_law_5 10 rfl ki_3 ?_
  refine v_iadd h pL_law_5 11 rfl ?_
  refine v_sld h pL_law_5 12 X hb hA (6 * t + 3) rfl (ix6_3 t) (by omega) hL ?_
  refine v_callV h pL_law_5 13 mL_36 (As := [.int (xs (6 * t + 1)), .int (xs (6 * t + 2)), .int (xs (6 * t + 3))]) (st := []) hC (exA_B x) (exA_C hx) emb_lc 0 rfl rfl rfl rfl rfl rfl rfl (fun v u1 hc => ?_)
  have hv := hc.1
  subst hv
  show V K (lW cI cS a b (u1, (E, K2, Bf, As, Q))) 412 (lLv a b b0 t) [.int r]
  refine v_aload_n h pL_law_5 14 rfl 1 rfl rfl ?_
  refine v_aload_n h pL_law_5 15 rfl 3 rfl rfl ?_
  refine v_iload_n h pL_law_5 16 rfl 0 rfl rfl ?_
  refine v_iconst h pL_law_5 17 rfl ki_1 ?_
  refine v_iadd h pL_law_5 18 rfl ?_
  refine v_sld h pL_law_5 19 X hb hA (6 * t + 1) rfl (ix6_1 t) (by omega) hL ?_
  refine v_aload_n h pL_law_5 20 rfl 3 rfl rfl ?_
  refine v_iload_n h pL_law_5 21 rfl 0 rfl rfl ?_
  refine v_iconst h pL_law_5 22 rfl ki_2 ?_
  refine v_iadd h pL_law_5 23 rfl ?_
  refine v_sld h pL_law_5 24 X hb hA (6 * t + 2) rfl (ix6_2 t) (by omega) hL ?_
  refine v_aload_n h pL_law_5 25 rfl 3 rfl rfl ?_
  refine v_iload_n h pL_law_5 26 rfl 0 rfl rfl ?_
  refine v_iconst h pL_law_5 27 rfl ki_3 ?_
  refine v_iadd h pL_law_5 28 rfl ?_
  refine v_sld h pL_law_5 29 X hb hA (6 * t + 3) rfl (ix6_3 t) (by omega) hL ?_
  refine v_callV h pL_law_5 30 mL_39 (As := [.int (xs (6 * t + 1)), .int (xs (6 * t + 2)), .int (xs (6 * t + 3))]) (st := [.int r]) hM v0B v0C emb_lm 47 rfl rfl rfl rfl rfl rfl rfl (fun v w1 hm => ?_)
  have hv := hm.1
  subst hv
  show V K (lW cI cS a b (u1, w1)) 431 (lLv a b b0 t) [.int r, .int r]
  exact v_icmp_eq (tgt := 1534) h pL_law_5 31 rfl rfl (fun _ => kk _ _ (lInv_of hc hm hI1)) (fun z => absurd rfl z)
theorem lc_open {K : vK} {b0 L : Nat} {xs : Nat → Int32} {cI cS : ClassId} {x : xS} (C : lH K b0 L xs cI cS x) (hL : L ≤ 3072) (a b : Nat → Nat) (t : Nat) (ht : 6 * t + 6 ≤ L) (u : kS) (w : mS) (hI : lInv t u w) (kk : ∀ (u : kS) (w : mS), lInv (t + 1) u w → V K (lW cI cS a b (u, w)) 1534 (lLv a b b0 t) []) : V K (lW cI cS a b (u, w)) 436 (lLv a b b0 t) [] := by
  obtain ⟨h, hnL, X, hb, hA, hx⟩ := C
  obtain ⟨E, T, Kp, P, S, F⟩ := u
  obtain ⟨E', K2, Bf, As, Q⟩ := w
  obtain ⟨e, hI⟩ := hI
  have e : E = E' := e
  subst e
  obtain ⟨r, E1, Kp1, P1, S1, F1, K1, Q1, hC, hM, hI1⟩ := op_open K.1.2.1 K.2.2.1.2.2.1 cI cS a b x hI (by omega) (xs (6 * t + 1))
  refine v_aload_n h pL_law_6 2 rfl 2 rfl rfl ?_
  refine v_aload_n h pL_law_6 3 rfl 3 rfl rfl ?_
  refine v_iload_n h pL_law_6 4 rfl 0 rfl rfl ?_
  refine v_iconst h pL_law_6 5 rfl ki_1 ?_
  refine v_iadd h pL_law_6 6 rfl ?_
  refine v_sld h pL_law_6 7 X hb hA (6 * t + 1) rfl (ix6_1 t) (by omega) hL ?_
  refine v_callV h pL_law_6 8 mL_40 (As := [.int (xs (6 * t + 1))]) (st := []) hC v0B v0C emb_lc 0 rfl rfl rfl rfl rfl rfl rfl (fun v u1 hc => ?_)
  have hv := hc.1
  subst hv
  show V K (lW cI cS a b (u1, (E, K2, Bf, As, Q))) 445 (lLv a b b0 t) [.int r]
  refine v_aload_n h pL_law_6 9 rfl 1 rfl rfl ?_
  refine v_aload_n h pL_law_6 10 rfl 3 rfl rfl ?_
  refine v_iload_n h pL_law_6 11 rfl 0 rfl rfl ?_
  refine v_iconst h pL_law_6 12 rfl ki_1 ?_
  refine v_iadd h pL_law_6 13 rfl ?_
  refine v_sld h pL_law_6 14 X hb hA (6 * t + 1) rfl (ix6_1 t) (by omega) hL ?_
  refine v_callV h pL_law_6 15 mL_43 (As := [.int (xs (6 * t + 1))]) (st := [.int r]) hM v0B v0C emb_lm 47 rfl rfl rfl rfl rfl rfl rfl (fun v w1 hm => ?_)
  have hv := hm.1
  subst hv
  show V K (lW cI cS a b (u1, w1)) 454 (lLv a b b0 t) [.int r, .int r]
  exact v_icmp_eq (tgt := 1534) h pL_law_6 16 rfl rfl (fun _ => kk _ _ (lInv_of hc hm hI1)) (fun z => absurd rfl z)
theorem lc_go {K : vK} {b0 L : Nat} {xs : Nat → Int32} {cI cS : ClassId} {x : xS} (C : lH K b0 L xs cI cS x) (hL : L ≤ 3072) (a b : Nat → Nat) (t : Nat) (ht : 6 * t + 6 ≤ L) (u : kS) (w : mS) (hI : lInv t u w) (kk : ∀ (u : kS) (w : mS), lInv (t + 1) u w → V K (lW cI cS a b (u, w)) 1534 (lLv a b b0 t) []) : V K (lW cI cS a b (u, w)) 459 (lLv a b b0 t) [] := by
  obtain ⟨h, hnL, X, hb, hA, hx⟩ := C
  obtain ⟨E, T, Kp, P, S, F⟩ := u
  obtain ⟨E', K2, Bf, As, Q⟩ := w
  obtain ⟨e, hI⟩ := hI
  have e : E = E' := e
  subst e
  obtain ⟨r, E1, Kp1, P1, S1, F1, K1, Q1, hC, hM, hI1⟩ := op_go K.1.2.1 K.2.2.1.2.2.1 cI cS a b x hI (by omega) (xs (6 * t + 1))
  refine v_aload_n h pL_law_6 19 rfl 2 rfl rfl ?_
  refine v_aload_n h pL_law_6 20 rfl 3 rfl rfl ?_
  refine v_iload_n h pL_law_6 21 rfl 0 rfl rfl ?_
  refine v_iconst h pL_law_6 22 rfl ki_1 ?_
  refine v_iadd h pL_law_6 23 rfl ?_
  refine v_sld h pL_law_6 24 X hb hA (6 * t + 1) rfl (ix6_1 t) (by omega) hL ?_
  refine v_callV h pL_law_6 25 mL_44 (As := [.int (xs (6 * t + 1))]) (st := []) hC v0B v0C emb_lc 0 rfl rfl rfl rfl rfl rfl rfl (fun v u1 hc => ?_)
  have hv := hc.1
  subst hv
  show V K (lW cI cS a b (u1, (E, K2, Bf, As, Q))) 468 (lLv a b b0 t) [.int r]
  refine v_aload_n h pL_law_6 26 rfl 1 rfl rfl ?_
  refine v_aload_n h pL_law_6 27 rfl 3 rfl rfl ?_
  refine v_iload_n h pL_law_6 28 rfl 0 rfl rfl ?_
  refine v_iconst h pL_law_6 29 rfl ki_1 ?_
  refine v_iadd h pL_law_6 30 rfl ?_
  refine v_sld h pL_law_6 31 X hb hA (6 * t + 1) rfl (ix6_1 t) (by omega) hL ?_
  refine v_callV h pL_law_7 0 mL_47 (As := [.int (xs (6 * t + 1))]) (st := [.int r]) hM v0B v0C emb_lm 47 rfl rfl rfl rfl rfl rfl rfl (fun v w1 hm => ?_)
  have hv := hm.1
  subst hv
  show V K (lW cI cS a b (u1, w1)) 477 (lLv a b b0 t) [.int r, .int r]
  exact v_icmp_eq (tgt := 1534) h pL_law_7 1 rfl rfl (fun _ => kk _ _ (lInv_of hc hm hI1)) (fun z => absurd rfl z)
theorem lc_now {K : vK} {b0 L : Nat} {xs : Nat → Int32} {cI cS : ClassId} {x : xS} (C : lH K b0 L xs cI cS x) (hL : L ≤ 3072) (a b : Nat → Nat) (t : Nat) (ht : 6 * t + 6 ≤ L) (u : kS) (w : mS) (hI : lInv t u w) (kk : ∀ (u : kS) (w : mS), lInv (t + 1) u w → V K (lW cI cS a b (u, w)) 1534 (lLv a b b0 t) []) : V K (lW cI cS a b (u, w)) 482 (lLv a b b0 t) [] := by
  obtain ⟨h, hnL, X, hb, hA, hx⟩ := C
  obtain ⟨E, T, Kp, P, S, F⟩ := u
  obtain ⟨E', K2, Bf, As, Q⟩ := w
  obtain ⟨e, hI⟩ := hI
  have e : E = E' := e
  subst e
  obtain ⟨r, E1, Kp1, P1, S1, F1, K1, Q1, hC, hM, hI1⟩ := op_now K.1.2.1 K.2.2.1.2.2.1 cI cS a b x hI (by omega) (xs (6 * t + 1))
  refine v_aload_n h pL_law_7 4 rfl 2 rfl rfl ?_
  refine v_aload_n h pL_law_7 5 rfl 3 rfl rfl ?_
  refine v_iload_n h pL_law_7 6 rfl 0 rfl rfl ?_
  refine v_iconst h pL_law_7 7 rfl ki_1 ?_
  refine v_iadd h pL_law_7 8 rfl ?_
  refine v_sld h pL_law_7 9 X hb hA (6 * t + 1) rfl (ix6_1 t) (by omega) hL ?_
  refine v_callV h pL_law_7 10 mL_48 (As := [.int (xs (6 * t + 1))]) (st := []) hC v0B v0C emb_lc 0 rfl rfl rfl rfl rfl rfl rfl (fun v u1 hc => ?_)
  have hv := hc.1
  subst hv
  show V K (lW cI cS a b (u1, (E, K2, Bf, As, Q))) 491 (lLv a b b0 t) [.int r]
  refine v_aload_n h pL_law_7 11 rfl 1 rfl rfl ?_
  refine v_aload_n h pL_law_7 12 rfl 3 rfl rfl ?_
  refine v_iload_n h pL_law_7 13 rfl 0 rfl rfl ?_
  refine v_iconst h pL_law_7 14 rfl ki_1 ?_
  refine v_iadd h pL_law_7 15 rfl ?_
  refine v_sld h pL_law_7 16 X hb hA (6 * t + 1) rfl (ix6_1 t) (by omega) hL ?_
  refine v_callV h pL_law_7 17 mL_51 (As := [.int (xs (6 * t + 1))]) (st := [.int r]) hM v0B v0C emb_lm 47 rfl rfl rfl rfl rfl rfl rfl (fun v w1 hm => ?_)
  have hv := hm.1
  subst hv
  show V K (lW cI cS a b (u1, w1)) 500 (lLv a b b0 t) [.int r, .int r]
  exact v_icmp_eq (tgt := 1534) h pL_law_7 18 rfl rfl (fun _ => kk _ _ (lInv_of hc hm hI1)) (fun z => absurd rfl z)
theorem lc_ahead {K : vK} {b0 L : Nat} {xs : Nat → Int32} {cI cS : ClassId} {x : xS} (C : lH K b0 L xs cI cS x) (hL : L ≤ 3072) (a b : Nat → Nat) (t : Nat) (ht : 6 * t + 6 ≤ L) (u : kS) (w : mS) (hI : lInv t u w) (kk : ∀ (u : kS) (w : mS), lInv (t + 1) u w → V K (lW cI cS a b (u, w)) 1534 (lLv a b b0 t) []) : V K (lW cI cS a b (u, w)) 505 (lLv a b b0 t) [] := by
  obtain ⟨h, hnL, X, hb, hA, hx⟩ := C
  obtain ⟨E, T, Kp, P, S, F⟩ := u
  obtain ⟨E', K2, Bf, As, Q⟩ := w
  obtain ⟨e, hI⟩ := hI
  have e : E = E' := e
  subst e
  obtain ⟨r, E1, Kp1, P1, S1, F1, K1, Q1, hC, hM, hI1⟩ := op_ahead K.1.2.1 K.2.2.1.2.2.1 cI cS a b x hI (by omega) (xs (6 * t + 1)) (xs (6 * t + 2)) (xs (6 * t + 3))
  refine v_aload_n h pL_law_7 21 rfl 2 rfl rfl ?_
  refine v_aload_n h pL_law_7 22 rfl 3 rfl rfl ?_
  refine v_iload_n h pL_law_7 23 rfl 0 rfl rfl ?_
  refine v_iconst h pL_law_7 24 rfl ki_1 ?_
  refine v_iadd h pL_law_7 25 rfl ?_
  refine v_sld h pL_law_7 26 X hb hA (6 * t + 1) rfl (ix6_1 t) (by omega) hL ?_
  refine v_aload_n h pL_law_7 27 rfl 3 rfl rfl ?_
  refine v_iload_n h pL_law_7 28 rfl 0 rfl rfl ?_
  refine v_iconst h pL_law_7 29 rfl ki_2 ?_
  refine v_iadd h pL_law_7 30 rfl ?_
  refine v_sld h pL_law_7 31 X hb hA (6 * t + 2) rfl (ix6_2 t) (by omega) hL ?_
  refine v_aload_n h pL_law_8 0 rfl 3 rfl rfl ?_
  refine v_iload_n h pL_law_8 1 rfl 0 rfl rfl ?_
  refine v_iconst h pL_law_8 2 rfl ki_3 ?_
  refine v_iadd h pL_law_8 3 rfl ?_
  refine v_sld h pL_law_8 4 X hb hA (6 * t + 3) rfl (ix6_3 t) (by omega) hL ?_
  refine v_callV h pL_law_8 5 mL_52 (As := [.int (xs (6 * t + 1)), .int (xs (6 * t + 2)), .int (xs (6 * t + 3))]) (st := []) hC v0B v0C emb_lc 0 rfl rfl rfl rfl rfl rfl rfl (fun v u1 hc => ?_)
  have hv := hc.1
  subst hv
  show V K (lW cI cS a b (u1, (E, K2, Bf, As, Q))) 524 (lLv a b b0 t) [.int r]
  refine v_aload_n h pL_law_8 6 rfl 1 rfl rfl ?_
  refine v_aload_n h pL_law_8 7 rfl 3 rfl rfl ?_
  refine v_iload_n h pL_law_8 8 rfl 0 rfl rfl ?_
  refine v_iconst h pL_law_8 9 rfl ki_1 ?_
  refine v_iadd h pL_law_8 10 rfl ?_
  refine v_sld h pL_law_8 11 X hb hA (6 * t + 1) rfl (ix6_1 t) (by omega) hL ?_
  refine v_aload_n h pL_law_8 12 rfl 3 rfl rfl ?_
  refine v_iload_n h pL_law_8 13 rfl 0 rfl rfl ?_
  refine v_iconst h pL_law_8 14 rfl ki_2 ?_
  refine v_iadd h pL_law_8 15 rfl ?_
  refine v_sld h pL_law_8 16 X hb hA (6 * t + 2) rfl (ix6_2 t) (by omega) hL ?_
  refine v_aload_n h pL_law_8 17 rfl 3 rfl rfl ?_
  refine v_iload_n h pL_law_8 18 rfl 0 rfl rfl ?_
  refine v_iconst h pL_law_8 19 rfl ki_3 ?_
  refine v_iadd h pL_law_8 20 rfl ?_
  refine v_sld h pL_law_8 21 X hb hA (6 * t + 3) rfl (ix6_3 t) (by omega) hL ?_
  refine v_callV h pL_law_8 22 mL_55 (As := [.int (xs (6 * t + 1)), .int (xs (6 * t + 2)), .int (xs (6 * t + 3))]) (st := [.int r]) hM v0B v0C emb_lm 47 rfl rfl rfl rfl rfl rfl rfl (fun v w1 hm => ?_)
  have hv := hm.1
  subst hv
  show V K (lW cI cS a b (u1, w1)) 543 (lLv a b b0 t) [.int r, .int r]
  exact v_icmp_eq (tgt := 1534) h pL_law_8 23 rfl rfl (fun _ => kk _ _ (lInv_of hc hm hI1)) (fun z => absurd rfl z)
theorem lc_worth {K : vK} {b0 L : Nat} {xs : Nat → Int32} {cI cS : ClassId} {x : xS} (C : lH K b0 L xs cI cS x) (hL : L ≤ 3072) (a b : Nat → Nat) (t : Nat) (ht : 6 * t + 6 ≤ L) (u : kS) (w : mS) (hI : lInv t u w) (kk : ∀ (u : kS) (w : mS), lInv (t + 1) u w → V K (lW cI cS a b (u, w)) 1534 (lLv a b b0 t) []) : V K (lW cI cS a b (u, w)) 548 (lLv a b b0 t) [] := by
  obtain ⟨h, hnL, X, hb, hA, hx⟩ := C
  obtain ⟨E, T, Kp, P, S, F⟩ := u
  obtain ⟨E', K2, Bf, As, Q⟩ := w
  obtain ⟨e, hI⟩ := hI
  have e : E = E' := e
  subst e
  obtain ⟨r, E1, Kp1, P1, S1, F1, K1, Q1, hC, hM, hI1⟩ := op_worth K.1.2.1 K.2.2.1.2.2.1 cI cS a b x hI (by omega) (xs (6 * t + 1)) (xs (6 * t + 2))
  refine v_aload_n h pL_law_8 26 rfl 2 rfl rfl ?_
  refine v_aload_n h pL_law_8 27 rfl 3 rfl rfl ?_
  refine v_iload_n h pL_law_8 28 rfl 0 rfl rfl ?_
  refine v_iconst h pL_law_8 29 rfl ki_1 ?_
  refine v_iadd h pL_law_8 30 rfl ?_
  refine v_sld h pL_law_8 31 X hb hA (6 * t + 1) rfl (ix6_1 t) (by omega) hL ?_
  refine v_aload_n h pL_law_9 0 rfl 3 rfl rfl ?_
  refine v_iload_n h pL_law_9 1 rfl 0 rfl rfl ?_
  refine v_iconst h pL_law_9 2 rfl ki_2 ?_
  refine v_iadd h pL_law_9 3 rfl ?_
  refine v_sld h pL_law_9 4 X hb hA (6 * t + 2) rfl (ix6_2 t) (by omega) hL ?_
  refine v_callV h pL_law_9 5 mL_56 (As := [.int (xs (6 * t + 1)), .int (xs (6 * t + 2))]) (st := []) hC v0B v0C emb_lc 0 rfl rfl rfl rfl rfl rfl rfl (fun v u1 hc => ?_)
  have hv := hc.1
  subst hv
  show V K (lW cI cS a b (u1, (E, K2, Bf, As, Q))) 562 (lLv a b b0 t) [.int r]
  refine v_aload_n h pL_law_9 6 rfl 1 rfl rfl ?_
  refine v_aload_n h pL_law_9 7 rfl 3 rfl rfl ?_
  refine v_iload_n h pL_law_9 8 rfl 0 rfl rfl ?_
  refine v_iconst h pL_law_9 9 rfl ki_1 ?_
  refine v_iadd h pL_law_9 10 rfl ?_
  refine v_sld h pL_law_9 11 X hb hA (6 * t + 1) rfl (ix6_1 t) (by omega) hL ?_
  refine v_aload_n h pL_law_9 12 rfl 3 rfl rfl ?_
  refine v_iload_n h pL_law_9 13 rfl 0 rfl rfl ?_
  refine v_iconst h pL_law_9 14 rfl ki_2 ?_
  refine v_iadd h pL_law_9 15 rfl ?_
  refine v_sld h pL_law_9 16 X hb hA (6 * t + 2) rfl (ix6_2 t) (by omega) hL ?_
  refine v_callV h pL_law_9 17 mL_59 (As := [.int (xs (6 * t + 1)), .int (xs (6 * t + 2))]) (st := [.int r]) hM v0B v0C emb_lm 47 rfl rfl rfl rfl rfl rfl rfl (fun v w1 hm => ?_)
  have hv := hm.1
  subst hv
  show V K (lW cI cS a b (u1, w1)) 576 (lLv a b b0 t) [.int r, .int r]
  exact v_icmp_eq (tgt := 1534) h pL_law_9 18 rfl rfl (fun _ => kk _ _ (lInv_of hc hm hI1)) (fun z => absurd rfl z)
theorem lc_hidden {K : vK} {b0 L : Nat} {xs : Nat → Int32} {cI cS : ClassId} {x : xS} (C : lH K b0 L xs cI cS x) (hL : L ≤ 3072) (a b : Nat → Nat) (t : Nat) (ht : 6 * t + 6 ≤ L) (u : kS) (w : mS) (hI : lInv t u w) (kk : ∀ (u : kS) (w : mS), lInv (t + 1) u w → V K (lW cI cS a b (u, w)) 1534 (lLv a b b0 t) []) : V K (lW cI cS a b (u, w)) 581 (lLv a b b0 t) [] := by
  obtain ⟨h, hnL, X, hb, hA, hx⟩ := C
  obtain ⟨E, T, Kp, P, S, F⟩ := u
  obtain ⟨E', K2, Bf, As, Q⟩ := w
  obtain ⟨e, hI⟩ := hI
  have e : E = E' := e
  subst e
  obtain ⟨r, E1, Kp1, P1, S1, F1, K1, Q1, hC, hM, hI1⟩ := op_hidden K.1.2.1 K.2.2.1.2.2.1 cI cS a b x hI (by omega) (xs (6 * t + 1))
  refine v_aload_n h pL_law_9 21 rfl 2 rfl rfl ?_
  refine v_aload_n h pL_law_9 22 rfl 3 rfl rfl ?_
  refine v_iload_n h pL_law_9 23 rfl 0 rfl rfl ?_
  refine v_iconst h pL_law_9 24 rfl ki_1 ?_
  refine v_iadd h pL_law_9 25 rfl ?_
  refine v_sld h pL_law_9 26 X hb hA (6 * t + 1) rfl (ix6_1 t) (by omega) hL ?_
  refine v_callV h pL_law_9 27 mL_60 (As := [.int (xs (6 * t + 1))]) (st := []) hC v0B v0C emb_lc 0 rfl rfl rfl rfl rfl rfl rfl (fun v u1 hc => ?_)
  have hv := hc.1
  subst hv
  show V K (lW cI cS a b (u1, (E, K2, Bf, As, Q))) 590 (lLv a b b0 t) [.int r]
  refine v_aload_n h pL_law_9 28 rfl 1 rfl rfl ?_
  refine v_aload_n h pL_law_9 29 rfl 3 rfl rfl ?_
  refine v_iload_n h pL_law_9 30 rfl 0 rfl rfl ?_
  refine v_iconst h pL_law_9 31 rfl ki_1 ?_
  refine v_iadd h pL_law_10 0 rfl ?_
  refine v_sld h pL_law_10 1 X hb hA (6 * t + 1) rfl (ix6_1 t) (by omega) hL ?_
  refine v_callV h pL_law_10 2 mL_63 (As := [.int (xs (6 * t + 1))]) (st := [.int r]) hM v0B v0C emb_lm 47 rfl rfl rfl rfl rfl rfl rfl (fun v w1 hm => ?_)
  have hv := hm.1
  subst hv
  show V K (lW cI cS a b (u1, w1)) 599 (lLv a b b0 t) [.int r, .int r]
  exact v_icmp_eq (tgt := 1534) h pL_law_10 3 rfl rfl (fun _ => kk _ _ (lInv_of hc hm hI1)) (fun z => absurd rfl z)
theorem lc_told {K : vK} {b0 L : Nat} {xs : Nat → Int32} {cI cS : ClassId} {x : xS} (C : lH K b0 L xs cI cS x) (hL : L ≤ 3072) (a b : Nat → Nat) (t : Nat) (ht : 6 * t + 6 ≤ L) (u : kS) (w : mS) (hI : lInv t u w) (kk : ∀ (u : kS) (w : mS), lInv (t + 1) u w → V K (lW cI cS a b (u, w)) 1534 (lLv a b b0 t) []) : V K (lW cI cS a b (u, w)) 604 (lLv a b b0 t) [] := by
  obtain ⟨h, hnL, X, hb, hA, hx⟩ := C
  obtain ⟨E, T, Kp, P, S, F⟩ := u
  obtain ⟨E', K2, Bf, As, Q⟩ := w
  obtain ⟨e, hI⟩ := hI
  have e : E = E' := e
  subst e
  obtain ⟨r, E1, Kp1, P1, S1, F1, K1, Q1, hC, hM, hI1⟩ := op_told K.1.2.1 K.2.2.1.2.2.1 cI cS a b x hI (by omega) (xs (6 * t + 1))
  refine v_aload_n h pL_law_10 6 rfl 2 rfl rfl ?_
  refine v_aload_n h pL_law_10 7 rfl 3 rfl rfl ?_
  refine v_iload_n h pL_law_10 8 rfl 0 rfl rfl ?_
  refine v_iconst h pL_law_10 9 rfl ki_1 ?_
  refine v_iadd h pL_law_10 10 rfl ?_
  refine v_sld h pL_law_10 11 X hb hA (6 * t + 1) rfl (ix6_1 t) (by omega) hL ?_
  refine v_callV h pL_law_10 12 mL_64 (As := [.int (xs (6 * t + 1))]) (st := []) hC v0B v0C emb_lc 0 rfl rfl rfl rfl rfl rfl rfl (fun v u1 hc => ?_)
  have hv := hc.1
  subst hv
  show V K (lW cI cS a b (u1, (E, K2, Bf, As, Q))) 613 (lLv a b b0 t) [.int r]
  refine v_aload_n h pL_law_10 13 rfl 1 rfl rfl ?_
  refine v_aload_n h pL_law_10 14 rfl 3 rfl rfl ?_
  refine v_iload_n h pL_law_10 15 rfl 0 rfl rfl ?_
  refine v_iconst h pL_law_10 16 rfl ki_1 ?_
  refine v_iadd h pL_law_10 17 rfl ?_
  refine v_sld h pL_law_10 18 X hb hA (6 * t + 1) rfl (ix6_1 t) (by omega) hL ?_
  refine v_callV h pL_law_10 19 mL_67 (As := [.int (xs (6 * t + 1))]) (st := [.int r]) hM v0B v0C emb_lm 47 rfl rfl rfl rfl rfl rfl rfl (fun v w1 hm => ?_)
  have hv := hm.1
  subst hv
  show V K (lW cI cS a b (u1, w1)) 622 (lLv a b b0 t) [.int r, .int r]
  exact v_icmp_eq (tgt := 1534) h pL_law_10 20 rfl rfl (fun _ => kk _ _ (lInv_of hc hm hI1)) (fun z => absurd rfl z)
theorem lc_dive {K : vK} {b0 L : Nat} {xs : Nat → Int32} {cI cS : ClassId} {x : xS} (C : lH K b0 L xs cI cS x) (hL : L ≤ 3072) (a b : Nat → Nat) (t : Nat) (ht : 6 * t + 6 ≤ L) (u : kS) (w : mS) (hI : lInv t u w) (kk : ∀ (u : kS) (w : mS), lInv (t + 1) u w → V K (lW cI cS a b (u, w)) 1534 (lLv a b b0 t) []) : V K (lW cI cS a b (u, w)) 627 (lLv a b b0 t) [] := by
  obtain ⟨h, hnL, X, hb, hA, hx⟩ := C
  obtain ⟨E, T, Kp, P, S, F⟩ := u
  obtain ⟨E', K2, Bf, As, Q⟩ := w
  obtain ⟨e, hI⟩ := hI
  have e : E = E' := e
  subst e
  obtain ⟨r, E1, Kp1, P1, S1, F1, K1, Q1, hC, hM, hI1⟩ := op_dive K.1.2.1 K.2.2.1.2.2.1 cI cS a b x hI (by omega) (xs (6 * t + 1))
  refine v_aload_n h pL_law_10 23 rfl 2 rfl rfl ?_
  refine v_aload_n h pL_law_10 24 rfl 3 rfl rfl ?_
  refine v_iload_n h pL_law_10 25 rfl 0 rfl rfl ?_
  refine v_iconst h pL_law_10 26 rfl ki_1 ?_
  refine v_iadd h pL_law_10 27 rfl ?_
  refine v_sld h pL_law_10 28 X hb hA (6 * t + 1) rfl (ix6_1 t) (by omega) hL ?_
  refine v_callV h pL_law_10 29 mL_68 (As := [.int (xs (6 * t + 1))]) (st := []) hC v0B v0C emb_lc 0 rfl rfl rfl rfl rfl rfl rfl (fun v u1 hc => ?_)
  have hv := hc.1
  subst hv
  show V K (lW cI cS a b (u1, (E, K2, Bf, As, Q))) 636 (lLv a b b0 t) [.int r]
  refine v_aload_n h pL_law_10 30 rfl 1 rfl rfl ?_
  refine v_aload_n h pL_law_10 31 rfl 3 rfl rfl ?_
  refine v_iload_n h pL_law_11 0 rfl 0 rfl rfl ?_
  refine v_iconst h pL_law_11 1 rfl ki_1 ?_
  refine v_iadd h pL_law_11 2 rfl ?_
  refine v_sld h pL_law_11 3 X hb hA (6 * t + 1) rfl (ix6_1 t) (by omega) hL ?_
  refine v_callV h pL_law_11 4 mL_71 (As := [.int (xs (6 * t + 1))]) (st := [.int r]) hM v0B v0C emb_lm 47 rfl rfl rfl rfl rfl rfl rfl (fun v w1 hm => ?_)
  have hv := hm.1
  subst hv
  show V K (lW cI cS a b (u1, w1)) 645 (lLv a b b0 t) [.int r, .int r]
  exact v_icmp_eq (tgt := 1534) h pL_law_11 5 rfl rfl (fun _ => kk _ _ (lInv_of hc hm hI1)) (fun z => absurd rfl z)
theorem lc_sow {K : vK} {b0 L : Nat} {xs : Nat → Int32} {cI cS : ClassId} {x : xS} (C : lH K b0 L xs cI cS x) (hL : L ≤ 3072) (a b : Nat → Nat) (t : Nat) (ht : 6 * t + 6 ≤ L) (u : kS) (w : mS) (hI : lInv t u w) (kk : ∀ (u : kS) (w : mS), lInv (t + 1) u w → V K (lW cI cS a b (u, w)) 1534 (lLv a b b0 t) []) : V K (lW cI cS a b (u, w)) 650 (lLv a b b0 t) [] := by
  obtain ⟨h, hnL, X, hb, hA, hx⟩ := C
  obtain ⟨E, T, Kp, P, S, F⟩ := u
  obtain ⟨E', K2, Bf, As, Q⟩ := w
  obtain ⟨e, hI⟩ := hI
  have e : E = E' := e
  subst e
  obtain ⟨r, E1, Kp1, P1, S1, F1, K1, Q1, hC, hM, hI1⟩ := op_sow K.1.2.1 K.2.2.1.2.2.1 cI cS a b x hI (by omega) (xs (6 * t + 1)) (xs (6 * t + 2))
  refine v_aload_n h pL_law_11 8 rfl 2 rfl rfl ?_
  refine v_aload_n h pL_law_11 9 rfl 3 rfl rfl ?_
  refine v_iload_n h pL_law_11 10 rfl 0 rfl rfl ?_
  refine v_iconst h pL_law_11 11 rfl ki_1 ?_
  refine v_iadd h pL_law_11 12 rfl ?_
  refine v_sld h pL_law_11 13 X hb hA (6 * t + 1) rfl (ix6_1 t) (by omega) hL ?_
  refine v_aload_n h pL_law_11 14 rfl 3 rfl rfl ?_
  refine v_iload_n h pL_law_11 15 rfl 0 rfl rfl ?_
  refine v_iconst h pL_law_11 16 rfl ki_2 ?_
  refine v_iadd h pL_law_11 17 rfl ?_
  refine v_sld h pL_law_11 18 X hb hA (6 * t + 2) rfl (ix6_2 t) (by omega) hL ?_
  refine v_callV h pL_law_11 19 mL_72 (As := [.int (xs (6 * t + 1)), .int (xs (6 * t + 2))]) (st := []) hC v0B v0C emb_lc 0 rfl rfl rfl rfl rfl rfl rfl (fun v u1 hc => ?_)
  have hv := hc.1
  subst hv
  show V K (lW cI cS a b (u1, (E, K2, Bf, As, Q))) 664 (lLv a b b0 t) [.int r]
  refine v_aload_n h pL_law_11 20 rfl 1 rfl rfl ?_
  refine v_aload_n h pL_law_11 21 rfl 3 rfl rfl ?_
  refine v_iload_n h pL_law_11 22 rfl 0 rfl rfl ?_
  refine v_iconst h pL_law_11 23 rfl ki_1 ?_
  refine v_iadd h pL_law_11 24 rfl ?_
  refine v_sld h pL_law_11 25 X hb hA (6 * t + 1) rfl (ix6_1 t) (by omega) hL ?_
  refine v_aload_n h pL_law_11 26 rfl 3 rfl rfl ?_
  refine v_iload_n h pL_law_11 27 rfl 0 rfl rfl ?_
  refine v_iconst h pL_law_11 28 rfl ki_2 ?_
  refine v_iadd h pL_law_11 29 rfl ?_
  refine v_sld h pL_law_11 30 X hb hA (6 * t + 2) rfl (ix6_2 t) (by omega) hL ?_
  refine v_callV h pL_law_11 31 mL_75 (As := [.int (xs (6 * t + 1)), .int (xs (6 * t + 2))]) (st := [.int r]) hM v0B v0C emb_lm 47 rfl rfl rfl rfl rfl rfl rfl (fun v w1 hm => ?_)
  have hv := hm.1
  subst hv
  show V K (lW cI cS a b (u1, w1)) 678 (lLv a b b0 t) [.int r, .int r]
  exact v_icmp_eq (tgt := 1534) h pL_law_12 0 rfl rfl (fun _ => kk _ _ (lInv_of hc hm hI1)) (fun z => absurd rfl z)
theorem lc_kindFor {K : vK} {b0 L : Nat} {xs : Nat → Int32} {cI cS : ClassId} {x : xS} (C : lH K b0 L xs cI cS x) (hL : L ≤ 3072) (a b : Nat → Nat) (t : Nat) (ht : 6 * t + 6 ≤ L) (u : kS) (w : mS) (hI : lInv t u w) (kk : ∀ (u : kS) (w : mS), lInv (t + 1) u w → V K (lW cI cS a b (u, w)) 1534 (lLv a b b0 t) []) : V K (lW cI cS a b (u, w)) 683 (lLv a b b0 t) [] := by
  obtain ⟨h, hnL, X, hb, hA, hx⟩ := C
  obtain ⟨E, T, Kp, P, S, F⟩ := u
  obtain ⟨E', K2, Bf, As, Q⟩ := w
  obtain ⟨e, hI⟩ := hI
  have e : E = E' := e
  subst e
  obtain ⟨r, E1, Kp1, P1, S1, F1, K1, Q1, hC, hM, hI1⟩ := op_kindFor K.1.2.1 K.2.2.1.2.2.1 cI cS a b x hI (by omega) (xs (6 * t + 1)) (xs (6 * t + 2))
  refine v_aload_n h pL_law_12 3 rfl 2 rfl rfl ?_
  refine v_aload_n h pL_law_12 4 rfl 3 rfl rfl ?_
  refine v_iload_n h pL_law_12 5 rfl 0 rfl rfl ?_
  refine v_iconst h pL_law_12 6 rfl ki_1 ?_
  refine v_iadd h pL_law_12 7 rfl ?_
  refine v_sld h pL_law_12 8 X hb hA (6 * t + 1) rfl (ix6_1 t) (by omega) hL ?_
  refine v_aload_n h pL_law_12 9 rfl 3 rfl rfl ?_
  refine v_iload_n h pL_law_12 10 rfl 0 rfl rfl ?_
  refine v_iconst h pL_law_12 11 rfl ki_2 ?_
  refine v_iadd h pL_law_12 12 rfl ?_
  refine v_sld h pL_law_12 13 X hb hA (6 * t + 2) rfl (ix6_2 t) (by omega) hL ?_
  refine v_callV h pL_law_12 14 mL_76 (As := [.int (xs (6 * t + 1)), .int (xs (6 * t + 2))]) (st := []) hC v0B v0C emb_lc 0 rfl rfl rfl rfl rfl rfl rfl (fun v u1 hc => ?_)
  have hv := hc.1
  subst hv
  show V K (lW cI cS a b (u1, (E, K2, Bf, As, Q))) 697 (lLv a b b0 t) [.int r]
  refine v_aload_n h pL_law_12 15 rfl 1 rfl rfl ?_
  refine v_aload_n h pL_law_12 16 rfl 3 rfl rfl ?_
  refine v_iload_n h pL_law_12 17 rfl 0 rfl rfl ?_
  refine v_iconst h pL_law_12 18 rfl ki_1 ?_
  refine v_iadd h pL_law_12 19 rfl ?_
  refine v_sld h pL_law_12 20 X hb hA (6 * t + 1) rfl (ix6_1 t) (by omega) hL ?_
  refine v_aload_n h pL_law_12 21 rfl 3 rfl rfl ?_
  refine v_iload_n h pL_law_12 22 rfl 0 rfl rfl ?_
  refine v_iconst h pL_law_12 23 rfl ki_2 ?_
  refine v_iadd h pL_law_12 24 rfl ?_
  refine v_sld h pL_law_12 25 X hb hA (6 * t + 2) rfl (ix6_2 t) (by omega) hL ?_
  refine v_callV h pL_law_12 26 mL_79 (As := [.int (xs (6 * t + 1)), .int (xs (6 * t + 2))]) (st := [.int r]) hM v0B v0C emb_lm 47 rfl rfl rfl rfl rfl rfl rfl (fun v w1 hm => ?_)
  have hv := hm.1
  subst hv
  show V K (lW cI cS a b (u1, w1)) 711 (lLv a b b0 t) [.int r, .int r]
  exact v_icmp_eq (tgt := 1534) h pL_law_12 27 rfl rfl (fun _ => kk _ _ (lInv_of hc hm hI1)) (fun z => absurd rfl z)
theorem lc_weightFor {K : vK} {b0 L : Nat} {xs : Nat → Int32} {cI cS : ClassId} {x : xS} (C : lH K b0 L xs cI cS x) (hL : L ≤ 3072) (a b : Nat → Nat) (t : Nat) (ht : 6 * t + 6 ≤ L) (u : kS) (w : mS) (hI : lInv t u w) (kk : ∀ (u : kS) (w : mS), lInv (t + 1) u w → V K (lW cI cS a b (u, w)) 1534 (lLv a b b0 t) []) : V K (lW cI cS a b (u, w)) 716 (lLv a b b0 t) [] := by
  obtain ⟨h, hnL, X, hb, hA, hx⟩ := C
  obtain ⟨E, T, Kp, P, S, F⟩ := u
  obtain ⟨E', K2, Bf, As, Q⟩ := w
  obtain ⟨e, hI⟩ := hI
  have e : E = E' := e
  subst e
  obtain ⟨r, E1, Kp1, P1, S1, F1, K1, Q1, hC, hM, hI1⟩ := op_weightFor K.1.2.1 K.2.2.1.2.2.1 cI cS a b x hI (by omega) (xs (6 * t + 1)) (xs (6 * t + 2))
  refine v_aload_n h pL_law_12 30 rfl 2 rfl rfl ?_
  refine v_aload_n h pL_law_12 31 rfl 3 rfl rfl ?_
  refine v_iload_n h pL_law_13 0 rfl 0 rfl rfl ?_
  refine v_iconst h pL_law_13 1 rfl ki_1 ?_
  refine v_iadd h pL_law_13 2 rfl ?_
  refine v_sld h pL_law_13 3 X hb hA (6 * t + 1) rfl (ix6_1 t) (by omega) hL ?_
  refine v_aload_n h pL_law_13 4 rfl 3 rfl rfl ?_
  refine v_iload_n h pL_law_13 5 rfl 0 rfl rfl ?_
  refine v_iconst h pL_law_13 6 rfl ki_2 ?_
  refine v_iadd h pL_law_13 7 rfl ?_
  refine v_sld h pL_law_13 8 X hb hA (6 * t + 2) rfl (ix6_2 t) (by omega) hL ?_
  refine v_callV h pL_law_13 9 mL_80 (As := [.int (xs (6 * t + 1)), .int (xs (6 * t + 2))]) (st := []) hC v0B v0C emb_lc 0 rfl rfl rfl rfl rfl rfl rfl (fun v u1 hc => ?_)
  have hv := hc.1
  subst hv
  show V K (lW cI cS a b (u1, (E, K2, Bf, As, Q))) 730 (lLv a b b0 t) [.int r]
  refine v_aload_n h pL_law_13 10 rfl 1 rfl rfl ?_
  refine v_aload_n h pL_law_13 11 rfl 3 rfl rfl ?_
  refine v_iload_n h pL_law_13 12 rfl 0 rfl rfl ?_
  refine v_iconst h pL_law_13 13 rfl ki_1 ?_
  refine v_iadd h pL_law_13 14 rfl ?_
  refine v_sld h pL_law_13 15 X hb hA (6 * t + 1) rfl (ix6_1 t) (by omega) hL ?_
  refine v_aload_n h pL_law_13 16 rfl 3 rfl rfl ?_
  refine v_iload_n h pL_law_13 17 rfl 0 rfl rfl ?_
  refine v_iconst h pL_law_13 18 rfl ki_2 ?_
  refine v_iadd h pL_law_13 19 rfl ?_
  refine v_sld h pL_law_13 20 X hb hA (6 * t + 2) rfl (ix6_2 t) (by omega) hL ?_
  refine v_callV h pL_law_13 21 mL_83 (As := [.int (xs (6 * t + 1)), .int (xs (6 * t + 2))]) (st := [.int r]) hM v0B v0C emb_lm 47 rfl rfl rfl rfl rfl rfl rfl (fun v w1 hm => ?_)
  have hv := hm.1
  subst hv
  show V K (lW cI cS a b (u1, w1)) 744 (lLv a b b0 t) [.int r, .int r]
  exact v_icmp_eq (tgt := 1534) h pL_law_13 22 rfl rfl (fun _ => kk _ _ (lInv_of hc hm hI1)) (fun z => absurd rfl z)
theorem lc_comesFor {K : vK} {b0 L : Nat} {xs : Nat → Int32} {cI cS : ClassId} {x : xS} (C : lH K b0 L xs cI cS x) (hL : L ≤ 3072) (a b : Nat → Nat) (t : Nat) (ht : 6 * t + 6 ≤ L) (u : kS) (w : mS) (hI : lInv t u w) (kk : ∀ (u : kS) (w : mS), lInv (t + 1) u w → V K (lW cI cS a b (u, w)) 1534 (lLv a b b0 t) []) : V K (lW cI cS a b (u, w)) 749 (lLv a b b0 t) [] := by
  obtain ⟨h, hnL, X, hb, hA, hx⟩ := C
  obtain ⟨E, T, Kp, P, S, F⟩ := u
  obtain ⟨E', K2, Bf, As, Q⟩ := w
  obtain ⟨e, hI⟩ := hI
  have e : E = E' := e
  subst e
  obtain ⟨r, E1, Kp1, P1, S1, F1, K1, Q1, hC, hM, hI1⟩ := op_comesFor K.1.2.1 K.2.2.1.2.2.1 cI cS a b x hI (by omega) (xs (6 * t + 1)) (xs (6 * t + 2))
  refine v_aload_n h pL_law_13 25 rfl 2 rfl rfl ?_
  refine v_aload_n h pL_law_13 26 rfl 3 rfl rfl ?_
  refine v_iload_n h pL_law_13 27 rfl 0 rfl rfl ?_
  refine v_iconst h pL_law_13 28 rfl ki_1 ?_
  refine v_iadd h pL_law_13 29 rfl ?_
  refine v_sld h pL_law_13 30 X hb hA (6 * t + 1) rfl (ix6_1 t) (by omega) hL ?_
  refine v_aload_n h pL_law_13 31 rfl 3 rfl rfl ?_
  refine v_iload_n h pL_law_14 0 rfl 0 rfl rfl ?_
  refine v_iconst h pL_law_14 1 rfl ki_2 ?_
  refine v_iadd h pL_law_14 2 rfl ?_
  refine v_sld h pL_law_14 3 X hb hA (6 * t + 2) rfl (ix6_2 t) (by omega) hL ?_
  refine v_callV h pL_law_14 4 mL_84 (As := [.int (xs (6 * t + 1)), .int (xs (6 * t + 2))]) (st := []) hC v0B v0C emb_lc 0 rfl rfl rfl rfl rfl rfl rfl (fun v u1 hc => ?_)
  have hv := hc.1
  subst hv
  show V K (lW cI cS a b (u1, (E, K2, Bf, As, Q))) 763 (lLv a b b0 t) [.int r]
  refine v_aload_n h pL_law_14 5 rfl 1 rfl rfl ?_
  refine v_aload_n h pL_law_14 6 rfl 3 rfl rfl ?_
  refine v_iload_n h pL_law_14 7 rfl 0 rfl rfl ?_
  refine v_iconst h pL_law_14 8 rfl ki_1 ?_
  refine v_iadd h pL_law_14 9 rfl ?_
  refine v_sld h pL_law_14 10 X hb hA (6 * t + 1) rfl (ix6_1 t) (by omega) hL ?_
  refine v_aload_n h pL_law_14 11 rfl 3 rfl rfl ?_
  refine v_iload_n h pL_law_14 12 rfl 0 rfl rfl ?_
  refine v_iconst h pL_law_14 13 rfl ki_2 ?_
  refine v_iadd h pL_law_14 14 rfl ?_
  refine v_sld h pL_law_14 15 X hb hA (6 * t + 2) rfl (ix6_2 t) (by omega) hL ?_
  refine v_callV h pL_law_14 16 mL_87 (As := [.int (xs (6 * t + 1)), .int (xs (6 * t + 2))]) (st := [.int r]) hM v0B v0C emb_lm 47 rfl rfl rfl rfl rfl rfl rfl (fun v w1 hm => ?_)
  have hv := hm.1
  subst hv
  show V K (lW cI cS a b (u1, w1)) 777 (lLv a b b0 t) [.int r, .int r]
  exact v_icmp_eq (tgt := 1534) h pL_law_14 17 rfl rfl (fun _ => kk _ _ (lInv_of hc hm hI1)) (fun z => absurd rfl z)
theorem lc_coldFor {K : vK} {b0 L : Nat} {xs : Nat → Int32} {cI cS : ClassId} {x : xS} (C : lH K b0 L xs cI cS x) (hL : L ≤ 3072) (a b : Nat → Nat) (t : Nat) (ht : 6 * t + 6 ≤ L) (u : kS) (w : mS) (hI : lInv t u w) (kk : ∀ (u : kS) (w : mS), lInv (t + 1) u w → V K (lW cI cS a b (u, w)) 1534 (lLv a b b0 t) []) : V K (lW cI cS a b (u, w)) 782 (lLv a b b0 t) [] := by
  obtain ⟨h, hnL, X, hb, hA, hx⟩ := C
  obtain ⟨E, T, Kp, P, S, F⟩ := u
  obtain ⟨E', K2, Bf, As, Q⟩ := w
  obtain ⟨e, hI⟩ := hI
  have e : E = E' := e
  subst e
  obtain ⟨r, E1, Kp1, P1, S1, F1, K1, Q1, hC, hM, hI1⟩ := op_coldFor K.1.2.1 K.2.2.1.2.2.1 cI cS a b x hI (by omega) (xs (6 * t + 1)) (xs (6 * t + 2))
  refine v_aload_n h pL_law_14 20 rfl 2 rfl rfl ?_
  refine v_aload_n h pL_law_14 21 rfl 3 rfl rfl ?_
  refine v_iload_n h pL_law_14 22 rfl 0 rfl rfl ?_
  refine v_iconst h pL_law_14 23 rfl ki_1 ?_
  refine v_iadd h pL_law_14 24 rfl ?_
  refine v_sld h pL_law_14 25 X hb hA (6 * t + 1) rfl (ix6_1 t) (by omega) hL ?_
  refine v_aload_n h pL_law_14 26 rfl 3 rfl rfl ?_
  refine v_iload_n h pL_law_14 27 rfl 0 rfl rfl ?_
  refine v_iconst h pL_law_14 28 rfl ki_2 ?_
  refine v_iadd h pL_law_14 29 rfl ?_
  refine v_sld h pL_law_14 30 X hb hA (6 * t + 2) rfl (ix6_2 t) (by omega) hL ?_
  refine v_callV h pL_law_14 31 mL_88 (As := [.int (xs (6 * t + 1)), .int (xs (6 * t + 2))]) (st := []) hC v0B v0C emb_lc 0 rfl rfl rfl rfl rfl rfl rfl (fun v u1 hc => ?_)
  have hv := hc.1
  subst hv
  show V K (lW cI cS a b (u1, (E, K2, Bf, As, Q))) 796 (lLv a b b0 t) [.int r]
  refine v_aload_n h pL_law_15 0 rfl 1 rfl rfl ?_
  refine v_aload_n h pL_law_15 1 rfl 3 rfl rfl ?_
  refine v_iload_n h pL_law_15 2 rfl 0 rfl rfl ?_
  refine v_iconst h pL_law_15 3 rfl ki_1 ?_
  refine v_iadd h pL_law_15 4 rfl ?_
  refine v_sld h pL_law_15 5 X hb hA (6 * t + 1) rfl (ix6_1 t) (by omega) hL ?_
  refine v_aload_n h pL_law_15 6 rfl 3 rfl rfl ?_
  refine v_iload_n h pL_law_15 7 rfl 0 rfl rfl ?_
  refine v_iconst h pL_law_15 8 rfl ki_2 ?_
  refine v_iadd h pL_law_15 9 rfl ?_
  refine v_sld h pL_law_15 10 X hb hA (6 * t + 2) rfl (ix6_2 t) (by omega) hL ?_
  refine v_callV h pL_law_15 11 mL_91 (As := [.int (xs (6 * t + 1)), .int (xs (6 * t + 2))]) (st := [.int r]) hM v0B v0C emb_lm 47 rfl rfl rfl rfl rfl rfl rfl (fun v w1 hm => ?_)
  have hv := hm.1
  subst hv
  show V K (lW cI cS a b (u1, w1)) 810 (lLv a b b0 t) [.int r, .int r]
  exact v_icmp_eq (tgt := 1534) h pL_law_15 12 rfl rfl (fun _ => kk _ _ (lInv_of hc hm hI1)) (fun z => absurd rfl z)
theorem lc_room {K : vK} {b0 L : Nat} {xs : Nat → Int32} {cI cS : ClassId} {x : xS} (C : lH K b0 L xs cI cS x) (hL : L ≤ 3072) (a b : Nat → Nat) (t : Nat) (ht : 6 * t + 6 ≤ L) (u : kS) (w : mS) (hI : lInv t u w) (kk : ∀ (u : kS) (w : mS), lInv (t + 1) u w → V K (lW cI cS a b (u, w)) 1534 (lLv a b b0 t) []) : V K (lW cI cS a b (u, w)) 815 (lLv a b b0 t) [] := by
  obtain ⟨h, hnL, X, hb, hA, hx⟩ := C
  obtain ⟨E, T, Kp, P, S, F⟩ := u
  obtain ⟨E', K2, Bf, As, Q⟩ := w
  obtain ⟨e, hI⟩ := hI
  have e : E = E' := e
  subst e
  obtain ⟨r, E1, Kp1, P1, S1, F1, K1, Q1, hC, hM, hI1⟩ := op_room K.1.2.1 K.2.2.1.2.2.1 cI cS a b x hI (by omega) (xs (6 * t + 1)) (xs (6 * t + 2)) (xs (6 * t + 3))
  refine v_aload_n h pL_law_15 15 rfl 2 rfl rfl ?_
  refine v_aload_n h pL_law_15 16 rfl 3 rfl rfl ?_
  refine v_iload_n h pL_law_15 17 rfl 0 rfl rfl ?_
  refine v_iconst h pL_law_15 18 rfl ki_1 ?_
  refine v_iadd h pL_law_15 19 rfl ?_
  refine v_sld h pL_law_15 20 X hb hA (6 * t + 1) rfl (ix6_1 t) (by omega) hL ?_
  refine v_aload_n h pL_law_15 21 rfl 3 rfl rfl ?_
  refine v_iload_n h pL_law_15 22 rfl 0 rfl rfl ?_
  refine v_iconst h pL_law_15 23 rfl ki_2 ?_
  refine v_iadd h pL_law_15 24 rfl ?_
  refine v_sld h pL_law_15 25 X hb hA (6 * t + 2) rfl (ix6_2 t) (by omega) hL ?_
  refine v_aload_n h pL_law_15 26 rfl 3 rfl rfl ?_
  refine v_iload_n h pL_law_15 27 rfl 0 rfl rfl ?_
  refine v_iconst h pL_law_15 28 rfl ki_3 ?_
  refine v_iadd h pL_law_15 29 rfl ?_
  refine v_sld h pL_law_15 30 X hb hA (6 * t + 3) rfl (ix6_3 t) (by omega) hL ?_
  refine v_callV h pL_law_15 31 mL_92 (As := [.int (xs (6 * t + 1)), .int (xs (6 * t + 2)), .int (xs (6 * t + 3))]) (st := []) hC v0B v0C emb_lc 0 rfl rfl rfl rfl rfl rfl rfl (fun v u1 hc => ?_)
  have hv := hc.1
  subst hv
  show V K (lW cI cS a b (u1, (E, K2, Bf, As, Q))) 834 (lLv a b b0 t) [.int r]
  refine v_aload_n h pL_law_16 0 rfl 1 rfl rfl ?_
  refine v_aload_n h pL_law_16 1 rfl 3 rfl rfl ?_
  refine v_iload_n h pL_law_16 2 rfl 0 rfl rfl ?_
  refine v_iconst h pL_law_16 3 rfl ki_1 ?_
  refine v_iadd h pL_law_16 4 rfl ?_
  refine v_sld h pL_law_16 5 X hb hA (6 * t + 1) rfl (ix6_1 t) (by omega) hL ?_
  refine v_aload_n h pL_law_16 6 rfl 3 rfl rfl ?_
  refine v_iload_n h pL_law_16 7 rfl 0 rfl rfl ?_
  refine v_iconst h pL_law_16 8 rfl ki_2 ?_
  refine v_iadd h pL_law_16 9 rfl ?_
  refine v_sld h pL_law_16 10 X hb hA (6 * t + 2) rfl (ix6_2 t) (by omega) hL ?_
  refine v_aload_n h pL_law_16 11 rfl 3 rfl rfl ?_
  refine v_iload_n h pL_law_16 12 rfl 0 rfl rfl ?_
  refine v_iconst h pL_law_16 13 rfl ki_3 ?_
  refine v_iadd h pL_law_16 14 rfl ?_
  refine v_sld h pL_law_16 15 X hb hA (6 * t + 3) rfl (ix6_3 t) (by omega) hL ?_
  refine v_callV h pL_law_16 16 mL_95 (As := [.int (xs (6 * t + 1)), .int (xs (6 * t + 2)), .int (xs (6 * t + 3))]) (st := [.int r]) hM v0B v0C emb_lm 47 rfl rfl rfl rfl rfl rfl rfl (fun v w1 hm => ?_)
  have hv := hm.1
  subst hv
  show V K (lW cI cS a b (u1, w1)) 853 (lLv a b b0 t) [.int r, .int r]
  exact v_icmp_eq (tgt := 1534) h pL_law_16 17 rfl rfl (fun _ => kk _ _ (lInv_of hc hm hI1)) (fun z => absurd rfl z)
theorem lc_alike {K : vK} {b0 L : Nat} {xs : Nat → Int32} {cI cS : ClassId} {x : xS} (C : lH K b0 L xs cI cS x) (hL : L ≤ 3072) (a b : Nat → Nat) (t : Nat) (ht : 6 * t + 6 ≤ L) (u : kS) (w : mS) (hI : lInv t u w) (kk : ∀ (u : kS) (w : mS), lInv (t + 1) u w → V K (lW cI cS a b (u, w)) 1534 (lLv a b b0 t) []) : V K (lW cI cS a b (u, w)) 858 (lLv a b b0 t) [] := by
  obtain ⟨h, hnL, X, hb, hA, hx⟩ := C
  obtain ⟨E, T, Kp, P, S, F⟩ := u
  obtain ⟨E', K2, Bf, As, Q⟩ := w
  obtain ⟨e, hI⟩ := hI
  have e : E = E' := e
  subst e
  obtain ⟨r, E1, Kp1, P1, S1, F1, K1, Q1, hC, hM, hI1⟩ := op_alike K.1.2.1 K.2.2.1.2.2.1 cI cS a b x hI (by omega) (xs (6 * t + 1)) (xs (6 * t + 2))
  refine v_aload_n h pL_law_16 20 rfl 2 rfl rfl ?_
  refine v_aload_n h pL_law_16 21 rfl 3 rfl rfl ?_
  refine v_iload_n h pL_law_16 22 rfl 0 rfl rfl ?_
  refine v_iconst h pL_law_16 23 rfl ki_1 ?_
  refine v_iadd h pL_law_16 24 rfl ?_
  refine v_sld h pL_law_16 25 X hb hA (6 * t + 1) rfl (ix6_1 t) (by omega) hL ?_
  refine v_aload_n h pL_law_16 26 rfl 3 rfl rfl ?_
  refine v_iload_n h pL_law_16 27 rfl 0 rfl rfl ?_
  refine v_iconst h pL_law_16 28 rfl ki_2 ?_
  refine v_iadd h pL_law_16 29 rfl ?_
  refine v_sld h pL_law_16 30 X hb hA (6 * t + 2) rfl (ix6_2 t) (by omega) hL ?_
  refine v_callV h pL_law_16 31 mL_96 (As := [.int (xs (6 * t + 1)), .int (xs (6 * t + 2))]) (st := []) hC v0B v0C emb_lc 0 rfl rfl rfl rfl rfl rfl rfl (fun v u1 hc => ?_)
  have hv := hc.1
  subst hv
  show V K (lW cI cS a b (u1, (E, K2, Bf, As, Q))) 872 (lLv a b b0 t) [.int r]
  refine v_aload_n h pL_law_17 0 rfl 1 rfl rfl ?_
  refine v_aload_n h pL_law_17 1 rfl 3 rfl rfl ?_
  refine v_iload_n h pL_law_17 2 rfl 0 rfl rfl ?_
  refine v_iconst h pL_law_17 3 rfl ki_1 ?_
  refine v_iadd h pL_law_17 4 rfl ?_
  refine v_sld h pL_law_17 5 X hb hA (6 * t + 1) rfl (ix6_1 t) (by omega) hL ?_
  refine v_aload_n h pL_law_17 6 rfl 3 rfl rfl ?_
  refine v_iload_n h pL_law_17 7 rfl 0 rfl rfl ?_
  refine v_iconst h pL_law_17 8 rfl ki_2 ?_
  refine v_iadd h pL_law_17 9 rfl ?_
  refine v_sld h pL_law_17 10 X hb hA (6 * t + 2) rfl (ix6_2 t) (by omega) hL ?_
  refine v_callV h pL_law_17 11 mL_99 (As := [.int (xs (6 * t + 1)), .int (xs (6 * t + 2))]) (st := [.int r]) hM v0B v0C emb_lm 47 rfl rfl rfl rfl rfl rfl rfl (fun v w1 hm => ?_)
  have hv := hm.1
  subst hv
  show V K (lW cI cS a b (u1, w1)) 886 (lLv a b b0 t) [.int r, .int r]
  exact v_icmp_eq (tgt := 1534) h pL_law_17 12 rfl rfl (fun _ => kk _ _ (lInv_of hc hm hI1)) (fun z => absurd rfl z)
theorem lc_string {K : vK} {b0 L : Nat} {xs : Nat → Int32} {cI cS : ClassId} {x : xS} (C : lH K b0 L xs cI cS x) (hL : L ≤ 3072) (a b : Nat → Nat) (t : Nat) (ht : 6 * t + 6 ≤ L) (u : kS) (w : mS) (hI : lInv t u w) (kk : ∀ (u : kS) (w : mS), lInv (t + 1) u w → V K (lW cI cS a b (u, w)) 1534 (lLv a b b0 t) []) : V K (lW cI cS a b (u, w)) 891 (lLv a b b0 t) [] := by
  obtain ⟨h, hnL, X, hb, hA, hx⟩ := C
  obtain ⟨E, T, Kp, P, S, F⟩ := u
  obtain ⟨E', K2, Bf, As, Q⟩ := w
  obtain ⟨e, hI⟩ := hI
  have e : E = E' := e
  subst e
  obtain ⟨r, E1, Kp1, P1, S1, F1, K1, Q1, hC, hM, hI1⟩ := op_string K.1.2.1 K.2.2.1.2.2.1 cI cS a b x hI (by omega) (xs (6 * t + 1))
  refine v_aload_n h pL_law_17 15 rfl 2 rfl rfl ?_
  refine v_aload_n h pL_law_17 16 rfl 3 rfl rfl ?_
  refine v_iload_n h pL_law_17 17 rfl 0 rfl rfl ?_
  refine v_iconst h pL_law_17 18 rfl ki_1 ?_
  refine v_iadd h pL_law_17 19 rfl ?_
  refine v_sld h pL_law_17 20 X hb hA (6 * t + 1) rfl (ix6_1 t) (by omega) hL ?_
  refine v_callV h pL_law_17 21 mL_100 (As := [.int (xs (6 * t + 1))]) (st := []) hC v0B v0C emb_lc 0 rfl rfl rfl rfl rfl rfl rfl (fun v u1 hc => ?_)
  have hv := hc.1
  subst hv
  show V K (lW cI cS a b (u1, (E, K2, Bf, As, Q))) 900 (lLv a b b0 t) [.int r]
  refine v_aload_n h pL_law_17 22 rfl 1 rfl rfl ?_
  refine v_aload_n h pL_law_17 23 rfl 3 rfl rfl ?_
  refine v_iload_n h pL_law_17 24 rfl 0 rfl rfl ?_
  refine v_iconst h pL_law_17 25 rfl ki_1 ?_
  refine v_iadd h pL_law_17 26 rfl ?_
  refine v_sld h pL_law_17 27 X hb hA (6 * t + 1) rfl (ix6_1 t) (by omega) hL ?_
  refine v_callV h pL_law_17 28 mL_103 (As := [.int (xs (6 * t + 1))]) (st := [.int r]) hM v0B v0C emb_lm 47 rfl rfl rfl rfl rfl rfl rfl (fun v w1 hm => ?_)
  have hv := hm.1
  subst hv
  show V K (lW cI cS a b (u1, w1)) 909 (lLv a b b0 t) [.int r, .int r]
  exact v_icmp_eq (tgt := 1534) h pL_law_17 29 rfl rfl (fun _ => kk _ _ (lInv_of hc hm hI1)) (fun z => absurd rfl z)
theorem lc_pairs {K : vK} {b0 L : Nat} {xs : Nat → Int32} {cI cS : ClassId} {x : xS} (C : lH K b0 L xs cI cS x) (hL : L ≤ 3072) (a b : Nat → Nat) (t : Nat) (ht : 6 * t + 6 ≤ L) (u : kS) (w : mS) (hI : lInv t u w) (kk : ∀ (u : kS) (w : mS), lInv (t + 1) u w → V K (lW cI cS a b (u, w)) 1534 (lLv a b b0 t) []) : V K (lW cI cS a b (u, w)) 914 (lLv a b b0 t) [] := by
  obtain ⟨h, hnL, X, hb, hA, hx⟩ := C
  obtain ⟨E, T, Kp, P, S, F⟩ := u
  obtain ⟨E', K2, Bf, As, Q⟩ := w
  obtain ⟨e, hI⟩ := hI
  have e : E = E' := e
  subst e
  obtain ⟨r, E1, Kp1, P1, S1, F1, K1, Q1, hC, hM, hI1⟩ := op_pairs K.1.2.1 K.2.2.1.2.2.1 cI cS a b x hI (by omega) (xs (6 * t + 1))
  refine v_aload_n h pL_law_18 0 rfl 2 rfl rfl ?_
  refine v_aload_n h pL_law_18 1 rfl 3 rfl rfl ?_
  refine v_iload_n h pL_law_18 2 rfl 0 rfl rfl ?_
  refine v_iconst h pL_law_18 3 rfl ki_1 ?_
  refine v_iadd h pL_law_18 4 rfl ?_
  refine v_sld h pL_law_18 5 X hb hA (6 * t + 1) rfl (ix6_1 t) (by omega) hL ?_
  refine v_callV h pL_law_18 6 mL_104 (As := [.int (xs (6 * t + 1))]) (st := []) hC v0B v0C emb_lc 0 rfl rfl rfl rfl rfl rfl rfl (fun v u1 hc => ?_)
  have hv := hc.1
  subst hv
  show V K (lW cI cS a b (u1, (E, K2, Bf, As, Q))) 923 (lLv a b b0 t) [.int r]
  refine v_aload_n h pL_law_18 7 rfl 1 rfl rfl ?_
  refine v_aload_n h pL_law_18 8 rfl 3 rfl rfl ?_
  refine v_iload_n h pL_law_18 9 rfl 0 rfl rfl ?_
  refine v_iconst h pL_law_18 10 rfl ki_1 ?_
  refine v_iadd h pL_law_18 11 rfl ?_
  refine v_sld h pL_law_18 12 X hb hA (6 * t + 1) rfl (ix6_1 t) (by omega) hL ?_
  refine v_callV h pL_law_18 13 mL_107 (As := [.int (xs (6 * t + 1))]) (st := [.int r]) hM v0B v0C emb_lm 47 rfl rfl rfl rfl rfl rfl rfl (fun v w1 hm => ?_)
  have hv := hm.1
  subst hv
  show V K (lW cI cS a b (u1, w1)) 932 (lLv a b b0 t) [.int r, .int r]
  exact v_icmp_eq (tgt := 1534) h pL_law_18 14 rfl rfl (fun _ => kk _ _ (lInv_of hc hm hI1)) (fun z => absurd rfl z)
theorem lc_match {K : vK} {b0 L : Nat} {xs : Nat → Int32} {cI cS : ClassId} {x : xS} (C : lH K b0 L xs cI cS x) (hL : L ≤ 3072) (a b : Nat → Nat) (t : Nat) (ht : 6 * t + 6 ≤ L) (u : kS) (w : mS) (hI : lInv t u w) (kk : ∀ (u : kS) (w : mS), lInv (t + 1) u w → V K (lW cI cS a b (u, w)) 1534 (lLv a b b0 t) []) : V K (lW cI cS a b (u, w)) 937 (lLv a b b0 t) [] := by
  obtain ⟨h, hnL, X, hb, hA, hx⟩ := C
  obtain ⟨E, T, Kp, P, S, F⟩ := u
  obtain ⟨E', K2, Bf, As, Q⟩ := w
  obtain ⟨e, hI⟩ := hI
  have e : E = E' := e
  subst e
  obtain ⟨r, E1, Kp1, P1, S1, F1, K1, Q1, hC, hM, hI1⟩ := op_match K.1.2.1 K.2.2.1.2.2.1 cI cS a b x hI (by omega)
  refine v_aload_n h pL_law_18 17 rfl 2 rfl rfl ?_
  refine v_callV h pL_law_18 18 mL_108 (As := []) (st := []) hC v0B v0C emb_lc 0 rfl rfl rfl rfl rfl rfl rfl (fun v u1 hc => ?_)
  have hv := hc.1
  subst hv
  show V K (lW cI cS a b (u1, (E, K2, Bf, As, Q))) 941 (lLv a b b0 t) [.int r]
  refine v_aload_n h pL_law_18 19 rfl 1 rfl rfl ?_
  refine v_callV h pL_law_18 20 mL_112 (As := []) (st := [.int r]) hM v0B v0C emb_lm 47 rfl rfl rfl rfl rfl rfl rfl (fun v w1 hm => ?_)
  have hv := hm.1
  subst hv
  show V K (lW cI cS a b (u1, w1)) 945 (lLv a b b0 t) [.int r, .int r]
  exact v_icmp_eq (tgt := 1534) h pL_law_18 21 rfl rfl (fun _ => kk _ _ (lInv_of hc hm hI1)) (fun z => absurd rfl z)
theorem lc_fits {K : vK} {b0 L : Nat} {xs : Nat → Int32} {cI cS : ClassId} {x : xS} (C : lH K b0 L xs cI cS x) (hL : L ≤ 3072) (a b : Nat → Nat) (t : Nat) (ht : 6 * t + 6 ≤ L) (u : kS) (w : mS) (hI : lInv t u w) (kk : ∀ (u : kS) (w : mS), lInv (t + 1) u w → V K (lW cI cS a b (u, w)) 1534 (lLv a b b0 t) []) : V K (lW cI cS a b (u, w)) 950 (lLv a b b0 t) [] := by
  obtain ⟨h, hnL, X, hb, hA, hx⟩ := C
  obtain ⟨E, T, Kp, P, S, F⟩ := u
  obtain ⟨E', K2, Bf, As, Q⟩ := w
  obtain ⟨e, hI⟩ := hI
  have e : E = E' := e
  subst e
  obtain ⟨r, E1, Kp1, P1, S1, F1, K1, Q1, hC, hM, hI1⟩ := op_fits K.1.2.1 K.2.2.1.2.2.1 cI cS a b x hI (by omega) (xs (6 * t + 1)) (xs (6 * t + 2))
  refine v_aload_n h pL_law_18 24 rfl 2 rfl rfl ?_
  refine v_aload_n h pL_law_18 25 rfl 3 rfl rfl ?_
  refine v_iload_n h pL_law_18 26 rfl 0 rfl rfl ?_
  refine v_iconst h pL_law_18 27 rfl ki_1 ?_
  refine v_iadd h pL_law_18 28 rfl ?_
  refine v_sld h pL_law_18 29 X hb hA (6 * t + 1) rfl (ix6_1 t) (by omega) hL ?_
  refine v_aload_n h pL_law_18 30 rfl 3 rfl rfl ?_
  refine v_iload_n h pL_law_18 31 rfl 0 rfl rfl ?_
  refine v_iconst h pL_law_19 0 rfl ki_2 ?_
  refine v_iadd h pL_law_19 1 rfl ?_
  refine v_sld h pL_law_19 2 X hb hA (6 * t + 2) rfl (ix6_2 t) (by omega) hL ?_
  refine v_callV h pL_law_19 3 mL_113 (As := [.int (xs (6 * t + 1)), .int (xs (6 * t + 2))]) (st := []) hC v0B v0C emb_lc 0 rfl rfl rfl rfl rfl rfl rfl (fun v u1 hc => ?_)
  have hv := hc.1
  subst hv
  show V K (lW cI cS a b (u1, (E, K2, Bf, As, Q))) 964 (lLv a b b0 t) [.int r]
  refine v_aload_n h pL_law_19 4 rfl 1 rfl rfl ?_
  refine v_aload_n h pL_law_19 5 rfl 3 rfl rfl ?_
  refine v_iload_n h pL_law_19 6 rfl 0 rfl rfl ?_
  refine v_iconst h pL_law_19 7 rfl ki_1 ?_
  refine v_iadd h pL_law_19 8 rfl ?_
  refine v_sld h pL_law_19 9 X hb hA (6 * t + 1) rfl (ix6_1 t) (by omega) hL ?_
  refine v_aload_n h pL_law_19 10 rfl 3 rfl rfl ?_
  refine v_iload_n h pL_law_19 11 rfl 0 rfl rfl ?_
  refine v_iconst h pL_law_19 12 rfl ki_2 ?_
  refine v_iadd h pL_law_19 13 rfl ?_
  refine v_sld h pL_law_19 14 X hb hA (6 * t + 2) rfl (ix6_2 t) (by omega) hL ?_
  refine v_callV h pL_law_19 15 mL_116 (As := [.int (xs (6 * t + 1)), .int (xs (6 * t + 2))]) (st := [.int r]) hM v0B v0C emb_lm 47 rfl rfl rfl rfl rfl rfl rfl (fun v w1 hm => ?_)
  have hv := hm.1
  subst hv
  show V K (lW cI cS a b (u1, w1)) 978 (lLv a b b0 t) [.int r, .int r]
  exact v_icmp_eq (tgt := 1534) h pL_law_19 16 rfl rfl (fun _ => kk _ _ (lInv_of hc hm hI1)) (fun z => absurd rfl z)
theorem lc_weighed {K : vK} {b0 L : Nat} {xs : Nat → Int32} {cI cS : ClassId} {x : xS} (C : lH K b0 L xs cI cS x) (hL : L ≤ 3072) (a b : Nat → Nat) (t : Nat) (ht : 6 * t + 6 ≤ L) (u : kS) (w : mS) (hI : lInv t u w) (kk : ∀ (u : kS) (w : mS), lInv (t + 1) u w → V K (lW cI cS a b (u, w)) 1534 (lLv a b b0 t) []) : V K (lW cI cS a b (u, w)) 983 (lLv a b b0 t) [] := by
  obtain ⟨h, hnL, X, hb, hA, hx⟩ := C
  obtain ⟨E, T, Kp, P, S, F⟩ := u
  obtain ⟨E', K2, Bf, As, Q⟩ := w
  obtain ⟨e, hI⟩ := hI
  have e : E = E' := e
  subst e
  obtain ⟨r, E1, Kp1, P1, S1, F1, K1, Q1, hC, hM, hI1⟩ := op_weighed K.1.2.1 K.2.2.1.2.2.1 cI cS a b x hI (by omega) (xs (6 * t + 1)) (xs (6 * t + 2))
  refine v_aload_n h pL_law_19 19 rfl 2 rfl rfl ?_
  refine v_aload_n h pL_law_19 20 rfl 3 rfl rfl ?_
  refine v_iload_n h pL_law_19 21 rfl 0 rfl rfl ?_
  refine v_iconst h pL_law_19 22 rfl ki_1 ?_
  refine v_iadd h pL_law_19 23 rfl ?_
  refine v_sld h pL_law_19 24 X hb hA (6 * t + 1) rfl (ix6_1 t) (by omega) hL ?_
  refine v_aload_n h pL_law_19 25 rfl 3 rfl rfl ?_
  refine v_iload_n h pL_law_19 26 rfl 0 rfl rfl ?_
  refine v_iconst h pL_law_19 27 rfl ki_2 ?_
  refine v_iadd h pL_law_19 28 rfl ?_
  refine v_sld h pL_law_19 29 X hb hA (6 * t + 2) rfl (ix6_2 t) (by omega) hL ?_
  refine v_callV h pL_law_19 30 mL_117 (As := [.int (xs (6 * t + 1)), .int (xs (6 * t + 2))]) (st := []) hC v0B v0C emb_lc 0 rfl rfl rfl rfl rfl rfl rfl (fun v u1 hc => ?_)
  have hv := hc.1
  subst hv
  show V K (lW cI cS a b (u1, (E, K2, Bf, As, Q))) 997 (lLv a b b0 t) [.int r]
  refine v_aload_n h pL_law_19 31 rfl 1 rfl rfl ?_
  refine v_aload_n h pL_law_20 0 rfl 3 rfl rfl ?_
  refine v_iload_n h pL_law_20 1 rfl 0 rfl rfl ?_
  refine v_iconst h pL_law_20 2 rfl ki_1 ?_
  refine v_iadd h pL_law_20 3 rfl ?_
  refine v_sld h pL_law_20 4 X hb hA (6 * t + 1) rfl (ix6_1 t) (by omega) hL ?_
  refine v_aload_n h pL_law_20 5 rfl 3 rfl rfl ?_
  refine v_iload_n h pL_law_20 6 rfl 0 rfl rfl ?_
  refine v_iconst h pL_law_20 7 rfl ki_2 ?_
  refine v_iadd h pL_law_20 8 rfl ?_
  refine v_sld h pL_law_20 9 X hb hA (6 * t + 2) rfl (ix6_2 t) (by omega) hL ?_
  refine v_callV h pL_law_20 10 mL_120 (As := [.int (xs (6 * t + 1)), .int (xs (6 * t + 2))]) (st := [.int r]) hM v0B v0C emb_lm 47 rfl rfl rfl rfl rfl rfl rfl (fun v w1 hm => ?_)
  have hv := hm.1
  subst hv
  show V K (lW cI cS a b (u1, w1)) 1011 (lLv a b b0 t) [.int r, .int r]
  exact v_icmp_eq (tgt := 1534) h pL_law_20 11 rfl rfl (fun _ => kk _ _ (lInv_of hc hm hI1)) (fun z => absurd rfl z)
theorem lc_kinds {K : vK} {b0 L : Nat} {xs : Nat → Int32} {cI cS : ClassId} {x : xS} (C : lH K b0 L xs cI cS x) (hL : L ≤ 3072) (a b : Nat → Nat) (t : Nat) (ht : 6 * t + 6 ≤ L) (u : kS) (w : mS) (hI : lInv t u w) (kk : ∀ (u : kS) (w : mS), lInv (t + 1) u w → V K (lW cI cS a b (u, w)) 1534 (lLv a b b0 t) []) : V K (lW cI cS a b (u, w)) 1016 (lLv a b b0 t) [] := by
  obtain ⟨h, hnL, X, hb, hA, hx⟩ := C
  obtain ⟨E, T, Kp, P, S, F⟩ := u
  obtain ⟨E', K2, Bf, As, Q⟩ := w
  obtain ⟨e, hI⟩ := hI
  have e : E = E' := e
  subst e
  obtain ⟨r, E1, Kp1, P1, S1, F1, K1, Q1, hC, hM, hI1⟩ := op_kinds K.1.2.1 K.2.2.1.2.2.1 cI cS a b x hI (by omega) (xs (6 * t + 1)) (xs (6 * t + 2))
  refine v_aload_n h pL_law_20 14 rfl 2 rfl rfl ?_
  refine v_aload_n h pL_law_20 15 rfl 3 rfl rfl ?_
  refine v_iload_n h pL_law_20 16 rfl 0 rfl rfl ?_
  refine v_iconst h pL_law_20 17 rfl ki_1 ?_
  refine v_iadd h pL_law_20 18 rfl ?_
  refine v_sld h pL_law_20 19 X hb hA (6 * t + 1) rfl (ix6_1 t) (by omega) hL ?_
  refine v_aload_n h pL_law_20 20 rfl 3 rfl rfl ?_
  refine v_iload_n h pL_law_20 21 rfl 0 rfl rfl ?_
  refine v_iconst h pL_law_20 22 rfl ki_2 ?_
  refine v_iadd h pL_law_20 23 rfl ?_
  refine v_sld h pL_law_20 24 X hb hA (6 * t + 2) rfl (ix6_2 t) (by omega) hL ?_
  refine v_callV h pL_law_20 25 mL_121 (As := [.int (xs (6 * t + 1)), .int (xs (6 * t + 2))]) (st := []) hC v0B v0C emb_lc 0 rfl rfl rfl rfl rfl rfl rfl (fun v u1 hc => ?_)
  have hv := hc.1
  subst hv
  show V K (lW cI cS a b (u1, (E, K2, Bf, As, Q))) 1030 (lLv a b b0 t) [.int r]
  refine v_aload_n h pL_law_20 26 rfl 1 rfl rfl ?_
  refine v_aload_n h pL_law_20 27 rfl 3 rfl rfl ?_
  refine v_iload_n h pL_law_20 28 rfl 0 rfl rfl ?_
  refine v_iconst h pL_law_20 29 rfl ki_1 ?_
  refine v_iadd h pL_law_20 30 rfl ?_
  refine v_sld h pL_law_20 31 X hb hA (6 * t + 1) rfl (ix6_1 t) (by omega) hL ?_
  refine v_aload_n h pL_law_21 0 rfl 3 rfl rfl ?_
  refine v_iload_n h pL_law_21 1 rfl 0 rfl rfl ?_
  refine v_iconst h pL_law_21 2 rfl ki_2 ?_
  refine v_iadd h pL_law_21 3 rfl ?_
  refine v_sld h pL_law_21 4 X hb hA (6 * t + 2) rfl (ix6_2 t) (by omega) hL ?_
  refine v_callV h pL_law_21 5 mL_124 (As := [.int (xs (6 * t + 1)), .int (xs (6 * t + 2))]) (st := [.int r]) hM v0B v0C emb_lm 47 rfl rfl rfl rfl rfl rfl rfl (fun v w1 hm => ?_)
  have hv := hm.1
  subst hv
  show V K (lW cI cS a b (u1, w1)) 1044 (lLv a b b0 t) [.int r, .int r]
  exact v_icmp_eq (tgt := 1534) h pL_law_21 6 rfl rfl (fun _ => kk _ _ (lInv_of hc hm hI1)) (fun z => absurd rfl z)
theorem lc_storms {K : vK} {b0 L : Nat} {xs : Nat → Int32} {cI cS : ClassId} {x : xS} (C : lH K b0 L xs cI cS x) (hL : L ≤ 3072) (a b : Nat → Nat) (t : Nat) (ht : 6 * t + 6 ≤ L) (u : kS) (w : mS) (hI : lInv t u w) (kk : ∀ (u : kS) (w : mS), lInv (t + 1) u w → V K (lW cI cS a b (u, w)) 1534 (lLv a b b0 t) []) : V K (lW cI cS a b (u, w)) 1049 (lLv a b b0 t) [] := by
  obtain ⟨h, hnL, X, hb, hA, hx⟩ := C
  obtain ⟨E, T, Kp, P, S, F⟩ := u
  obtain ⟨E', K2, Bf, As, Q⟩ := w
  obtain ⟨e, hI⟩ := hI
  have e : E = E' := e
  subst e
  obtain ⟨r, E1, Kp1, P1, S1, F1, K1, Q1, hC, hM, hI1⟩ := op_storms K.1.2.1 K.2.2.1.2.2.1 cI cS a b x hI (by omega) (xs (6 * t + 1))
  refine v_aload_n h pL_law_21 9 rfl 2 rfl rfl ?_
  refine v_aload_n h pL_law_21 10 rfl 3 rfl rfl ?_
  refine v_iload_n h pL_law_21 11 rfl 0 rfl rfl ?_
  refine v_iconst h pL_law_21 12 rfl ki_1 ?_
  refine v_iadd h pL_law_21 13 rfl ?_
  refine v_sld h pL_law_21 14 X hb hA (6 * t + 1) rfl (ix6_1 t) (by omega) hL ?_
  refine v_callV h pL_law_21 15 mL_125 (As := [.int (xs (6 * t + 1))]) (st := []) hC v0B v0C emb_lc 0 rfl rfl rfl rfl rfl rfl rfl (fun v u1 hc => ?_)
  have hv := hc.1
  subst hv
  show V K (lW cI cS a b (u1, (E, K2, Bf, As, Q))) 1058 (lLv a b b0 t) [.int r]
  refine v_aload_n h pL_law_21 16 rfl 1 rfl rfl ?_
  refine v_aload_n h pL_law_21 17 rfl 3 rfl rfl ?_
  refine v_iload_n h pL_law_21 18 rfl 0 rfl rfl ?_
  refine v_iconst h pL_law_21 19 rfl ki_1 ?_
  refine v_iadd h pL_law_21 20 rfl ?_
  refine v_sld h pL_law_21 21 X hb hA (6 * t + 1) rfl (ix6_1 t) (by omega) hL ?_
  refine v_callV h pL_law_21 22 mL_128 (As := [.int (xs (6 * t + 1))]) (st := [.int r]) hM v0B v0C emb_lm 47 rfl rfl rfl rfl rfl rfl rfl (fun v w1 hm => ?_)
  have hv := hm.1
  subst hv
  show V K (lW cI cS a b (u1, w1)) 1067 (lLv a b b0 t) [.int r, .int r]
  exact v_icmp_eq (tgt := 1534) h pL_law_21 23 rfl rfl (fun _ => kk _ _ (lInv_of hc hm hI1)) (fun z => absurd rfl z)
theorem lc_odds {K : vK} {b0 L : Nat} {xs : Nat → Int32} {cI cS : ClassId} {x : xS} (C : lH K b0 L xs cI cS x) (hL : L ≤ 3072) (a b : Nat → Nat) (t : Nat) (ht : 6 * t + 6 ≤ L) (u : kS) (w : mS) (hI : lInv t u w) (kk : ∀ (u : kS) (w : mS), lInv (t + 1) u w → V K (lW cI cS a b (u, w)) 1534 (lLv a b b0 t) []) : V K (lW cI cS a b (u, w)) 1072 (lLv a b b0 t) [] := by
  obtain ⟨h, hnL, X, hb, hA, hx⟩ := C
  obtain ⟨E, T, Kp, P, S, F⟩ := u
  obtain ⟨E', K2, Bf, As, Q⟩ := w
  obtain ⟨e, hI⟩ := hI
  have e : E = E' := e
  subst e
  obtain ⟨r, E1, Kp1, P1, S1, F1, K1, Q1, hC, hM, hI1⟩ := op_odds K.1.2.1 K.2.2.1.2.2.1 cI cS a b x hI (by omega) (xs (6 * t + 1)) (xs (6 * t + 2))
  refine v_aload_n h pL_law_21 26 rfl 2 rfl rfl ?_
  refine v_aload_n h pL_law_21 27 rfl 3 rfl rfl ?_
  refine v_iload_n h pL_law_21 28 rfl 0 rfl rfl ?_
  refine v_iconst h pL_law_21 29 rfl ki_1 ?_
  refine v_iadd h pL_law_21 30 rfl ?_
  refine v_sld h pL_law_21 31 X hb hA (6 * t + 1) rfl (ix6_1 t) (by omega) hL ?_
  refine v_aload_n h pL_law_22 0 rfl 3 rfl rfl ?_
  refine v_iload_n h pL_law_22 1 rfl 0 rfl rfl ?_
  refine v_iconst h pL_law_22 2 rfl ki_2 ?_
  refine v_iadd h pL_law_22 3 rfl ?_
  refine v_sld h pL_law_22 4 X hb hA (6 * t + 2) rfl (ix6_2 t) (by omega) hL ?_
  refine v_callV h pL_law_22 5 mL_129 (As := [.int (xs (6 * t + 1)), .int (xs (6 * t + 2))]) (st := []) hC v0B v0C emb_lc 0 rfl rfl rfl rfl rfl rfl rfl (fun v u1 hc => ?_)
  have hv := hc.1
  subst hv
  show V K (lW cI cS a b (u1, (E, K2, Bf, As, Q))) 1086 (lLv a b b0 t) [.long r]
  refine v_aload_n h pL_law_22 6 rfl 1 rfl rfl ?_
  refine v_aload_n h pL_law_22 7 rfl 3 rfl rfl ?_
  refine v_iload_n h pL_law_22 8 rfl 0 rfl rfl ?_
  refine v_iconst h pL_law_22 9 rfl ki_1 ?_
  refine v_iadd h pL_law_22 10 rfl ?_
  refine v_sld h pL_law_22 11 X hb hA (6 * t + 1) rfl (ix6_1 t) (by omega) hL ?_
  refine v_aload_n h pL_law_22 12 rfl 3 rfl rfl ?_
  refine v_iload_n h pL_law_22 13 rfl 0 rfl rfl ?_
  refine v_iconst h pL_law_22 14 rfl ki_2 ?_
  refine v_iadd h pL_law_22 15 rfl ?_
  refine v_sld h pL_law_22 16 X hb hA (6 * t + 2) rfl (ix6_2 t) (by omega) hL ?_
  refine v_callV h pL_law_22 17 mL_133 (As := [.int (xs (6 * t + 1)), .int (xs (6 * t + 2))]) (st := [.long r]) hM v0B v0C emb_lm 47 rfl rfl rfl rfl rfl rfl rfl (fun v w1 hm => ?_)
  have hv := hm.1
  subst hv
  show V K (lW cI cS a b (u1, w1)) 1100 (lLv a b b0 t) [.long r, .long r]
  refine v_lcmp h pL_law_22 18 rfl ?_
  refine v_if_eq (tgt := 1534) h pL_law_22 19 rfl rfl (fun _ => kk _ _ (lInv_of hc hm hI1)) (fun z => absurd (lg_eq.mpr rfl) z)
theorem lc_seed {K : vK} {b0 L : Nat} {xs : Nat → Int32} {cI cS : ClassId} {x : xS} (C : lH K b0 L xs cI cS x) (hL : L ≤ 3072) (a b : Nat → Nat) (t : Nat) (ht : 6 * t + 6 ≤ L) (u : kS) (w : mS) (hI : lInv t u w) (kk : ∀ (u : kS) (w : mS), lInv (t + 1) u w → V K (lW cI cS a b (u, w)) 1534 (lLv a b b0 t) []) : V K (lW cI cS a b (u, w)) 1106 (lLv a b b0 t) [] := by
  obtain ⟨h, hnL, X, hb, hA, hx⟩ := C
  obtain ⟨E, T, Kp, P, S, F⟩ := u
  obtain ⟨E', K2, Bf, As, Q⟩ := w
  obtain ⟨e, hI⟩ := hI
  have e : E = E' := e
  subst e
  obtain ⟨r, E1, Kp1, P1, S1, F1, K1, Q1, hC, hM, hI1⟩ := op_seed K.1.2.1 K.2.2.1.2.2.1 cI cS a b x hI (by omega) (xs (6 * t + 1))
  refine v_aload_n h pL_law_22 22 rfl 2 rfl rfl ?_
  refine v_aload_n h pL_law_22 23 rfl 3 rfl rfl ?_
  refine v_iload_n h pL_law_22 24 rfl 0 rfl rfl ?_
  refine v_iconst h pL_law_22 25 rfl ki_1 ?_
  refine v_iadd h pL_law_22 26 rfl ?_
  refine v_sld h pL_law_22 27 X hb hA (6 * t + 1) rfl (ix6_1 t) (by omega) hL ?_
  refine v_callV h pL_law_22 28 mL_134 (As := [.int (xs (6 * t + 1))]) (st := []) hC v0B v0C emb_lc 0 rfl rfl rfl rfl rfl rfl rfl (fun v u1 hc => ?_)
  have hv := hc.1
  subst hv
  show V K (lW cI cS a b (u1, (E, K2, Bf, As, Q))) 1115 (lLv a b b0 t) [.int r]
  refine v_aload_n h pL_law_22 29 rfl 1 rfl rfl ?_
  refine v_aload_n h pL_law_22 30 rfl 3 rfl rfl ?_
  refine v_iload_n h pL_law_22 31 rfl 0 rfl rfl ?_
  refine v_iconst h pL_law_23 0 rfl ki_1 ?_
  refine v_iadd h pL_law_23 1 rfl ?_
  refine v_sld h pL_law_23 2 X hb hA (6 * t + 1) rfl (ix6_1 t) (by omega) hL ?_
  refine v_callV h pL_law_23 3 mL_137 (As := [.int (xs (6 * t + 1))]) (st := [.int r]) hM v0B v0C emb_lm 47 rfl rfl rfl rfl rfl rfl rfl (fun v w1 hm => ?_)
  have hv := hm.1
  subst hv
  show V K (lW cI cS a b (u1, w1)) 1124 (lLv a b b0 t) [.int r, .int r]
  exact v_icmp_eq (tgt := 1534) h pL_law_23 4 rfl rfl (fun _ => kk _ _ (lInv_of hc hm hI1)) (fun z => absurd rfl z)
theorem lc_feed {K : vK} {b0 L : Nat} {xs : Nat → Int32} {cI cS : ClassId} {x : xS} (C : lH K b0 L xs cI cS x) (hL : L ≤ 3072) (a b : Nat → Nat) (t : Nat) (ht : 6 * t + 6 ≤ L) (u : kS) (w : mS) (hI : lInv t u w) (kk : ∀ (u : kS) (w : mS), lInv (t + 1) u w → V K (lW cI cS a b (u, w)) 1534 (lLv a b b0 t) []) : V K (lW cI cS a b (u, w)) 1129 (lLv a b b0 t) [] := by
  obtain ⟨h, hnL, X, hb, hA, hx⟩ := C
  obtain ⟨E, T, Kp, P, S, F⟩ := u
  obtain ⟨E', K2, Bf, As, Q⟩ := w
  obtain ⟨e, hI⟩ := hI
  have e : E = E' := e
  subst e
  obtain ⟨r, E1, Kp1, P1, S1, F1, K1, Q1, hC, hM, hI1⟩ := op_feed K.1.2.1 K.2.2.1.2.2.1 cI cS a b x hI (by omega) (xs (6 * t + 1)) (xs (6 * t + 2))
  refine v_aload_n h pL_law_23 7 rfl 2 rfl rfl ?_
  refine v_aload_n h pL_law_23 8 rfl 3 rfl rfl ?_
  refine v_iload_n h pL_law_23 9 rfl 0 rfl rfl ?_
  refine v_iconst h pL_law_23 10 rfl ki_1 ?_
  refine v_iadd h pL_law_23 11 rfl ?_
  refine v_sld h pL_law_23 12 X hb hA (6 * t + 1) rfl (ix6_1 t) (by omega) hL ?_
  refine v_aload_n h pL_law_23 13 rfl 3 rfl rfl ?_
  refine v_iload_n h pL_law_23 14 rfl 0 rfl rfl ?_
  refine v_iconst h pL_law_23 15 rfl ki_2 ?_
  refine v_iadd h pL_law_23 16 rfl ?_
  refine v_sld h pL_law_23 17 X hb hA (6 * t + 2) rfl (ix6_2 t) (by omega) hL ?_
  refine v_callV h pL_law_23 18 mL_138 (As := [.int (xs (6 * t + 1)), .int (xs (6 * t + 2))]) (st := []) hC v0B v0C emb_lc 0 rfl rfl rfl rfl rfl rfl rfl (fun v u1 hc => ?_)
  have hv := hc.1
  subst hv
  show V K (lW cI cS a b (u1, (E, K2, Bf, As, Q))) 1143 (lLv a b b0 t) [.int r]
  refine v_aload_n h pL_law_23 19 rfl 1 rfl rfl ?_
  refine v_aload_n h pL_law_23 20 rfl 3 rfl rfl ?_
  refine v_iload_n h pL_law_23 21 rfl 0 rfl rfl ?_
  refine v_iconst h pL_law_23 22 rfl ki_1 ?_
  refine v_iadd h pL_law_23 23 rfl ?_
  refine v_sld h pL_law_23 24 X hb hA (6 * t + 1) rfl (ix6_1 t) (by omega) hL ?_
  refine v_aload_n h pL_law_23 25 rfl 3 rfl rfl ?_
  refine v_iload_n h pL_law_23 26 rfl 0 rfl rfl ?_
  refine v_iconst h pL_law_23 27 rfl ki_2 ?_
  refine v_iadd h pL_law_23 28 rfl ?_
  refine v_sld h pL_law_23 29 X hb hA (6 * t + 2) rfl (ix6_2 t) (by omega) hL ?_
  refine v_callV h pL_law_23 30 mL_141 (As := [.int (xs (6 * t + 1)), .int (xs (6 * t + 2))]) (st := [.int r]) hM v0B v0C emb_lm 47 rfl rfl rfl rfl rfl rfl rfl (fun v w1 hm => ?_)
  have hv := hm.1
  subst hv
  show V K (lW cI cS a b (u1, w1)) 1157 (lLv a b b0 t) [.int r, .int r]
  exact v_icmp_eq (tgt := 1534) h pL_law_23 31 rfl rfl (fun _ => kk _ _ (lInv_of hc hm hI1)) (fun z => absurd rfl z)
theorem lc_wipe {K : vK} {b0 L : Nat} {xs : Nat → Int32} {cI cS : ClassId} {x : xS} (C : lH K b0 L xs cI cS x) (hL : L ≤ 3072) (a b : Nat → Nat) (t : Nat) (ht : 6 * t + 6 ≤ L) (u : kS) (w : mS) (hI : lInv t u w) (kk : ∀ (u : kS) (w : mS), lInv (t + 1) u w → V K (lW cI cS a b (u, w)) 1534 (lLv a b b0 t) []) : V K (lW cI cS a b (u, w)) 1162 (lLv a b b0 t) [] := by
  obtain ⟨h, hnL, X, hb, hA, hx⟩ := C
  obtain ⟨E, T, Kp, P, S, F⟩ := u
  obtain ⟨E', K2, Bf, As, Q⟩ := w
  obtain ⟨e, hI⟩ := hI
  have e : E = E' := e
  subst e
  obtain ⟨r, E1, Kp1, P1, S1, F1, K1, Q1, hC, hM, hI1⟩ := op_wipe K.1.2.1 K.2.2.1.2.2.1 cI cS a b x hI (by omega)
  refine v_aload_n h pL_law_24 2 rfl 2 rfl rfl ?_
  refine v_callV h pL_law_24 3 mL_142 (As := []) (st := []) hC v0B v0C emb_lc 0 rfl rfl rfl rfl rfl rfl rfl (fun v u1 hc => ?_)
  have hv := hc.1
  subst hv
  show V K (lW cI cS a b (u1, (E, K2, Bf, As, Q))) 1166 (lLv a b b0 t) [.int r]
  refine v_aload_n h pL_law_24 4 rfl 1 rfl rfl ?_
  refine v_callV h pL_law_24 5 mL_145 (As := []) (st := [.int r]) hM v0B v0C emb_lm 47 rfl rfl rfl rfl rfl rfl rfl (fun v w1 hm => ?_)
  have hv := hm.1
  subst hv
  show V K (lW cI cS a b (u1, w1)) 1170 (lLv a b b0 t) [.int r, .int r]
  exact v_icmp_eq (tgt := 1534) h pL_law_24 6 rfl rfl (fun _ => kk _ _ (lInv_of hc hm hI1)) (fun z => absurd rfl z)
theorem lc_text {K : vK} {b0 L : Nat} {xs : Nat → Int32} {cI cS : ClassId} {x : xS} (C : lH K b0 L xs cI cS x) (hL : L ≤ 3072) (a b : Nat → Nat) (t : Nat) (ht : 6 * t + 6 ≤ L) (u : kS) (w : mS) (hI : lInv t u w) (kk : ∀ (u : kS) (w : mS), lInv (t + 1) u w → V K (lW cI cS a b (u, w)) 1534 (lLv a b b0 t) []) : V K (lW cI cS a b (u, w)) 1175 (lLv a b b0 t) [] := by
  obtain ⟨h, hnL, X, hb, hA, hx⟩ := C
  obtain ⟨E, T, Kp, P, S, F⟩ := u
  obtain ⟨E', K2, Bf, As, Q⟩ := w
  obtain ⟨e, hI⟩ := hI
  have e : E = E' := e
  subst e
  obtain ⟨r, E1, Kp1, P1, S1, F1, K1, Q1, hC, hM, hI1⟩ := op_text K.1.2.1 K.2.2.1.2.2.1 cI cS a b x hI (by omega)
  refine v_aload_n h pL_law_24 9 rfl 2 rfl rfl ?_
  refine v_callV h pL_law_24 10 mL_146 (As := []) (st := []) hC (exA_B x) (exA_C hx) emb_lc 0 rfl rfl rfl rfl rfl rfl rfl (fun v u1 hc => ?_)
  have hv := hc.1
  subst hv
  show V K (lW cI cS a b (u1, (E, K2, Bf, As, Q))) 1179 (lLv a b b0 t) [.int r]
  refine v_aload_n h pL_law_24 11 rfl 1 rfl rfl ?_
  refine v_callV h pL_law_24 12 mL_149 (As := []) (st := [.int r]) hM v0B v0C emb_lm 47 rfl rfl rfl rfl rfl rfl rfl (fun v w1 hm => ?_)
  have hv := hm.1
  subst hv
  show V K (lW cI cS a b (u1, w1)) 1183 (lLv a b b0 t) [.int r, .int r]
  exact v_icmp_eq (tgt := 1534) h pL_law_24 13 rfl rfl (fun _ => kk _ _ (lInv_of hc hm hI1)) (fun z => absurd rfl z)
theorem lc_hold {K : vK} {b0 L : Nat} {xs : Nat → Int32} {cI cS : ClassId} {x : xS} (C : lH K b0 L xs cI cS x) (hL : L ≤ 3072) (a b : Nat → Nat) (t : Nat) (ht : 6 * t + 6 ≤ L) (u : kS) (w : mS) (hI : lInv t u w) (kk : ∀ (u : kS) (w : mS), lInv (t + 1) u w → V K (lW cI cS a b (u, w)) 1534 (lLv a b b0 t) []) : V K (lW cI cS a b (u, w)) 1188 (lLv a b b0 t) [] := by
  obtain ⟨h, hnL, X, hb, hA, hx⟩ := C
  obtain ⟨E, T, Kp, P, S, F⟩ := u
  obtain ⟨E', K2, Bf, As, Q⟩ := w
  obtain ⟨e, hI⟩ := hI
  have e : E = E' := e
  subst e
  obtain ⟨r, E1, Kp1, P1, S1, F1, K1, Q1, hC, hM, hI1⟩ := op_hold K.1.2.1 K.2.2.1.2.2.1 cI cS a b x hI (by omega) (xs (6 * t + 1)) (xs (6 * t + 2))
  refine v_aload_n h pL_law_24 16 rfl 2 rfl rfl ?_
  refine v_aload_n h pL_law_24 17 rfl 3 rfl rfl ?_
  refine v_iload_n h pL_law_24 18 rfl 0 rfl rfl ?_
  refine v_iconst h pL_law_24 19 rfl ki_1 ?_
  refine v_iadd h pL_law_24 20 rfl ?_
  refine v_sld h pL_law_24 21 X hb hA (6 * t + 1) rfl (ix6_1 t) (by omega) hL ?_
  refine v_aload_n h pL_law_24 22 rfl 3 rfl rfl ?_
  refine v_iload_n h pL_law_24 23 rfl 0 rfl rfl ?_
  refine v_iconst h pL_law_24 24 rfl ki_2 ?_
  refine v_iadd h pL_law_24 25 rfl ?_
  refine v_sld h pL_law_24 26 X hb hA (6 * t + 2) rfl (ix6_2 t) (by omega) hL ?_
  refine v_callV h pL_law_24 27 mL_150 (As := [.int (xs (6 * t + 1)), .int (xs (6 * t + 2))]) (st := []) hC v0B v0C emb_lc 0 rfl rfl rfl rfl rfl rfl rfl (fun v u1 hc => ?_)
  have hv := hc.1
  subst hv
  show V K (lW cI cS a b (u1, (E, K2, Bf, As, Q))) 1202 (lLv a b b0 t) [.int r]
  refine v_aload_n h pL_law_24 28 rfl 1 rfl rfl ?_
  refine v_aload_n h pL_law_24 29 rfl 3 rfl rfl ?_
  refine v_iload_n h pL_law_24 30 rfl 0 rfl rfl ?_
  refine v_iconst h pL_law_24 31 rfl ki_1 ?_
  refine v_iadd h pL_law_25 0 rfl ?_
  refine v_sld h pL_law_25 1 X hb hA (6 * t + 1) rfl (ix6_1 t) (by omega) hL ?_
  refine v_aload_n h pL_law_25 2 rfl 3 rfl rfl ?_
  refine v_iload_n h pL_law_25 3 rfl 0 rfl rfl ?_
  refine v_iconst h pL_law_25 4 rfl ki_2 ?_
  refine v_iadd h pL_law_25 5 rfl ?_
  refine v_sld h pL_law_25 6 X hb hA (6 * t + 2) rfl (ix6_2 t) (by omega) hL ?_
  refine v_callV h pL_law_25 7 mL_153 (As := [.int (xs (6 * t + 1)), .int (xs (6 * t + 2))]) (st := [.int r]) hM v0B v0C emb_lm 47 rfl rfl rfl rfl rfl rfl rfl (fun v w1 hm => ?_)
  have hv := hm.1
  subst hv
  show V K (lW cI cS a b (u1, w1)) 1216 (lLv a b b0 t) [.int r, .int r]
  exact v_icmp_eq (tgt := 1534) h pL_law_25 8 rfl rfl (fun _ => kk _ _ (lInv_of hc hm hI1)) (fun z => absurd rfl z)
theorem lc_as {K : vK} {b0 L : Nat} {xs : Nat → Int32} {cI cS : ClassId} {x : xS} (C : lH K b0 L xs cI cS x) (hL : L ≤ 3072) (a b : Nat → Nat) (t : Nat) (ht : 6 * t + 6 ≤ L) (u : kS) (w : mS) (hI : lInv t u w) (kk : ∀ (u : kS) (w : mS), lInv (t + 1) u w → V K (lW cI cS a b (u, w)) 1534 (lLv a b b0 t) []) : V K (lW cI cS a b (u, w)) 1221 (lLv a b b0 t) [] := by
  obtain ⟨h, hnL, X, hb, hA, hx⟩ := C
  obtain ⟨E, T, Kp, P, S, F⟩ := u
  obtain ⟨E', K2, Bf, As, Q⟩ := w
  obtain ⟨e, hI⟩ := hI
  have e : E = E' := e
  subst e
  obtain ⟨r, E1, Kp1, P1, S1, F1, K1, Q1, hC, hM, hI1⟩ := op_as K.1.2.1 K.2.2.1.2.2.1 cI cS a b x hI (by omega) (xs (6 * t + 1)) (xs (6 * t + 2))
  refine v_aload_n h pL_law_25 11 rfl 2 rfl rfl ?_
  refine v_aload_n h pL_law_25 12 rfl 3 rfl rfl ?_
  refine v_iload_n h pL_law_25 13 rfl 0 rfl rfl ?_
  refine v_iconst h pL_law_25 14 rfl ki_1 ?_
  refine v_iadd h pL_law_25 15 rfl ?_
  refine v_sld h pL_law_25 16 X hb hA (6 * t + 1) rfl (ix6_1 t) (by omega) hL ?_
  refine v_aload_n h pL_law_25 17 rfl 3 rfl rfl ?_
  refine v_iload_n h pL_law_25 18 rfl 0 rfl rfl ?_
  refine v_iconst h pL_law_25 19 rfl ki_2 ?_
  refine v_iadd h pL_law_25 20 rfl ?_
  refine v_sld h pL_law_25 21 X hb hA (6 * t + 2) rfl (ix6_2 t) (by omega) hL ?_
  refine v_callV h pL_law_25 22 mL_154 (As := [.int (xs (6 * t + 1)), .int (xs (6 * t + 2))]) (st := []) hC (exA_B x) (exA_C hx) emb_lc 0 rfl rfl rfl rfl rfl rfl rfl (fun v u1 hc => ?_)
  have hv := hc.1
  subst hv
  show V K (lW cI cS a b (u1, (E, K2, Bf, As, Q))) 1235 (lLv a b b0 t) [.int r]
  refine v_aload_n h pL_law_25 23 rfl 1 rfl rfl ?_
  refine v_aload_n h pL_law_25 24 rfl 3 rfl rfl ?_
  refine v_iload_n h pL_law_25 25 rfl 0 rfl rfl ?_
  refine v_iconst h pL_law_25 26 rfl ki_1 ?_
  refine v_iadd h pL_law_25 27 rfl ?_
  refine v_sld h pL_law_25 28 X hb hA (6 * t + 1) rfl (ix6_1 t) (by omega) hL ?_
  refine v_aload_n h pL_law_25 29 rfl 3 rfl rfl ?_
  refine v_iload_n h pL_law_25 30 rfl 0 rfl rfl ?_
  refine v_iconst h pL_law_25 31 rfl ki_2 ?_
  refine v_iadd h pL_law_26 0 rfl ?_
  refine v_sld h pL_law_26 1 X hb hA (6 * t + 2) rfl (ix6_2 t) (by omega) hL ?_
  refine v_callV h pL_law_26 2 mL_157 (As := [.int (xs (6 * t + 1)), .int (xs (6 * t + 2))]) (st := [.int r]) hM v0B v0C emb_lm 47 rfl rfl rfl rfl rfl rfl rfl (fun v w1 hm => ?_)
  have hv := hm.1
  subst hv
  show V K (lW cI cS a b (u1, w1)) 1249 (lLv a b b0 t) [.int r, .int r]
  exact v_icmp_eq (tgt := 1534) h pL_law_26 3 rfl rfl (fun _ => kk _ _ (lInv_of hc hm hI1)) (fun z => absurd rfl z)
theorem lc_sheet {K : vK} {b0 L : Nat} {xs : Nat → Int32} {cI cS : ClassId} {x : xS} (C : lH K b0 L xs cI cS x) (hL : L ≤ 3072) (a b : Nat → Nat) (t : Nat) (ht : 6 * t + 6 ≤ L) (u : kS) (w : mS) (hI : lInv t u w) (kk : ∀ (u : kS) (w : mS), lInv (t + 1) u w → V K (lW cI cS a b (u, w)) 1534 (lLv a b b0 t) []) : V K (lW cI cS a b (u, w)) 1254 (lLv a b b0 t) [] := by
  obtain ⟨h, hnL, X, hb, hA, hx⟩ := C
  obtain ⟨E, T, Kp, P, S, F⟩ := u
  obtain ⟨E', K2, Bf, As, Q⟩ := w
  obtain ⟨e, hI⟩ := hI
  have e : E = E' := e
  subst e
  obtain ⟨r, E1, Kp1, P1, S1, F1, K1, Q1, hC, hM, hI1⟩ := op_sheet K.1.2.1 K.2.2.1.2.2.1 cI cS a b x hI (by omega) (xs (6 * t + 1)) (xs (6 * t + 2)) (xs (6 * t + 3))
  refine v_aload_n h pL_law_26 6 rfl 2 rfl rfl ?_
  refine v_aload_n h pL_law_26 7 rfl 3 rfl rfl ?_
  refine v_iload_n h pL_law_26 8 rfl 0 rfl rfl ?_
  refine v_iconst h pL_law_26 9 rfl ki_1 ?_
  refine v_iadd h pL_law_26 10 rfl ?_
  refine v_sld h pL_law_26 11 X hb hA (6 * t + 1) rfl (ix6_1 t) (by omega) hL ?_
  refine v_aload_n h pL_law_26 12 rfl 3 rfl rfl ?_
  refine v_iload_n h pL_law_26 13 rfl 0 rfl rfl ?_
  refine v_iconst h pL_law_26 14 rfl ki_2 ?_
  refine v_iadd h pL_law_26 15 rfl ?_
  refine v_sld h pL_law_26 16 X hb hA (6 * t + 2) rfl (ix6_2 t) (by omega) hL ?_
  refine v_aload_n h pL_law_26 17 rfl 3 rfl rfl ?_
  refine v_iload_n h pL_law_26 18 rfl 0 rfl rfl ?_
  refine v_iconst h pL_law_26 19 rfl ki_3 ?_
  refine v_iadd h pL_law_26 20 rfl ?_
  refine v_sld h pL_law_26 21 X hb hA (6 * t + 3) rfl (ix6_3 t) (by omega) hL ?_
  refine v_callV h pL_law_26 22 mL_158 (As := [.int (xs (6 * t + 1)), .int (xs (6 * t + 2)), .int (xs (6 * t + 3))]) (st := []) hC v0B v0C emb_lc 0 rfl rfl rfl rfl rfl rfl rfl (fun v u1 hc => ?_)
  have hv := hc.1
  subst hv
  show V K (lW cI cS a b (u1, (E, K2, Bf, As, Q))) 1273 (lLv a b b0 t) [.int r]
  refine v_aload_n h pL_law_26 23 rfl 1 rfl rfl ?_
  refine v_aload_n h pL_law_26 24 rfl 3 rfl rfl ?_
  refine v_iload_n h pL_law_26 25 rfl 0 rfl rfl ?_
  refine v_iconst h pL_law_26 26 rfl ki_1 ?_
  refine v_iadd h pL_law_26 27 rfl ?_
  refine v_sld h pL_law_26 28 X hb hA (6 * t + 1) rfl (ix6_1 t) (by omega) hL ?_
  refine v_aload_n h pL_law_26 29 rfl 3 rfl rfl ?_
  refine v_iload_n h pL_law_26 30 rfl 0 rfl rfl ?_
  refine v_iconst h pL_law_26 31 rfl ki_2 ?_
  refine v_iadd h pL_law_27 0 rfl ?_
  refine v_sld h pL_law_27 1 X hb hA (6 * t + 2) rfl (ix6_2 t) (by omega) hL ?_
  refine v_aload_n h pL_law_27 2 rfl 3 rfl rfl ?_
  refine v_iload_n h pL_law_27 3 rfl 0 rfl rfl ?_
  refine v_iconst h pL_law_27 4 rfl ki_3 ?_
  refine v_iadd h pL_law_27 5 rfl ?_
  refine v_sld h pL_law_27 6 X hb hA (6 * t + 3) rfl (ix6_3 t) (by omega) hL ?_
  refine v_callV h pL_law_27 7 mL_161 (As := [.int (xs (6 * t + 1)), .int (xs (6 * t + 2)), .int (xs (6 * t + 3))]) (st := [.int r]) hM v0B v0C emb_lm 47 rfl rfl rfl rfl rfl rfl rfl (fun v w1 hm => ?_)
  have hv := hm.1
  subst hv
  show V K (lW cI cS a b (u1, w1)) 1292 (lLv a b b0 t) [.int r, .int r]
  exact v_icmp_eq (tgt := 1534) h pL_law_27 8 rfl rfl (fun _ => kk _ _ (lInv_of hc hm hI1)) (fun z => absurd rfl z)
theorem lc_write {K : vK} {b0 L : Nat} {xs : Nat → Int32} {cI cS : ClassId} {x : xS} (C : lH K b0 L xs cI cS x) (hL : L ≤ 3072) (a b : Nat → Nat) (t : Nat) (ht : 6 * t + 6 ≤ L) (u : kS) (w : mS) (hI : lInv t u w) (kk : ∀ (u : kS) (w : mS), lInv (t + 1) u w → V K (lW cI cS a b (u, w)) 1534 (lLv a b b0 t) []) : V K (lW cI cS a b (u, w)) 1297 (lLv a b b0 t) [] := by
  obtain ⟨h, hnL, X, hb, hA, hx⟩ := C
  obtain ⟨E, T, Kp, P, S, F⟩ := u
  obtain ⟨E', K2, Bf, As, Q⟩ := w
  obtain ⟨e, hI⟩ := hI
  have e : E = E' := e
  subst e
  obtain ⟨r, E1, Kp1, P1, S1, F1, K1, Q1, hC, hM, hI1⟩ := op_write K.1.2.1 K.2.2.1.2.2.1 cI cS a b x hI (by omega) (xs (6 * t + 1)) (xs (6 * t + 2)) (xs (6 * t + 3))
  refine v_aload_n h pL_law_27 11 rfl 2 rfl rfl ?_
  refine v_aload_n h pL_law_27 12 rfl 3 rfl rfl ?_
  refine v_iload_n h pL_law_27 13 rfl 0 rfl rfl ?_
  refine v_iconst h pL_law_27 14 rfl ki_1 ?_
  refine v_iadd h pL_law_27 15 rfl ?_
  refine v_sld h pL_law_27 16 X hb hA (6 * t + 1) rfl (ix6_1 t) (by omega) hL ?_
  refine v_aload_n h pL_law_27 17 rfl 3 rfl rfl ?_
  refine v_iload_n h pL_law_27 18 rfl 0 rfl rfl ?_
  refine v_iconst h pL_law_27 19 rfl ki_2 ?_
  refine v_iadd h pL_law_27 20 rfl ?_
  refine v_sld h pL_law_27 21 X hb hA (6 * t + 2) rfl (ix6_2 t) (by omega) hL ?_
  refine v_aload_n h pL_law_27 22 rfl 3 rfl rfl ?_
  refine v_iload_n h pL_law_27 23 rfl 0 rfl rfl ?_
  refine v_iconst h pL_law_27 24 rfl ki_3 ?_
  refine v_iadd h pL_law_27 25 rfl ?_
  refine v_sld h pL_law_27 26 X hb hA (6 * t + 3) rfl (ix6_3 t) (by omega) hL ?_
  refine v_callV h pL_law_27 27 mL_162 (As := [.int (xs (6 * t + 1)), .int (xs (6 * t + 2)), .int (xs (6 * t + 3))]) (st := []) hC v0B v0C emb_lc 0 rfl rfl rfl rfl rfl rfl rfl (fun v u1 hc => ?_)
  have hv := hc.1
  subst hv
  show V K (lW cI cS a b (u1, (E, K2, Bf, As, Q))) 1316 (lLv a b b0 t) [.int r]
  refine v_aload_n h pL_law_27 28 rfl 1 rfl rfl ?_
  refine v_aload_n h pL_law_27 29 rfl 3 rfl rfl ?_
  refine v_iload_n h pL_law_27 30 rfl 0 rfl rfl ?_
  refine v_iconst h pL_law_27 31 rfl ki_1 ?_
  refine v_iadd h pL_law_28 0 rfl ?_
  refine v_sld h pL_law_28 1 X hb hA (6 * t + 1) rfl (ix6_1 t) (by omega) hL ?_
  refine v_aload_n h pL_law_28 2 rfl 3 rfl rfl ?_
  refine v_iload_n h pL_law_28 3 rfl 0 rfl rfl ?_
  refine v_iconst h pL_law_28 4 rfl ki_2 ?_
  refine v_iadd h pL_law_28 5 rfl ?_
  refine v_sld h pL_law_28 6 X hb hA (6 * t + 2) rfl (ix6_2 t) (by omega) hL ?_
  refine v_aload_n h pL_law_28 7 rfl 3 rfl rfl ?_
  refine v_iload_n h pL_law_28 8 rfl 0 rfl rfl ?_
  refine v_iconst h pL_law_28 9 rfl ki_3 ?_
  refine v_iadd h pL_law_28 10 rfl ?_
  refine v_sld h pL_law_28 11 X hb hA (6 * t + 3) rfl (ix6_3 t) (by omega) hL ?_
  refine v_callV h pL_law_28 12 mL_165 (As := [.int (xs (6 * t + 1)), .int (xs (6 * t + 2)), .int (xs (6 * t + 3))]) (st := [.int r]) hM v0B v0C emb_lm 47 rfl rfl rfl rfl rfl rfl rfl (fun v w1 hm => ?_)
  have hv := hm.1
  subst hv
  show V K (lW cI cS a b (u1, w1)) 1335 (lLv a b b0 t) [.int r, .int r]
  exact v_icmp_eq (tgt := 1534) h pL_law_28 13 rfl rfl (fun _ => kk _ _ (lInv_of hc hm hI1)) (fun z => absurd rfl z)
theorem lc_copy {K : vK} {b0 L : Nat} {xs : Nat → Int32} {cI cS : ClassId} {x : xS} (C : lH K b0 L xs cI cS x) (hL : L ≤ 3072) (a b : Nat → Nat) (t : Nat) (ht : 6 * t + 6 ≤ L) (u : kS) (w : mS) (hI : lInv t u w) (kk : ∀ (u : kS) (w : mS), lInv (t + 1) u w → V K (lW cI cS a b (u, w)) 1534 (lLv a b b0 t) []) : V K (lW cI cS a b (u, w)) 1340 (lLv a b b0 t) [] := by
  obtain ⟨h, hnL, X, hb, hA, hx⟩ := C
  obtain ⟨E, T, Kp, P, S, F⟩ := u
  obtain ⟨E', K2, Bf, As, Q⟩ := w
  obtain ⟨e, hI⟩ := hI
  have e : E = E' := e
  subst e
  obtain ⟨r, E1, Kp1, P1, S1, F1, K1, Q1, hC, hM, hI1⟩ := op_copy K.1.2.1 K.2.2.1.2.2.1 cI cS a b x hI (by omega) (xs (6 * t + 1)) (xs (6 * t + 2)) (xs (6 * t + 3)) (xs (6 * t + 4)) (xs (6 * t + 5))
  refine v_aload_n h pL_law_28 16 rfl 2 rfl rfl ?_
  refine v_aload_n h pL_law_28 17 rfl 3 rfl rfl ?_
  refine v_iload_n h pL_law_28 18 rfl 0 rfl rfl ?_
  refine v_iconst h pL_law_28 19 rfl ki_1 ?_
  refine v_iadd h pL_law_28 20 rfl ?_
  refine v_sld h pL_law_28 21 X hb hA (6 * t + 1) rfl (ix6_1 t) (by omega) hL ?_
  refine v_aload_n h pL_law_28 22 rfl 3 rfl rfl ?_
  refine v_iload_n h pL_law_28 23 rfl 0 rfl rfl ?_
  refine v_iconst h pL_law_28 24 rfl ki_2 ?_
  refine v_iadd h pL_law_28 25 rfl ?_
  refine v_sld h pL_law_28 26 X hb hA (6 * t + 2) rfl (ix6_2 t) (by omega) hL ?_
  refine v_aload_n h pL_law_28 27 rfl 3 rfl rfl ?_
  refine v_iload_n h pL_law_28 28 rfl 0 rfl rfl ?_
  refine v_iconst h pL_law_28 29 rfl ki_3 ?_
  refine v_iadd h pL_law_28 30 rfl ?_
  refine v_sld h pL_law_28 31 X hb hA (6 * t + 3) rfl (ix6_3 t) (by omega) hL ?_
  refine v_aload_n h pL_law_29 0 rfl 3 rfl rfl ?_
  refine v_iload_n h pL_law_29 1 rfl 0 rfl rfl ?_
  refine v_iconst h pL_law_29 2 rfl ki_4 ?_
  refine v_iadd h pL_law_29 3 rfl ?_
  refine v_sld h pL_law_29 4 X hb hA (6 * t + 4) rfl (ix6_4 t) (by omega) hL ?_
  refine v_aload_n h pL_law_29 5 rfl 3 rfl rfl ?_
  refine v_iload_n h pL_law_29 6 rfl 0 rfl rfl ?_
  refine v_iconst h pL_law_29 7 rfl ki_5 ?_
  refine v_iadd h pL_law_29 8 rfl ?_
  refine v_sld h pL_law_29 9 X hb hA (6 * t + 5) rfl (ix6_5 t) (by omega) hL ?_
  refine v_callV h pL_law_29 10 mL_166 (As := [.int (xs (6 * t + 1)), .int (xs (6 * t + 2)), .int (xs (6 * t + 3)), .int (xs (6 * t + 4)), .int (xs (6 * t + 5))]) (st := []) hC v0B v0C emb_lc 0 rfl rfl rfl rfl rfl rfl rfl (fun v u1 hc => ?_)
  have hv := hc.1
  subst hv
  show V K (lW cI cS a b (u1, (E, K2, Bf, As, Q))) 1369 (lLv a b b0 t) [.int r]
  refine v_aload_n h pL_law_29 11 rfl 1 rfl rfl ?_
  refine v_aload_n h pL_law_29 12 rfl 3 rfl rfl ?_
  refine v_iload_n h pL_law_29 13 rfl 0 rfl rfl ?_
  refine v_iconst h pL_law_29 14 rfl ki_1 ?_
  refine v_iadd h pL_law_29 15 rfl ?_
  refine v_sld h pL_law_29 16 X hb hA (6 * t + 1) rfl (ix6_1 t) (by omega) hL ?_
  refine v_aload_n h pL_law_29 17 rfl 3 rfl rfl ?_
  refine v_iload_n h pL_law_29 18 rfl 0 rfl rfl ?_
  refine v_iconst h pL_law_29 19 rfl ki_2 ?_
  refine v_iadd h pL_law_29 20 rfl ?_
  refine v_sld h pL_law_29 21 X hb hA (6 * t + 2) rfl (ix6_2 t) (by omega) hL ?_
  refine v_aload_n h pL_law_29 22 rfl 3 rfl rfl ?_
  refine v_iload_n h pL_law_29 23 rfl 0 rfl rfl ?_
  refine v_iconst h pL_law_29 24 rfl ki_3 ?_
  refine v_iadd h pL_law_29 25 rfl ?_
  refine v_sld h pL_law_29 26 X hb hA (6 * t + 3) rfl (ix6_3 t) (by omega) hL ?_
  refine v_aload_n h pL_law_29 27 rfl 3 rfl rfl ?_
  refine v_iload_n h pL_law_29 28 rfl 0 rfl rfl ?_
  refine v_iconst h pL_law_29 29 rfl ki_4 ?_
  refine v_iadd h pL_law_29 30 rfl ?_
  refine v_sld h pL_law_29 31 X hb hA (6 * t + 4) rfl (ix6_4 t) (by omega) hL ?_
  refine v_aload_n h pL_law_30 0 rfl 3 rfl rfl ?_
  refine v_iload_n h pL_law_30 1 rfl 0 rfl rfl ?_
  refine v_iconst h pL_law_30 2 rfl ki_5 ?_
  refine v_iadd h pL_law_30 3 rfl ?_
  refine v_sld h pL_law_30 4 X hb hA (6 * t + 5) rfl (ix6_5 t) (by omega) hL ?_
  refine v_callV h pL_law_30 5 mL_170 (As := [.int (xs (6 * t + 1)), .int (xs (6 * t + 2)), .int (xs (6 * t + 3)), .int (xs (6 * t + 4)), .int (xs (6 * t + 5))]) (st := [.int r]) hM v0B v0C emb_lm 47 rfl rfl rfl rfl rfl rfl rfl (fun v w1 hm => ?_)
  have hv := hm.1
  subst hv
  show V K (lW cI cS a b (u1, w1)) 1398 (lLv a b b0 t) [.int r, .int r]
  exact v_icmp_eq (tgt := 1534) h pL_law_30 6 rfl rfl (fun _ => kk _ _ (lInv_of hc hm hI1)) (fun z => absurd rfl z)
theorem lc_load {K : vK} {b0 L : Nat} {xs : Nat → Int32} {cI cS : ClassId} {x : xS} (C : lH K b0 L xs cI cS x) (hL : L ≤ 3072) (a b : Nat → Nat) (t : Nat) (ht : 6 * t + 6 ≤ L) (u : kS) (w : mS) (hI : lInv t u w) (kk : ∀ (u : kS) (w : mS), lInv (t + 1) u w → V K (lW cI cS a b (u, w)) 1534 (lLv a b b0 t) []) : V K (lW cI cS a b (u, w)) 1403 (lLv a b b0 t) [] := by
  obtain ⟨h, hnL, X, hb, hA, hx⟩ := C
  obtain ⟨E, T, Kp, P, S, F⟩ := u
  obtain ⟨E', K2, Bf, As, Q⟩ := w
  obtain ⟨e, hI⟩ := hI
  have e : E = E' := e
  subst e
  obtain ⟨r, E1, Kp1, P1, S1, F1, K1, Q1, hC, hM, hI1⟩ := op_load K.1.2.1 K.2.2.1.2.2.1 cI cS a b x hI (by omega) (xs (6 * t + 1))
  refine v_aload_n h pL_law_30 9 rfl 2 rfl rfl ?_
  refine v_aload_n h pL_law_30 10 rfl 3 rfl rfl ?_
  refine v_iload_n h pL_law_30 11 rfl 0 rfl rfl ?_
  refine v_iconst h pL_law_30 12 rfl ki_1 ?_
  refine v_iadd h pL_law_30 13 rfl ?_
  refine v_sld h pL_law_30 14 X hb hA (6 * t + 1) rfl (ix6_1 t) (by omega) hL ?_
  refine v_callV h pL_law_30 15 mL_171 (As := [.int (xs (6 * t + 1))]) (st := []) hC v0B v0C emb_lc 0 rfl rfl rfl rfl rfl rfl rfl (fun v u1 hc => ?_)
  have hv := hc.1
  subst hv
  show V K (lW cI cS a b (u1, (E, K2, Bf, As, Q))) 1412 (lLv a b b0 t) [.int r]
  refine v_aload_n h pL_law_30 16 rfl 1 rfl rfl ?_
  refine v_aload_n h pL_law_30 17 rfl 3 rfl rfl ?_
  refine v_iload_n h pL_law_30 18 rfl 0 rfl rfl ?_
  refine v_iconst h pL_law_30 19 rfl ki_1 ?_
  refine v_iadd h pL_law_30 20 rfl ?_
  refine v_sld h pL_law_30 21 X hb hA (6 * t + 1) rfl (ix6_1 t) (by omega) hL ?_
  refine v_callV h pL_law_30 22 mL_174 (As := [.int (xs (6 * t + 1))]) (st := [.int r]) hM v0B v0C emb_lm 47 rfl rfl rfl rfl rfl rfl rfl (fun v w1 hm => ?_)
  have hv := hm.1
  subst hv
  show V K (lW cI cS a b (u1, w1)) 1421 (lLv a b b0 t) [.int r, .int r]
  exact v_icmp_eq (tgt := 1534) h pL_law_30 23 rfl rfl (fun _ => kk _ _ (lInv_of hc hm hI1)) (fun z => absurd rfl z)
theorem lc_judge {K : vK} {b0 L : Nat} {xs : Nat → Int32} {cI cS : ClassId} {x : xS} (C : lH K b0 L xs cI cS x) (hL : L ≤ 3072) (a b : Nat → Nat) (t : Nat) (ht : 6 * t + 6 ≤ L) (u : kS) (w : mS) (hI : lInv t u w) (kk : ∀ (u : kS) (w : mS), lInv (t + 1) u w → V K (lW cI cS a b (u, w)) 1534 (lLv a b b0 t) []) : V K (lW cI cS a b (u, w)) 1426 (lLv a b b0 t) [] := by
  obtain ⟨h, hnL, X, hb, hA, hx⟩ := C
  obtain ⟨E, T, Kp, P, S, F⟩ := u
  obtain ⟨E', K2, Bf, As, Q⟩ := w
  obtain ⟨e, hI⟩ := hI
  have e : E = E' := e
  subst e
  obtain ⟨r, E1, Kp1, P1, S1, F1, K1, Q1, hC, hM, hI1⟩ := op_judge K.1.2.1 K.2.2.1.2.2.1 cI cS a b x hI (by omega) (xs (6 * t + 1))
  refine v_aload_n h pL_law_30 26 rfl 2 rfl rfl ?_
  refine v_aload_n h pL_law_30 27 rfl 3 rfl rfl ?_
  refine v_iload_n h pL_law_30 28 rfl 0 rfl rfl ?_
  refine v_iconst h pL_law_30 29 rfl ki_1 ?_
  refine v_iadd h pL_law_30 30 rfl ?_
  refine v_sld h pL_law_30 31 X hb hA (6 * t + 1) rfl (ix6_1 t) (by omega) hL ?_
  refine v_callV h pL_law_31 0 mL_175 (As := [.int (xs (6 * t + 1))]) (st := []) hC v0B v0C emb_lc 0 rfl rfl rfl rfl rfl rfl rfl (fun v u1 hc => ?_)
  have hv := hc.1
  subst hv
  show V K (lW cI cS a b (u1, (E, K2, Bf, As, Q))) 1435 (lLv a b b0 t) [.int r]
  refine v_aload_n h pL_law_31 1 rfl 1 rfl rfl ?_
  refine v_aload_n h pL_law_31 2 rfl 3 rfl rfl ?_
  refine v_iload_n h pL_law_31 3 rfl 0 rfl rfl ?_
  refine v_iconst h pL_law_31 4 rfl ki_1 ?_
  refine v_iadd h pL_law_31 5 rfl ?_
  refine v_sld h pL_law_31 6 X hb hA (6 * t + 1) rfl (ix6_1 t) (by omega) hL ?_
  refine v_callV h pL_law_31 7 mL_178 (As := [.int (xs (6 * t + 1))]) (st := [.int r]) hM v0B v0C emb_lm 47 rfl rfl rfl rfl rfl rfl rfl (fun v w1 hm => ?_)
  have hv := hm.1
  subst hv
  show V K (lW cI cS a b (u1, w1)) 1444 (lLv a b b0 t) [.int r, .int r]
  exact v_icmp_eq (tgt := 1534) h pL_law_31 8 rfl rfl (fun _ => kk _ _ (lInv_of hc hm hI1)) (fun z => absurd rfl z)
theorem lc_image {K : vK} {b0 L : Nat} {xs : Nat → Int32} {cI cS : ClassId} {x : xS} (C : lH K b0 L xs cI cS x) (hL : L ≤ 3072) (a b : Nat → Nat) (t : Nat) (ht : 6 * t + 6 ≤ L) (u : kS) (w : mS) (hI : lInv t u w) (kk : ∀ (u : kS) (w : mS), lInv (t + 1) u w → V K (lW cI cS a b (u, w)) 1534 (lLv a b b0 t) []) : V K (lW cI cS a b (u, w)) 1449 (lLv a b b0 t) [] := by
  obtain ⟨h, hnL, X, hb, hA, hx⟩ := C
  obtain ⟨E, T, Kp, P, S, F⟩ := u
  obtain ⟨E', K2, Bf, As, Q⟩ := w
  obtain ⟨e, hI⟩ := hI
  have e : E = E' := e
  subst e
  obtain ⟨r, E1, Kp1, P1, S1, F1, K1, Q1, hC, hM, hI1⟩ := op_image K.1.2.1 K.2.2.1.2.2.1 cI cS a b x hI (by omega)
  refine v_aload_n h pL_law_31 11 rfl 2 rfl rfl ?_
  refine v_callV h pL_law_31 12 mL_179 (As := []) (st := []) hC v0B v0C emb_lc 0 rfl rfl rfl rfl rfl rfl rfl (fun v u1 hc => ?_)
  have hv := hc.1
  subst hv
  show V K (lW cI cS a b (u1, (E, K2, Bf, As, Q))) 1453 (lLv a b b0 t) [.int r]
  refine v_aload_n h pL_law_31 13 rfl 1 rfl rfl ?_
  refine v_callV h pL_law_31 14 mL_182 (As := []) (st := [.int r]) hM v0B v0C emb_lm 47 rfl rfl rfl rfl rfl rfl rfl (fun v w1 hm => ?_)
  have hv := hm.1
  subst hv
  show V K (lW cI cS a b (u1, w1)) 1457 (lLv a b b0 t) [.int r, .int r]
  exact v_icmp_eq (tgt := 1534) h pL_law_31 15 rfl rfl (fun _ => kk _ _ (lInv_of hc hm hI1)) (fun z => absurd rfl z)
theorem lc_undo {K : vK} {b0 L : Nat} {xs : Nat → Int32} {cI cS : ClassId} {x : xS} (C : lH K b0 L xs cI cS x) (hL : L ≤ 3072) (a b : Nat → Nat) (t : Nat) (ht : 6 * t + 6 ≤ L) (u : kS) (w : mS) (hI : lInv t u w) (kk : ∀ (u : kS) (w : mS), lInv (t + 1) u w → V K (lW cI cS a b (u, w)) 1534 (lLv a b b0 t) []) : V K (lW cI cS a b (u, w)) 1462 (lLv a b b0 t) [] := by
  obtain ⟨h, hnL, X, hb, hA, hx⟩ := C
  obtain ⟨E, T, Kp, P, S, F⟩ := u
  obtain ⟨E', K2, Bf, As, Q⟩ := w
  obtain ⟨e, hI⟩ := hI
  have e : E = E' := e
  subst e
  obtain ⟨r, E1, Kp1, P1, S1, F1, K1, Q1, hC, hM, hI1⟩ := op_undo K.1.2.1 K.2.2.1.2.2.1 cI cS a b x hI (by omega)
  refine v_aload_n h pL_law_31 18 rfl 2 rfl rfl ?_
  refine v_callV h pL_law_31 19 mL_183 (As := []) (st := []) hC v0B v0C emb_lc 0 rfl rfl rfl rfl rfl rfl rfl (fun v u1 hc => ?_)
  have hv := hc.1
  subst hv
  show V K (lW cI cS a b (u1, (E, K2, Bf, As, Q))) 1466 (lLv a b b0 t) [.int r]
  refine v_aload_n h pL_law_31 20 rfl 1 rfl rfl ?_
  refine v_callV h pL_law_31 21 mL_186 (As := []) (st := [.int r]) hM v0B v0C emb_lm 47 rfl rfl rfl rfl rfl rfl rfl (fun v w1 hm => ?_)
  have hv := hm.1
  subst hv
  show V K (lW cI cS a b (u1, w1)) 1470 (lLv a b b0 t) [.int r, .int r]
  exact v_icmp_eq (tgt := 1534) h pL_law_31 22 rfl rfl (fun _ => kk _ _ (lInv_of hc hm hI1)) (fun z => absurd rfl z)
theorem lc_tear {K : vK} {b0 L : Nat} {xs : Nat → Int32} {cI cS : ClassId} {x : xS} (C : lH K b0 L xs cI cS x) (hL : L ≤ 3072) (a b : Nat → Nat) (t : Nat) (ht : 6 * t + 6 ≤ L) (u : kS) (w : mS) (hI : lInv t u w) (kk : ∀ (u : kS) (w : mS), lInv (t + 1) u w → V K (lW cI cS a b (u, w)) 1534 (lLv a b b0 t) []) : V K (lW cI cS a b (u, w)) 1475 (lLv a b b0 t) [] := by
  obtain ⟨h, hnL, X, hb, hA, hx⟩ := C
  obtain ⟨E, T, Kp, P, S, F⟩ := u
  obtain ⟨E', K2, Bf, As, Q⟩ := w
  obtain ⟨e, hI⟩ := hI
  have e : E = E' := e
  subst e
  obtain ⟨r, E1, Kp1, P1, S1, F1, K1, Q1, hC, hM, hI1⟩ := op_tear K.1.2.1 K.2.2.1.2.2.1 cI cS a b x hI (by omega)
  refine v_aload_n h pL_law_31 25 rfl 2 rfl rfl ?_
  refine v_callV h pL_law_31 26 mL_187 (As := []) (st := []) hC v0B v0C emb_lc 0 rfl rfl rfl rfl rfl rfl rfl (fun v u1 hc => ?_)
  have hv := hc.1
  subst hv
  show V K (lW cI cS a b (u1, (E, K2, Bf, As, Q))) 1479 (lLv a b b0 t) [.int r]
  refine v_aload_n h pL_law_31 27 rfl 1 rfl rfl ?_
  refine v_callV h pL_law_31 28 mL_190 (As := []) (st := [.int r]) hM v0B v0C emb_lm 47 rfl rfl rfl rfl rfl rfl rfl (fun v w1 hm => ?_)
  have hv := hm.1
  subst hv
  show V K (lW cI cS a b (u1, w1)) 1483 (lLv a b b0 t) [.int r, .int r]
  exact v_icmp_eq (tgt := 1534) h pL_law_31 29 rfl rfl (fun _ => kk _ _ (lInv_of hc hm hI1)) (fun z => absurd rfl z)
theorem lc_count {K : vK} {b0 L : Nat} {xs : Nat → Int32} {cI cS : ClassId} {x : xS} (C : lH K b0 L xs cI cS x) (hL : L ≤ 3072) (a b : Nat → Nat) (t : Nat) (ht : 6 * t + 6 ≤ L) (u : kS) (w : mS) (hI : lInv t u w) (kk : ∀ (u : kS) (w : mS), lInv (t + 1) u w → V K (lW cI cS a b (u, w)) 1534 (lLv a b b0 t) []) : V K (lW cI cS a b (u, w)) 1488 (lLv a b b0 t) [] := by
  obtain ⟨h, hnL, X, hb, hA, hx⟩ := C
  obtain ⟨E, T, Kp, P, S, F⟩ := u
  obtain ⟨E', K2, Bf, As, Q⟩ := w
  obtain ⟨e, hI⟩ := hI
  have e : E = E' := e
  subst e
  obtain ⟨r, E1, Kp1, P1, S1, F1, K1, Q1, hC, hM, hI1⟩ := op_count K.1.2.1 K.2.2.1.2.2.1 cI cS a b x hI (by omega) (xs (6 * t + 1))
  refine v_aload_n h pL_law_32 0 rfl 2 rfl rfl ?_
  refine v_aload_n h pL_law_32 1 rfl 3 rfl rfl ?_
  refine v_iload_n h pL_law_32 2 rfl 0 rfl rfl ?_
  refine v_iconst h pL_law_32 3 rfl ki_1 ?_
  refine v_iadd h pL_law_32 4 rfl ?_
  refine v_sld h pL_law_32 5 X hb hA (6 * t + 1) rfl (ix6_1 t) (by omega) hL ?_
  refine v_callV h pL_law_32 6 mL_191 (As := [.int (xs (6 * t + 1))]) (st := []) hC v0B v0C emb_lc 0 rfl rfl rfl rfl rfl rfl rfl (fun v u1 hc => ?_)
  have hv := hc.1
  subst hv
  show V K (lW cI cS a b (u1, (E, K2, Bf, As, Q))) 1497 (lLv a b b0 t) [.int r]
  refine v_aload_n h pL_law_32 7 rfl 1 rfl rfl ?_
  refine v_aload_n h pL_law_32 8 rfl 3 rfl rfl ?_
  refine v_iload_n h pL_law_32 9 rfl 0 rfl rfl ?_
  refine v_iconst h pL_law_32 10 rfl ki_1 ?_
  refine v_iadd h pL_law_32 11 rfl ?_
  refine v_sld h pL_law_32 12 X hb hA (6 * t + 1) rfl (ix6_1 t) (by omega) hL ?_
  refine v_callV h pL_law_32 13 mL_194 (As := [.int (xs (6 * t + 1))]) (st := [.int r]) hM v0B v0C emb_lm 47 rfl rfl rfl rfl rfl rfl rfl (fun v w1 hm => ?_)
  have hv := hm.1
  subst hv
  show V K (lW cI cS a b (u1, w1)) 1506 (lLv a b b0 t) [.int r, .int r]
  exact v_icmp_eq (tgt := 1534) h pL_law_32 14 rfl rfl (fun _ => kk _ _ (lInv_of hc hm hI1)) (fun z => absurd rfl z)
theorem lc_status {K : vK} {b0 L : Nat} {xs : Nat → Int32} {cI cS : ClassId} {x : xS} (C : lH K b0 L xs cI cS x) (hL : L ≤ 3072) (a b : Nat → Nat) (t : Nat) (ht : 6 * t + 6 ≤ L) (u : kS) (w : mS) (hI : lInv t u w) (kk : ∀ (u : kS) (w : mS), lInv (t + 1) u w → V K (lW cI cS a b (u, w)) 1534 (lLv a b b0 t) []) : V K (lW cI cS a b (u, w)) 1511 (lLv a b b0 t) [] := by
  obtain ⟨h, hnL, X, hb, hA, hx⟩ := C
  obtain ⟨E, T, Kp, P, S, F⟩ := u
  obtain ⟨E', K2, Bf, As, Q⟩ := w
  obtain ⟨e, hI⟩ := hI
  have e : E = E' := e
  subst e
  obtain ⟨r, E1, Kp1, P1, S1, F1, K1, Q1, hC, hM, hI1⟩ := op_status K.1.2.1 K.2.2.1.2.2.1 cI cS a b x hI (by omega) (xs (6 * t + 1))
  refine v_aload_n h pL_law_32 17 rfl 2 rfl rfl ?_
  refine v_aload_n h pL_law_32 18 rfl 3 rfl rfl ?_
  refine v_iload_n h pL_law_32 19 rfl 0 rfl rfl ?_
  refine v_iconst h pL_law_32 20 rfl ki_1 ?_
  refine v_iadd h pL_law_32 21 rfl ?_
  refine v_sld h pL_law_32 22 X hb hA (6 * t + 1) rfl (ix6_1 t) (by omega) hL ?_
  refine v_callV h pL_law_32 23 mL_195 (As := [.int (xs (6 * t + 1))]) (st := []) hC v0B v0C emb_lc 0 rfl rfl rfl rfl rfl rfl rfl (fun v u1 hc => ?_)
  have hv := hc.1
  subst hv
  show V K (lW cI cS a b (u1, (E, K2, Bf, As, Q))) 1520 (lLv a b b0 t) [.int r]
  refine v_aload_n h pL_law_32 24 rfl 1 rfl rfl ?_
  refine v_aload_n h pL_law_32 25 rfl 3 rfl rfl ?_
  refine v_iload_n h pL_law_32 26 rfl 0 rfl rfl ?_
  refine v_iconst h pL_law_32 27 rfl ki_1 ?_
  refine v_iadd h pL_law_32 28 rfl ?_
  refine v_sld h pL_law_32 29 X hb hA (6 * t + 1) rfl (ix6_1 t) (by omega) hL ?_
  refine v_callV h pL_law_32 30 mL_198 (As := [.int (xs (6 * t + 1))]) (st := [.int r]) hM v0B v0C emb_lm 47 rfl rfl rfl rfl rfl rfl rfl (fun v w1 hm => ?_)
  have hv := hm.1
  subst hv
  show V K (lW cI cS a b (u1, w1)) 1529 (lLv a b b0 t) [.int r, .int r]
  exact v_icmp_eq (tgt := 1534) h pL_law_32 31 rfl rfl (fun _ => kk _ _ (lInv_of hc hm hI1)) (fun z => absurd rfl z)
/-! the loop -/
theorem law_k {x : Int32} (o1 : ¬ x.toInt < 0) (o2 : ¬ 44 < x.toInt) : ∃ k, k ≤ 44 ∧ x = nI k := (bd_iff (by decide)).mpr ⟨Int.not_lt.mp o1, Int.not_lt.mp o2⟩
theorem law_head {K : vK} {b0 L : Nat} {xs : Nat → Int32} {cI cS : ClassId} {x : xS} (C : lH K b0 L xs cI cS x) (hL : L ≤ 3072) (a b : Nat → Nat) (t : Nat) (ht : 6 * t ≤ L) {ws : va_W} (kt : V K ws 1540 (lLv a b b0 t) []) (kf : 6 * t + 6 ≤ L → V K ws 27 (lLv a b b0 t) []) : V K ws 18 (lLv a b b0 t) [] := by
  obtain ⟨h, hnL, X, hb, hA, hx⟩ := C
  refine v_iload_n h pL_law_0 10 rfl 0 rfl rfl (v_aload_n h pL_law_0 11 rfl 3 rfl rfl (v_slen h pL_law_0 12 X hb hA rfl (v_bipush h pL_law_0 13 rfl kb_6 (v_isub h pL_law_0 14 rfl (v_icmp_gt (tgt := 1540) h pL_law_0 15 rfl rfl (fun _ => kt) (fun z => kf ?_))))))
  have e6 : (6 : Int32).toInt = 6 := by decide
  have eL : (nI L).toInt = L := nI_toInt (by omega)
  have et : (nI (6 * t)).toInt = ((6 * t : Nat) : Int) := nI_toInt (by omega)
  rw [lt_i, toInt_sub (by omega) (by omega), eL, e6, et] at z
  omega
set_option maxHeartbeats 1000000 in
theorem law_disp {K : vK} {b0 L : Nat} {xs : Nat → Int32} {cI cS : ClassId} {x : xS} (C : lH K b0 L xs cI cS x) (hL : L ≤ 3072) (a b : Nat → Nat) (t : Nat) (ht : 6 * t + 6 ≤ L) (u : kS) (w : mS) (hI : lInv t u w) (kk : ∀ (u : kS) (w : mS), lInv (t + 1) u w → V K (lW cI cS a b (u, w)) 1534 (lLv a b b0 t) []) : V K (lW cI cS a b (u, w)) 27 (lLv a b b0 t) [] := by
  obtain ⟨h, hnL, X, hb, hA, hx⟩ := id C
  refine v_aload_n h pL_law_0 16 rfl 3 rfl rfl (v_iload_n h pL_law_0 17 rfl 0 rfl rfl (v_sld h pL_law_0 18 X hb hA (6 * t) rfl rfl (by omega) hL (v_bipush h pL_law_0 19 rfl kb_63 (v_iand h pL_law_0 20 rfl ?_))))
  have hk0 := kk u w ⟨hI.1, inv_0 hI.2⟩
  generalize xs (6 * t) &&& 63 = z
  by_cases o1 : z.toInt < 0
  · exact v_tableOut (tgt := 1534) h pL_law_0 21 rfl (Or.inl o1) rfl hk0
  by_cases o2 : 44 < z.toInt
  · exact v_tableOut (tgt := 1534) h pL_law_0 21 rfl (Or.inr o2) rfl hk0
  obtain ⟨k, hk, rfl⟩ := law_k o1 o2
  by_cases e0 : k = 0
  · subst e0
    exact v_tableIn (off := 195) (tgt := 228) h pL_law_0 21 rfl o1 o2 rfl rfl (lc_bed C hL a b t ht u w hI kk)
  by_cases e1 : k = 1
  · subst e1
    exact v_tableIn (off := 238) (tgt := 271) h pL_law_0 21 rfl o1 o2 rfl rfl (lc_bedOf C hL a b t ht u w hI kk)
  by_cases e2 : k = 2
  · subst e2
    exact v_tableIn (off := 271) (tgt := 304) h pL_law_0 21 rfl o1 o2 rfl rfl (lc_comes C hL a b t ht u w hI kk)
  by_cases e3 : k = 3
  · subst e3
    exact v_tableIn (off := 294) (tgt := 327) h pL_law_0 21 rfl o1 o2 rfl rfl (lc_oyster C hL a b t ht u w hI kk)
  by_cases e4 : k = 4
  · subst e4
    exact v_tableIn (off := 327) (tgt := 360) h pL_law_0 21 rfl o1 o2 rfl rfl (lc_of C hL a b t ht u w hI kk)
  by_cases e5 : k = 5
  · subst e5
    exact v_tableIn (off := 360) (tgt := 393) h pL_law_0 21 rfl o1 o2 rfl rfl (lc_change C hL a b t ht u w hI kk)
  by_cases e6 : k = 6
  · subst e6
    exact v_tableIn (off := 403) (tgt := 436) h pL_law_0 21 rfl o1 o2 rfl rfl (lc_open C hL a b t ht u w hI kk)
  by_cases e7 : k = 7
  · subst e7
    exact v_tableIn (off := 426) (tgt := 459) h pL_law_0 21 rfl o1 o2 rfl rfl (lc_go C hL a b t ht u w hI kk)
  by_cases e8 : k = 8
  · subst e8
    exact v_tableIn (off := 449) (tgt := 482) h pL_law_0 21 rfl o1 o2 rfl rfl (lc_now C hL a b t ht u w hI kk)
  by_cases e9 : k = 9
  · subst e9
    exact v_tableIn (off := 472) (tgt := 505) h pL_law_0 21 rfl o1 o2 rfl rfl (lc_ahead C hL a b t ht u w hI kk)
  by_cases e10 : k = 10
  · subst e10
    exact v_tableIn (off := 515) (tgt := 548) h pL_law_0 21 rfl o1 o2 rfl rfl (lc_worth C hL a b t ht u w hI kk)
  by_cases e11 : k = 11
  · subst e11
    exact v_tableIn (off := 548) (tgt := 581) h pL_law_0 21 rfl o1 o2 rfl rfl (lc_hidden C hL a b t ht u w hI kk)
  by_cases e12 : k = 12
  · subst e12
    exact v_tableIn (off := 571) (tgt := 604) h pL_law_0 21 rfl o1 o2 rfl rfl (lc_told C hL a b t ht u w hI kk)
  by_cases e13 : k = 13
  · subst e13
    exact v_tableIn (off := 594) (tgt := 627) h pL_law_0 21 rfl o1 o2 rfl rfl (lc_dive C hL a b t ht u w hI kk)
  by_cases e14 : k = 14
  · subst e14
    exact v_tableIn (off := 617) (tgt := 650) h pL_law_0 21 rfl o1 o2 rfl rfl (lc_sow C hL a b t ht u w hI kk)
  by_cases e15 : k = 15
  · subst e15
    exact v_tableIn (off := 650) (tgt := 683) h pL_law_0 21 rfl o1 o2 rfl rfl (lc_kindFor C hL a b t ht u w hI kk)
  by_cases e16 : k = 16
  · subst e16
    exact v_tableIn (off := 683) (tgt := 716) h pL_law_0 21 rfl o1 o2 rfl rfl (lc_weightFor C hL a b t ht u w hI kk)
  by_cases e17 : k = 17
  · subst e17
    exact v_tableIn (off := 716) (tgt := 749) h pL_law_0 21 rfl o1 o2 rfl rfl (lc_comesFor C hL a b t ht u w hI kk)
  by_cases e18 : k = 18
  · subst e18
    exact v_tableIn (off := 749) (tgt := 782) h pL_law_0 21 rfl o1 o2 rfl rfl (lc_coldFor C hL a b t ht u w hI kk)
  by_cases e19 : k = 19
  · subst e19
    exact v_tableIn (off := 782) (tgt := 815) h pL_law_0 21 rfl o1 o2 rfl rfl (lc_room C hL a b t ht u w hI kk)
  by_cases e20 : k = 20
  · subst e20
    exact v_tableIn (off := 825) (tgt := 858) h pL_law_0 21 rfl o1 o2 rfl rfl (lc_alike C hL a b t ht u w hI kk)
  by_cases e21 : k = 21
  · subst e21
    exact v_tableIn (off := 858) (tgt := 891) h pL_law_0 21 rfl o1 o2 rfl rfl (lc_string C hL a b t ht u w hI kk)
  by_cases e22 : k = 22
  · subst e22
    exact v_tableIn (off := 881) (tgt := 914) h pL_law_0 21 rfl o1 o2 rfl rfl (lc_pairs C hL a b t ht u w hI kk)
  by_cases e23 : k = 23
  · subst e23
    exact v_tableIn (off := 904) (tgt := 937) h pL_law_0 21 rfl o1 o2 rfl rfl (lc_match C hL a b t ht u w hI kk)
  by_cases e24 : k = 24
  · subst e24
    exact v_tableIn (off := 917) (tgt := 950) h pL_law_0 21 rfl o1 o2 rfl rfl (lc_fits C hL a b t ht u w hI kk)
  by_cases e25 : k = 25
  · subst e25
    exact v_tableIn (off := 950) (tgt := 983) h pL_law_0 21 rfl o1 o2 rfl rfl (lc_weighed C hL a b t ht u w hI kk)
  by_cases e26 : k = 26
  · subst e26
    exact v_tableIn (off := 983) (tgt := 1016) h pL_law_0 21 rfl o1 o2 rfl rfl (lc_kinds C hL a b t ht u w hI kk)
  by_cases e27 : k = 27
  · subst e27
    exact v_tableIn (off := 1016) (tgt := 1049) h pL_law_0 21 rfl o1 o2 rfl rfl (lc_storms C hL a b t ht u w hI kk)
  by_cases e28 : k = 28
  · subst e28
    exact v_tableIn (off := 1039) (tgt := 1072) h pL_law_0 21 rfl o1 o2 rfl rfl (lc_odds C hL a b t ht u w hI kk)
  by_cases e29 : k = 29
  · subst e29
    exact v_tableIn (off := 1073) (tgt := 1106) h pL_law_0 21 rfl o1 o2 rfl rfl (lc_seed C hL a b t ht u w hI kk)
  by_cases e30 : k = 30
  · subst e30
    exact v_tableIn (off := 1096) (tgt := 1129) h pL_law_0 21 rfl o1 o2 rfl rfl (lc_feed C hL a b t ht u w hI kk)
  by_cases e31 : k = 31
  · subst e31
    exact v_tableIn (off := 1129) (tgt := 1162) h pL_law_0 21 rfl o1 o2 rfl rfl (lc_wipe C hL a b t ht u w hI kk)
  by_cases e32 : k = 32
  · subst e32
    exact v_tableIn (off := 1142) (tgt := 1175) h pL_law_0 21 rfl o1 o2 rfl rfl (lc_text C hL a b t ht u w hI kk)
  by_cases e33 : k = 33
  · subst e33
    exact v_tableIn (off := 1155) (tgt := 1188) h pL_law_0 21 rfl o1 o2 rfl rfl (lc_hold C hL a b t ht u w hI kk)
  by_cases e34 : k = 34
  · subst e34
    exact v_tableIn (off := 1188) (tgt := 1221) h pL_law_0 21 rfl o1 o2 rfl rfl (lc_as C hL a b t ht u w hI kk)
  by_cases e35 : k = 35
  · subst e35
    exact v_tableIn (off := 1221) (tgt := 1254) h pL_law_0 21 rfl o1 o2 rfl rfl (lc_sheet C hL a b t ht u w hI kk)
  by_cases e36 : k = 36
  · subst e36
    exact v_tableIn (off := 1264) (tgt := 1297) h pL_law_0 21 rfl o1 o2 rfl rfl (lc_write C hL a b t ht u w hI kk)
  by_cases e37 : k = 37
  · subst e37
    exact v_tableIn (off := 1307) (tgt := 1340) h pL_law_0 21 rfl o1 o2 rfl rfl (lc_copy C hL a b t ht u w hI kk)
  by_cases e38 : k = 38
  · subst e38
    exact v_tableIn (off := 1370) (tgt := 1403) h pL_law_0 21 rfl o1 o2 rfl rfl (lc_load C hL a b t ht u w hI kk)
  by_cases e39 : k = 39
  · subst e39
    exact v_tableIn (off := 1393) (tgt := 1426) h pL_law_0 21 rfl o1 o2 rfl rfl (lc_judge C hL a b t ht u w hI kk)
  by_cases e40 : k = 40
  · subst e40
    exact v_tableIn (off := 1416) (tgt := 1449) h pL_law_0 21 rfl o1 o2 rfl rfl (lc_image C hL a b t ht u w hI kk)
  by_cases e41 : k = 41
  · subst e41
    exact v_tableIn (off := 1429) (tgt := 1462) h pL_law_0 21 rfl o1 o2 rfl rfl (lc_undo C hL a b t ht u w hI kk)
  by_cases e42 : k = 42
  · subst e42
    exact v_tableIn (off := 1442) (tgt := 1475) h pL_law_0 21 rfl o1 o2 rfl rfl (lc_tear C hL a b t ht u w hI kk)
  by_cases e43 : k = 43
  · subst e43
    exact v_tableIn (off := 1455) (tgt := 1488) h pL_law_0 21 rfl o1 o2 rfl rfl (lc_count C hL a b t ht u w hI kk)
  by_cases e44 : k = 44
  · subst e44
    exact v_tableIn (off := 1478) (tgt := 1511) h pL_law_0 21 rfl o1 o2 rfl rfl (lc_status C hL a b t ht u w hI kk)
  omega
theorem law_loop {K : vK} {b0 L : Nat} {xs : Nat → Int32} {cI cS : ClassId} {x : xS} (C : lH K b0 L xs cI cS x) (hL : L ≤ 3072) (a b : Nat → Nat) (hend : ∀ (ws : va_W) (lv : List (Nat × Value)), V K ws 1540 lv []) : ∀ (f t : Nat) (u : kS) (w : mS), L ≤ f + 6 * t → 6 * t ≤ L → lInv t u w → V K (lW cI cS a b (u, w)) 18 (lLv a b b0 t) []
  | 0, t, u, w, hf, ht, hI => law_head C hL a b t ht (hend _ _) (fun z => absurd z (by omega))
  | f + 1, t, u, w, hf, ht, hI => law_head C hL a b t ht (hend _ _) (fun z => law_disp C hL a b t z u w hI (fun u1 w1 hI1 => by
      obtain ⟨h, hnL, X, hb, hA, hx⟩ := id C
      refine v_iinc h pL_law_33 2 rfl 0 rfl hnL (by decide) (v := nI (6 * (t + 1))) (lv' := lLv a b b0 (t + 1)) rfl (nI_add (6 * t) 6) (v_goto (tgt := 18) h pL_law_33 3 rfl rfl ?_)
      exact law_loop C hL a b hend f (t + 1) u1 w1 (by omega) (by omega) hI1))
