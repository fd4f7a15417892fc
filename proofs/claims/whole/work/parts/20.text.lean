set_option maxHeartbeats 300000 in
set_option maxRecDepth 100000 in
theorem kX4_byteAt (l : Launch) (D : va_G) (cI cS : ClassId) (b : Nat → Nat) (E Kp Bf As Q : Nat → Nat → Int32) (i L : Nat) (hi : i < 2147483648) (hL : Q 6 1 = nI L) (hLb : L ≤ 120) : vDet l D (vT cI cS) yX4_byteAt cX4_byteAt 2 (some .int) 0 0 (mW cI b) [.ref (b 0), .int (nI i)] (E, Kp, Bf, As, Q) (some (.int (byS (Q 1) L i))) ((E, Kp, Bf, As, Q)) := by
  refine vMet_of (by decide) rfl ?_
  intro K hl hD hnL hret h hR hEx
  subst hl hD
  show V K (mW cI b (E, Kp, Bf, As, Q)) 0 [(0, .ref (b 0)), (1, .int (nI i))] []
  refine v_iload_n h pX4_byteAt_0 0 rfl 1 rfl rfl (v_aload_n h pX4_byteAt_0 1 rfl 0 rfl rfl (v_get h pX4_byteAt_0 2 fX4_193 0 rfl rfl rfl (v_top (w := .int (nI L)) (congrArg Value.int hL) ?_)))
  refine v_ncmp_ge (a := i) (b := L) (tgt := 17) h pX4_byteAt_0 3 rfl rfl (by omega) (by omega) (fun c1 => ?_) (fun c1 => ?_)
  · skip
    refine v_iconst h pX4_byteAt_0 9 rfl ki_m1 ?_
    exact v_iret h pX4_byteAt_0 10 hR hret rfl ((E, Kp, Bf, As, Q)) rfl ⟨vI (by (unfold byS; first | (rw [if_pos (by omega)]; done) | (rw [if_neg (by omega)]; done))), rfl⟩
  · skip
    refine v_aload_n h pX4_byteAt_0 4 rfl 0 rfl rfl (v_get h pX4_byteAt_0 5 fX4_25 0 rfl rfl rfl (v_iload_n h pX4_byteAt_0 6 rfl 1 rfl rfl (v_iald h pX4_byteAt_0 7 i 6 0 rfl rfl rfl rfl rfl (by omega) (v_goto (tgt := 18) h pX4_byteAt_0 8 rfl rfl ?_))))
    exact v_iret h pX4_byteAt_0 10 hR hret rfl ((E, Kp, Bf, As, Q)) rfl ⟨vI (by (unfold byS; first | (rw [if_pos (by omega)]; done) | (rw [if_neg (by omega)]; done))), rfl⟩
set_option maxHeartbeats 300000 in
set_option maxRecDepth 100000 in
theorem kX4_isLetter (l : Launch) (D : va_G) (cI cS : ClassId)   (x : Int32) : vDet l D (vT cI cS) yX4_isLetter cX4_isLetter 1 (some .boolean) 0 0 (fun _ : Unit => ([] : va_W)) [.int x] () (some (.int (bI (ltB x)))) (()) := by
  refine vMet_of (by decide) rfl ?_
  intro K hl hD hnL hret h hR hEx
  subst hl hD
  show V K (([] : va_W)) 0 [(0, .int x)] []
  refine v_iload_n h pX4_isLetter_0 0 rfl 0 rfl rfl (v_bipush h pX4_isLetter_0 1 rfl kb_97 ?_)
  refine v_icmp_lt (tgt := 16) h pX4_isLetter_0 2 rfl rfl (fun c1 => ?_) (fun c1 => ?_)
  · skip
    refine v_iconst h pX4_isLetter_0 8 rfl ki_0 ?_
    exact v_zret h pX4_isLetter_0 9 (Or.inl rfl) hR hret rfl (()) rfl ⟨vI (by simp [ltB, inB, bI, c1, -Int32.not_lt]), rfl⟩
  · skip
    refine v_iload_n h pX4_isLetter_0 3 rfl 0 rfl rfl (v_bipush h pX4_isLetter_0 4 rfl kb_122 ?_)
    refine v_icmp_gt (tgt := 16) h pX4_isLetter_0 5 rfl rfl (fun c2 => ?_) (fun c2 => ?_)
    · skip
      refine v_iconst h pX4_isLetter_0 8 rfl ki_0 ?_
      exact v_zret h pX4_isLetter_0 9 (Or.inl rfl) hR hret rfl (()) rfl ⟨vI (by simp [ltB, inB, bI, c1, c2, -Int32.not_lt]), rfl⟩
    · skip
      refine v_iconst h pX4_isLetter_0 6 rfl ki_1 (v_goto (tgt := 17) h pX4_isLetter_0 7 rfl rfl ?_)
      exact v_zret h pX4_isLetter_0 9 (Or.inr rfl) hR hret rfl (()) rfl ⟨vI (by simp [ltB, inB, bI, c1, c2, -Int32.not_lt]), rfl⟩
set_option maxHeartbeats 300000 in
set_option maxRecDepth 100000 in
theorem kX4_isDigit (l : Launch) (D : va_G) (cI cS : ClassId)   (x : Int32) : vDet l D (vT cI cS) yX4_isDigit cX4_isDigit 1 (some .boolean) 0 0 (fun _ : Unit => ([] : va_W)) [.int x] () (some (.int (bI (dgB x)))) (()) := by
  refine vMet_of (by decide) rfl ?_
  intro K hl hD hnL hret h hR hEx
  subst hl hD
  show V K (([] : va_W)) 0 [(0, .int x)] []
  refine v_iload_n h pX4_isDigit_0 0 rfl 0 rfl rfl (v_bipush h pX4_isDigit_0 1 rfl kb_48 ?_)
  refine v_icmp_lt (tgt := 16) h pX4_isDigit_0 2 rfl rfl (fun c1 => ?_) (fun c1 => ?_)
  · skip
    refine v_iconst h pX4_isDigit_0 8 rfl ki_0 ?_
    exact v_zret h pX4_isDigit_0 9 (Or.inl rfl) hR hret rfl (()) rfl ⟨vI (by simp [dgB, inB, bI, c1, -Int32.not_lt]), rfl⟩
  · skip
    refine v_iload_n h pX4_isDigit_0 3 rfl 0 rfl rfl (v_bipush h pX4_isDigit_0 4 rfl kb_57 ?_)
    refine v_icmp_gt (tgt := 16) h pX4_isDigit_0 5 rfl rfl (fun c2 => ?_) (fun c2 => ?_)
    · skip
      refine v_iconst h pX4_isDigit_0 8 rfl ki_0 ?_
      exact v_zret h pX4_isDigit_0 9 (Or.inl rfl) hR hret rfl (()) rfl ⟨vI (by simp [dgB, inB, bI, c1, c2, -Int32.not_lt]), rfl⟩
    · skip
      refine v_iconst h pX4_isDigit_0 6 rfl ki_1 (v_goto (tgt := 17) h pX4_isDigit_0 7 rfl rfl ?_)
      exact v_zret h pX4_isDigit_0 9 (Or.inr rfl) hR hret rfl (()) rfl ⟨vI (by simp [dgB, inB, bI, c1, c2, -Int32.not_lt]), rfl⟩
set_option maxHeartbeats 300000 in
set_option maxRecDepth 100000 in
theorem kX4_nextToken (l : Launch) (D : va_G) (cI cS : ClassId) (b : Nat → Nat) (E Kp Bf As Q : Nat → Nat → Int32) (p L : Nat) (hp : Q 6 6 = nI p) (hpL : p ≤ L) (hL : Q 6 1 = nI L) (hLb : L ≤ 120) (hT : ∀ i, i < 120 → bd (Q 1 i) 255) : vDet l D (vT cI cS) yX4_nextToken cX4_nextToken 2 none 1 21 (mW cI b) [.ref (b 0)] (E, Kp, Bf, As, Q) (none) ((E, Kp, Bf, As, tkF Q L (sk (Q 1) L p) (Q 6 8))) := by
  refine vMet_of (by decide) rfl ?_
  intro K hl hD hnL hret h hR hEx
  subst hl hD
  show V K (mW cI b (E, Kp, Bf, As, Q)) 0 [(0, .ref (b 0))] []
  refine v_eqw (ws' := mW cI b (E, Kp, Bf, As, tkQ Q (Q 6 4) (Q 6 5) (nI p) (Q 6 7) (Q 6 8))) (by rw [← hp, tkQ_id]) ?_
  refine v_aload_n h pX4_nextToken_0 0 rfl 0 rfl rfl (v_aload_n h pX4_nextToken_0 1 rfl 0 rfl rfl (v_get h pX4_nextToken_0 2 fX4_196 0 rfl rfl rfl (v_top (w := .int (nI p)) rfl (v_puti h pX4_nextToken_0 3 gX4_199 0 (ws' := mW cI b (E, Kp, Bf, As, tkQ Q (Q 6 4) (nI p) (nI p) (Q 6 7) (Q 6 8))) rfl rfl rfl mW_t5 ?_))))
  have LA : ∀ (m iA : Nat), iA ≤ L → L + 1 ≤ iA + m → sk (Q 1) L iA = sk (Q 1) L p → V K (mW cI b (E, Kp, Bf, As, tkQ Q (Q 6 4) (nI iA) (nI p) (Q 6 7) (Q 6 8))) 8 [(0, .ref (b 0))] [] := by
    intro m
    induction m with
    | zero => exact fun iA h1 h2 h3 => absurd h2 (by omega)
    | succ m ihA =>
      intro iA h1A h2A h3A
      refine v_aload_n h pX4_nextToken_0 4 rfl 0 rfl rfl (v_aload_n h pX4_nextToken_0 5 rfl 0 rfl rfl (v_get h pX4_nextToken_0 6 fX4_199 0 rfl rfl rfl (v_top (w := .int (nI iA)) rfl ?_)))
      refine v_callV h pX4_nextToken_0 7 mX4_202 (As := [.int (nI iA)]) (st := []) (kX4_byteAt _ _ cI cS b E Kp Bf As (tkQ Q (Q 6 4) (nI iA) (nI p) (Q 6 7) (Q 6 8)) iA L (by omega) hL hLb) v0B v0C (vEmb_rf _ _) 0 rfl rfl rfl rfl rfl rfl rfl (vDet_k ?_)
      show V K (mW cI b (E, Kp, Bf, As, tkQ Q (Q 6 4) (nI iA) (nI p) (Q 6 7) (Q 6 8))) 16 [(0, .ref (b 0))] [.int (byS (Q 1) L iA)]
      refine v_bipush h pX4_nextToken_0 8 rfl kb_32 ?_
      refine v_icmp_ne (tgt := 34) h pX4_nextToken_0 9 rfl rfl (fun c1 => ?_) (fun c1 => ?_)
      · skip
        have hf : sk (Q 1) L p = iA := h3A.symm.trans (sk_f c1)
        refine v_aload_n h pX4_nextToken_0 17 rfl 0 rfl rfl (v_aload_n h pX4_nextToken_0 18 rfl 0 rfl rfl (v_get h pX4_nextToken_0 19 fX4_199 0 rfl rfl rfl (v_top (w := .int (nI iA)) rfl (v_puti h pX4_nextToken_0 20 gX4_196 0 (ws' := mW cI b (E, Kp, Bf, As, tkQ Q (Q 6 4) (nI iA) (nI iA) (Q 6 7) (Q 6 8))) rfl rfl rfl mW_t6 (v_aload_n h pX4_nextToken_0 21 rfl 0 rfl rfl ?_)))))
        refine v_aload_n h pX4_nextToken_0 22 rfl 0 rfl rfl (v_get h pX4_nextToken_0 23 fX4_199 0 rfl rfl rfl (v_top (w := .int (nI iA)) rfl ?_))
        refine v_callV h pX4_nextToken_0 24 mX4_202 (As := [.int (nI iA)]) (st := []) (kX4_byteAt _ _ cI cS b E Kp Bf As (tkQ Q (Q 6 4) (nI iA) (nI iA) (Q 6 7) (Q 6 8)) iA L (by omega) hL hLb) v0B v0C (vEmb_rf _ _) 0 rfl rfl rfl rfl rfl rfl rfl (vDet_k ?_)
        show V K (mW cI b (E, Kp, Bf, As, tkQ Q (Q 6 4) (nI iA) (nI iA) (Q 6 7) (Q 6 8))) 50 [(0, .ref (b 0))] [.int (byS (Q 1) L iA)]
        refine v_istore_n h pX4_nextToken_0 25 (lv' := [(1, .int (byS (Q 1) L iA)), (0, .ref (b 0))]) rfl rfl hnL rfl rfl (v_aload_n h pX4_nextToken_0 26 rfl 1 rfl rfl (v_iload_n h pX4_nextToken_0 27 rfl 0 rfl rfl ?_))
        refine v_if_ge2 (tgt := 60) h pX4_nextToken_0 28 rfl rfl (fun c2 => ?_) (fun c2 => ?_)
        · skip
          refine v_iload_n h pX4_nextToken_0 31 rfl 0 rfl rfl ?_
          refine v_callS h pX4_nextToken_1 0 mX4_205 (As := [.int (byS (Q 1) L iA)]) (st := [.ref (b 0)]) (kX4_isLetter _ _ cI cS (byS (Q 1) L iA)) v0B v0C (vEmb_u _) rfl rfl rfl rfl rfl (vDet_k ?_)
          show V K (mW cI b (E, Kp, Bf, As, tkQ Q (Q 6 4) (nI iA) (nI iA) (Q 6 7) (Q 6 8))) 64 [(1, .int (byS (Q 1) L iA)), (0, .ref (b 0))] [.int (bI (ltB (byS (Q 1) L iA))), .ref (b 0)]
          refine v_bif_eq (tgt := 71) h pX4_nextToken_1 1 rfl rfl (fun c3 => ?_) (fun c3 => ?_)
          · skip
            refine v_iload_n h pX4_nextToken_1 4 rfl 0 rfl rfl ?_
            refine v_callS h pX4_nextToken_1 5 mX4_208 (As := [.int (byS (Q 1) L iA)]) (st := [.ref (b 0)]) (kX4_isDigit _ _ cI cS (byS (Q 1) L iA)) v0B v0C (vEmb_u _) rfl rfl rfl rfl rfl (vDet_k ?_)
            show V K (mW cI b (E, Kp, Bf, As, tkQ Q (Q 6 4) (nI iA) (nI iA) (Q 6 7) (Q 6 8))) 75 [(1, .int (byS (Q 1) L iA)), (0, .ref (b 0))] [.int (bI (dgB (byS (Q 1) L iA))), .ref (b 0)]
            refine v_bif_eq (tgt := 82) h pX4_nextToken_1 6 rfl rfl (fun c4 => ?_) (fun c4 => ?_)
            · skip
              refine v_iload_n h pX4_nextToken_1 9 rfl 0 rfl rfl (v_bipush h pX4_nextToken_1 10 rfl kb_59 ?_)
              refine v_icmp_ne (tgt := 92) h pX4_nextToken_1 11 rfl rfl (fun c5 => ?_) (fun c5 => ?_)
              · skip
                refine v_iconst h pX4_nextToken_1 14 rfl ki_4 ?_
                obtain ⟨hl, he⟩ := by_1 c2
                have htk : tk (Q 1) L iA = 4 := by rw [tk, if_pos hl, ← he]; simp [c1, c3, c4, c5]
                refine v_puti h pX4_nextToken_1 15 gX4_211 0 (ws' := mW cI b (E, Kp, Bf, As, tkQ Q 4 (nI iA) (nI iA) (Q 6 7) (Q 6 8))) rfl rfl rfl mW_t4 (v_aload_n h pX4_nextToken_1 16 rfl 1 rfl rfl (v_iconst h pX4_nextToken_1 17 rfl ki_0 (v_puti h pX4_nextToken_1 18 gX4_214 0 (ws' := mW cI b (E, Kp, Bf, As, tkQ Q 4 (nI iA) (nI iA) 0 (Q 6 8))) rfl rfl rfl mW_t7 ?_)))
                refine v_aload_n h pX4_nextToken_1 19 rfl 1 rfl rfl (v_get h pX4_nextToken_1 20 fX4_211 0 rfl rfl rfl (v_top (w := .int 4) rfl (v_iconst h pX4_nextToken_1 21 rfl ki_1 ?_)))
                refine v_ncmp_ne (a := 4) (b := 1) (tgt := 136) h pX4_nextToken_1 22 rfl rfl (by decide) (by decide) (fun c6 => ?_) (fun c6 => absurd c6 (by decide))
                refine v_aload_n h pX4_nextToken_2 4 rfl 1 rfl rfl (v_get h pX4_nextToken_2 5 fX4_211 0 rfl rfl rfl (v_top (w := .int 4) rfl (v_iconst h pX4_nextToken_2 6 rfl ki_2 ?_)))
                refine v_ncmp_ne (a := 4) (b := 2) (tgt := 211) h pX4_nextToken_2 7 rfl rfl (by decide) (by decide) (fun c7 => ?_) (fun c7 => absurd c7 (by decide))
                refine v_aload_n h pX4_nextToken_3 9 rfl 1 rfl rfl (v_dup h pX4_nextToken_3 10 rfl rfl (v_get h pX4_nextToken_3 11 fX4_196 0 rfl rfl rfl (v_top (w := .int (nI iA)) rfl (v_aload_n h pX4_nextToken_3 12 rfl 1 rfl rfl (v_get h pX4_nextToken_3 13 fX4_211 0 rfl rfl rfl ?_)))))
                refine v_top (w := .int 4) rfl (v_iconst h pX4_nextToken_3 14 rfl ki_2 ?_)
                refine v_ncmp_le (a := 4) (b := 2) (tgt := 228) h pX4_nextToken_3 15 rfl rfl (by decide) (by decide) (fun c8 => absurd c8 (by decide)) (fun c8 => ?_)
                refine v_iconst h pX4_nextToken_3 16 rfl ki_1 (v_goto (tgt := 229) h pX4_nextToken_3 17 rfl rfl (v_iaddn h pX4_nextToken_3 19 iA 1 rfl (v_puti h pX4_nextToken_3 20 gX4_196 0 (ws' := mW cI b (E, Kp, Bf, As, tkQ Q 4 (nI iA) (nI (iA + 1)) 0 (Q 6 8))) rfl rfl rfl mW_t6 ?_)))
                have hen : en (Q 1) L iA = (iA + 1) := by simp [en, htk]
                have hnm : nmV (Q 1) L iA = 0 := by simp [nmV, htk]
                exact v_vret h pX4_nextToken_3 21 hR hret rfl ((E, Kp, Bf, As, tkQ Q 4 (nI iA) (nI (iA + 1)) 0 (Q 6 8))) rfl ⟨rfl, (by exact congrArg (fun q => ((E, Kp, Bf, As, q) : mS)) (by rw [hf]; exact tkF_j htk hen hnm))⟩
              · skip
                refine v_iconst h pX4_nextToken_1 12 rfl ki_3 (v_goto (tgt := 93) h pX4_nextToken_1 13 rfl rfl ?_)
                obtain ⟨hl, he⟩ := by_1 c2
                have htk : tk (Q 1) L iA = 3 := by rw [tk, if_pos hl, ← he]; simp [c1, c3, c4, (eq_true c5)]
                refine v_puti h pX4_nextToken_1 15 gX4_211 0 (ws' := mW cI b (E, Kp, Bf, As, tkQ Q 3 (nI iA) (nI iA) (Q 6 7) (Q 6 8))) rfl rfl rfl mW_t4 (v_aload_n h pX4_nextToken_1 16 rfl 1 rfl rfl (v_iconst h pX4_nextToken_1 17 rfl ki_0 (v_puti h pX4_nextToken_1 18 gX4_214 0 (ws' := mW cI b (E, Kp, Bf, As, tkQ Q 3 (nI iA) (nI iA) 0 (Q 6 8))) rfl rfl rfl mW_t7 ?_)))
                refine v_aload_n h pX4_nextToken_1 19 rfl 1 rfl rfl (v_get h pX4_nextToken_1 20 fX4_211 0 rfl rfl rfl (v_top (w := .int 3) rfl (v_iconst h pX4_nextToken_1 21 rfl ki_1 ?_)))
                refine v_ncmp_ne (a := 3) (b := 1) (tgt := 136) h pX4_nextToken_1 22 rfl rfl (by decide) (by decide) (fun c9 => ?_) (fun c9 => absurd c9 (by decide))
                refine v_aload_n h pX4_nextToken_2 4 rfl 1 rfl rfl (v_get h pX4_nextToken_2 5 fX4_211 0 rfl rfl rfl (v_top (w := .int 3) rfl (v_iconst h pX4_nextToken_2 6 rfl ki_2 ?_)))
                refine v_ncmp_ne (a := 3) (b := 2) (tgt := 211) h pX4_nextToken_2 7 rfl rfl (by decide) (by decide) (fun c10 => ?_) (fun c10 => absurd c10 (by decide))
                refine v_aload_n h pX4_nextToken_3 9 rfl 1 rfl rfl (v_dup h pX4_nextToken_3 10 rfl rfl (v_get h pX4_nextToken_3 11 fX4_196 0 rfl rfl rfl (v_top (w := .int (nI iA)) rfl (v_aload_n h pX4_nextToken_3 12 rfl 1 rfl rfl (v_get h pX4_nextToken_3 13 fX4_211 0 rfl rfl rfl ?_)))))
                refine v_top (w := .int 3) rfl (v_iconst h pX4_nextToken_3 14 rfl ki_2 ?_)
                refine v_ncmp_le (a := 3) (b := 2) (tgt := 228) h pX4_nextToken_3 15 rfl rfl (by decide) (by decide) (fun c11 => absurd c11 (by decide)) (fun c11 => ?_)
                refine v_iconst h pX4_nextToken_3 16 rfl ki_1 (v_goto (tgt := 229) h pX4_nextToken_3 17 rfl rfl (v_iaddn h pX4_nextToken_3 19 iA 1 rfl (v_puti h pX4_nextToken_3 20 gX4_196 0 (ws' := mW cI b (E, Kp, Bf, As, tkQ Q 3 (nI iA) (nI (iA + 1)) 0 (Q 6 8))) rfl rfl rfl mW_t6 ?_)))
                have hen : en (Q 1) L iA = (iA + 1) := by simp [en, htk]
                have hnm : nmV (Q 1) L iA = 0 := by simp [nmV, htk]
                exact v_vret h pX4_nextToken_3 21 hR hret rfl ((E, Kp, Bf, As, tkQ Q 3 (nI iA) (nI (iA + 1)) 0 (Q 6 8))) rfl ⟨rfl, (by exact congrArg (fun q => ((E, Kp, Bf, As, q) : mS)) (by rw [hf]; exact tkF_j htk hen hnm))⟩
            · skip
              refine v_iconst h pX4_nextToken_1 7 rfl ki_2 (v_goto (tgt := 93) h pX4_nextToken_1 8 rfl rfl ?_)
              obtain ⟨hl, he⟩ := by_1 c2
              have htk : tk (Q 1) L iA = 2 := by rw [tk, if_pos hl, ← he]; simp [c1, c3, c4]
              refine v_puti h pX4_nextToken_1 15 gX4_211 0 (ws' := mW cI b (E, Kp, Bf, As, tkQ Q 2 (nI iA) (nI iA) (Q 6 7) (Q 6 8))) rfl rfl rfl mW_t4 (v_aload_n h pX4_nextToken_1 16 rfl 1 rfl rfl (v_iconst h pX4_nextToken_1 17 rfl ki_0 (v_puti h pX4_nextToken_1 18 gX4_214 0 (ws' := mW cI b (E, Kp, Bf, As, tkQ Q 2 (nI iA) (nI iA) 0 (Q 6 8))) rfl rfl rfl mW_t7 ?_)))
              refine v_aload_n h pX4_nextToken_1 19 rfl 1 rfl rfl (v_get h pX4_nextToken_1 20 fX4_211 0 rfl rfl rfl (v_top (w := .int 2) rfl (v_iconst h pX4_nextToken_1 21 rfl ki_1 ?_)))
              refine v_ncmp_ne (a := 2) (b := 1) (tgt := 136) h pX4_nextToken_1 22 rfl rfl (by decide) (by decide) (fun c12 => ?_) (fun c12 => absurd c12 (by decide))
              refine v_lv [1, 0] (lv' := [(0, .ref (b 0)), (1, .int (byS (Q 1) L iA))]) rfl ?_
              have LC : ∀ (m iC : Nat), iA + iC ≤ L → L + 1 ≤ iA + iC + m → sc (fun i => dgB (Q 1 i)) L (iA + iC) = sc (fun i => dgB (Q 1 i)) L iA → V K (mW cI b (E, Kp, Bf, As, tkQ Q 2 (nI iA) (nI (iA + iC)) (vaS (Q 1) iA iC) (Q 6 8))) 136 [(0, .ref (b 0)), (1, .int (byS (Q 1) L iA))] [] := by
                intro m
                induction m with
                | zero => exact fun iC h1 h2 h3 => absurd h2 (by omega)
                | succ m ihC =>
                  intro iC h1C h2C h3C
                  refine v_aload_n h pX4_nextToken_2 4 rfl 0 rfl rfl (v_get h pX4_nextToken_2 5 fX4_211 0 rfl rfl rfl (v_top (w := .int 2) rfl (v_iconst h pX4_nextToken_2 6 rfl ki_2 ?_)))
                  refine v_ncmp_ne (a := 2) (b := 2) (tgt := 211) h pX4_nextToken_2 7 rfl rfl (by decide) (by decide) (fun c13 => absurd c13 (by decide)) (fun c13 => ?_)
                  refine v_aload_n h pX4_nextToken_2 8 rfl 0 rfl rfl (v_aload_n h pX4_nextToken_2 9 rfl 0 rfl rfl (v_get h pX4_nextToken_2 10 fX4_196 0 rfl rfl rfl (v_top (w := .int (nI (iA + iC))) rfl ?_)))
                  refine v_callV h pX4_nextToken_2 11 mX4_202 (As := [.int (nI (iA + iC))]) (st := []) (kX4_byteAt _ _ cI cS b E Kp Bf As (tkQ Q 2 (nI iA) (nI (iA + iC)) (vaS (Q 1) iA iC) (Q 6 8)) (iA + iC) L (by omega) hL hLb) v0B v0C (vEmb_rf _ _) 0 rfl rfl rfl rfl rfl rfl rfl (vDet_k ?_)
                  show V K (mW cI b (E, Kp, Bf, As, tkQ Q 2 (nI iA) (nI (iA + iC)) (vaS (Q 1) iA iC) (Q 6 8))) 152 [(0, .ref (b 0)), (1, .int (byS (Q 1) L iA))] [.int (byS (Q 1) L (iA + iC))]
                  refine v_callS h pX4_nextToken_2 12 mX4_208 (As := [.int (byS (Q 1) L (iA + iC))]) (st := []) (kX4_isDigit _ _ cI cS (byS (Q 1) L (iA + iC))) v0B v0C (vEmb_u _) rfl rfl rfl rfl rfl (vDet_k ?_)
                  show V K (mW cI b (E, Kp, Bf, As, tkQ Q 2 (nI iA) (nI (iA + iC)) (vaS (Q 1) iA iC) (Q 6 8))) 155 [(0, .ref (b 0)), (1, .int (byS (Q 1) L iA))] [.int (bI (dgB (byS (Q 1) L (iA + iC))))]
                  refine v_bif_eq (tgt := 211) h pX4_nextToken_2 13 rfl rfl (fun c14 => ?_) (fun c14 => ?_)
                  · skip
                    refine v_aload_n h pX4_nextToken_3 9 rfl 0 rfl rfl (v_dup h pX4_nextToken_3 10 rfl rfl (v_get h pX4_nextToken_3 11 fX4_196 0 rfl rfl rfl (v_top (w := .int (nI (iA + iC))) rfl (v_aload_n h pX4_nextToken_3 12 rfl 0 rfl rfl (v_get h pX4_nextToken_3 13 fX4_211 0 rfl rfl rfl ?_)))))
                    refine v_top (w := .int 2) rfl (v_iconst h pX4_nextToken_3 14 rfl ki_2 ?_)
                    refine v_ncmp_le (a := 2) (b := 2) (tgt := 228) h pX4_nextToken_3 15 rfl rfl (by decide) (by decide) (fun c15 => ?_) (fun c15 => absurd c15 (by decide))
                    refine v_iconst h pX4_nextToken_3 18 rfl ki_0 (v_iaddn h pX4_nextToken_3 19 (iA + iC) 0 rfl (v_puti h pX4_nextToken_3 20 gX4_196 0 (ws' := mW cI b (E, Kp, Bf, As, tkQ Q 2 (nI iA) (nI (iA + iC + 0)) (vaS (Q 1) iA iC) (Q 6 8))) rfl rfl rfl mW_t6 ?_))
                    have hen : en (Q 1) L iA = (iA + iC + 0) := by simp only [en, htk]; exact h3C.symm.trans (dg_f c14)
                    have hnm : nmV (Q 1) L iA = vaS (Q 1) iA iC := by rw [nmV, if_pos htk, hen]; congr 1; omega
                    exact v_vret h pX4_nextToken_3 21 hR hret rfl ((E, Kp, Bf, As, tkQ Q 2 (nI iA) (nI (iA + iC + 0)) (vaS (Q 1) iA iC) (Q 6 8))) rfl ⟨rfl, (by exact congrArg (fun q => ((E, Kp, Bf, As, q) : mS)) (by rw [hf]; exact tkF_j htk hen hnm))⟩
                  · skip
                    refine v_aload_n h pX4_nextToken_2 14 rfl 0 rfl rfl (v_aload_n h pX4_nextToken_2 15 rfl 0 rfl rfl (v_get h pX4_nextToken_2 16 fX4_214 0 rfl rfl rfl (v_top (w := .int (vaS (Q 1) iA iC)) rfl (v_sipush h pX4_nextToken_2 17 rfl ks_999 ?_))))
                    refine v_icmp_le2 (tgt := 176) h pX4_nextToken_2 18 rfl rfl (fun c16 => ?_) (fun c16 => ?_)
                    · skip
                      refine v_bipush h pX4_nextToken_2 22 rfl kb_10 (v_aload_n h pX4_nextToken_2 23 rfl 0 rfl rfl (v_get h pX4_nextToken_2 24 fX4_214 0 rfl rfl rfl (v_top (w := .int (vaS (Q 1) iA iC)) rfl (v_imul h pX4_nextToken_2 25 rfl (v_aload_n h pX4_nextToken_2 26 rfl 0 rfl rfl ?_)))))
                      refine v_aload_n h pX4_nextToken_2 27 rfl 0 rfl rfl (v_get h pX4_nextToken_2 28 fX4_196 0 rfl rfl rfl (v_top (w := .int (nI (iA + iC))) rfl ?_))
                      refine v_callV h pX4_nextToken_2 29 mX4_202 (As := [.int (nI (iA + iC))]) (st := [.int (10 * (vaS (Q 1) iA iC)), .ref (b 0)]) (kX4_byteAt _ _ cI cS b E Kp Bf As (tkQ Q 2 (nI iA) (nI (iA + iC)) (vaS (Q 1) iA iC) (Q 6 8)) (iA + iC) L (by omega) hL hLb) v0B v0C (vEmb_rf _ _) 0 rfl rfl rfl rfl rfl rfl rfl (vDet_k ?_)
                      show V K (mW cI b (E, Kp, Bf, As, tkQ Q 2 (nI iA) (nI (iA + iC)) (vaS (Q 1) iA iC) (Q 6 8))) 191 [(0, .ref (b 0)), (1, .int (byS (Q 1) L iA))] [.int (byS (Q 1) L (iA + iC)), .int (10 * (vaS (Q 1) iA iC)), .ref (b 0)]
                      refine v_iadd h pX4_nextToken_2 30 rfl (v_bipush h pX4_nextToken_2 31 rfl kb_48 (v_isub h pX4_nextToken_3 0 rfl (v_puti h pX4_nextToken_3 1 gX4_214 0 (ws' := mW cI b (E, Kp, Bf, As, tkQ Q 2 (nI iA) (nI (iA + iC)) (((10 * (vaS (Q 1) iA iC)) + (byS (Q 1) L (iA + iC))) - 48) (Q 6 8))) rfl rfl rfl mW_t7 (v_aload_n h pX4_nextToken_3 2 rfl 0 rfl rfl (v_dup h pX4_nextToken_3 3 rfl rfl ?_)))))
                      refine v_get h pX4_nextToken_3 4 fX4_196 0 rfl rfl rfl (v_top (w := .int (nI (iA + iC))) rfl (v_iconst h pX4_nextToken_3 5 rfl ki_1 (v_iaddn h pX4_nextToken_3 6 (iA + iC) 1 rfl (v_puti h pX4_nextToken_3 7 gX4_196 0 (ws' := mW cI b (E, Kp, Bf, As, tkQ Q 2 (nI iA) (nI (iA + iC + 1)) (((10 * (vaS (Q 1) iA iC)) + (byS (Q 1) L (iA + iC))) - 48) (Q 6 8))) rfl rfl rfl mW_t6 (v_goto (tgt := 136) h pX4_nextToken_3 8 rfl rfl ?_)))))
                      obtain ⟨q1, q2⟩ := dg_t c14
                      refine v_eqw (ws' := mW cI b (E, Kp, Bf, As, tkQ Q 2 (nI iA) (nI (iA + iC + 1)) (vaS (Q 1) iA (iC + 1)) (Q 6 8))) (by first | rfl | (simp [vaS, c16, -Int32.not_lt]; done) | (simp [vaS, byS, q1, c16, -Int32.not_lt]; done)) ?_
                      exact ihC (iC + 1) (by omega) (by omega) (q2.symm.trans h3C)
                    · skip
                      refine v_aload_n h pX4_nextToken_2 19 rfl 0 rfl rfl (v_get h pX4_nextToken_2 20 fX4_214 0 rfl rfl rfl (v_top (w := .int (vaS (Q 1) iA iC)) rfl (v_goto (tgt := 195) h pX4_nextToken_2 21 rfl rfl (v_puti h pX4_nextToken_3 1 gX4_214 0 (ws' := mW cI b (E, Kp, Bf, As, tkQ Q 2 (nI iA) (nI (iA + iC)) (vaS (Q 1) iA iC) (Q 6 8))) rfl rfl rfl mW_t7 (v_aload_n h pX4_nextToken_3 2 rfl 0 rfl rfl ?_)))))
                      refine v_dup h pX4_nextToken_3 3 rfl rfl (v_get h pX4_nextToken_3 4 fX4_196 0 rfl rfl rfl (v_top (w := .int (nI (iA + iC))) rfl (v_iconst h pX4_nextToken_3 5 rfl ki_1 (v_iaddn h pX4_nextToken_3 6 (iA + iC) 1 rfl (v_puti h pX4_nextToken_3 7 gX4_196 0 (ws' := mW cI b (E, Kp, Bf, As, tkQ Q 2 (nI iA) (nI (iA + iC + 1)) (vaS (Q 1) iA iC) (Q 6 8))) rfl rfl rfl mW_t6 ?_)))))
                      refine v_goto (tgt := 136) h pX4_nextToken_3 8 rfl rfl ?_
                      obtain ⟨q1, q2⟩ := dg_t c14
                      refine v_eqw (ws' := mW cI b (E, Kp, Bf, As, tkQ Q 2 (nI iA) (nI (iA + iC + 1)) (vaS (Q 1) iA (iC + 1)) (Q 6 8))) (by first | rfl | (simp [vaS, c16, -Int32.not_lt]; done) | (simp [vaS, byS, q1, c16, -Int32.not_lt]; done)) ?_
                      exact ihC (iC + 1) (by omega) (by omega) (q2.symm.trans h3C)
              exact LC (L + 1) 0 (by omega) (by omega) rfl
          · skip
            refine v_iconst h pX4_nextToken_1 2 rfl ki_1 (v_goto (tgt := 93) h pX4_nextToken_1 3 rfl rfl ?_)
            obtain ⟨hl, he⟩ := by_1 c2
            have htk : tk (Q 1) L iA = 1 := by rw [tk, if_pos hl, ← he]; simp [c1, c3]
            refine v_puti h pX4_nextToken_1 15 gX4_211 0 (ws' := mW cI b (E, Kp, Bf, As, tkQ Q 1 (nI iA) (nI iA) (Q 6 7) (Q 6 8))) rfl rfl rfl mW_t4 (v_aload_n h pX4_nextToken_1 16 rfl 1 rfl rfl (v_iconst h pX4_nextToken_1 17 rfl ki_0 (v_puti h pX4_nextToken_1 18 gX4_214 0 (ws' := mW cI b (E, Kp, Bf, As, tkQ Q 1 (nI iA) (nI iA) 0 (Q 6 8))) rfl rfl rfl mW_t7 ?_)))
            refine v_lv [1, 0] (lv' := [(0, .ref (b 0)), (1, .int (byS (Q 1) L iA))]) rfl ?_
            have LB : ∀ (m iB : Nat), iB ≤ L → L + 1 ≤ iB + m → sc (fun i => ltB (Q 1 i)) L iB = sc (fun i => ltB (Q 1 i)) L iA → V K (mW cI b (E, Kp, Bf, As, tkQ Q 1 (nI iA) (nI iB) 0 (Q 6 8))) 101 [(0, .ref (b 0)), (1, .int (byS (Q 1) L iA))] [] := by
              intro m
              induction m with
              | zero => exact fun iB h1 h2 h3 => absurd h2 (by omega)
              | succ m ihB =>
                intro iB h1B h2B h3B
                refine v_aload_n h pX4_nextToken_1 19 rfl 0 rfl rfl (v_get h pX4_nextToken_1 20 fX4_211 0 rfl rfl rfl (v_top (w := .int 1) rfl (v_iconst h pX4_nextToken_1 21 rfl ki_1 ?_)))
                refine v_ncmp_ne (a := 1) (b := 1) (tgt := 136) h pX4_nextToken_1 22 rfl rfl (by decide) (by decide) (fun c17 => absurd c17 (by decide)) (fun c17 => ?_)
                refine v_aload_n h pX4_nextToken_1 23 rfl 0 rfl rfl (v_aload_n h pX4_nextToken_1 24 rfl 0 rfl rfl (v_get h pX4_nextToken_1 25 fX4_196 0 rfl rfl rfl (v_top (w := .int (nI iB)) rfl ?_)))
                refine v_callV h pX4_nextToken_1 26 mX4_202 (As := [.int (nI iB)]) (st := []) (kX4_byteAt _ _ cI cS b E Kp Bf As (tkQ Q 1 (nI iA) (nI iB) 0 (Q 6 8)) iB L (by omega) hL hLb) v0B v0C (vEmb_rf _ _) 0 rfl rfl rfl rfl rfl rfl rfl (vDet_k ?_)
                show V K (mW cI b (E, Kp, Bf, As, tkQ Q 1 (nI iA) (nI iB) 0 (Q 6 8))) 117 [(0, .ref (b 0)), (1, .int (byS (Q 1) L iA))] [.int (byS (Q 1) L iB)]
                refine v_callS h pX4_nextToken_1 27 mX4_205 (As := [.int (byS (Q 1) L iB)]) (st := []) (kX4_isLetter _ _ cI cS (byS (Q 1) L iB)) v0B v0C (vEmb_u _) rfl rfl rfl rfl rfl (vDet_k ?_)
                show V K (mW cI b (E, Kp, Bf, As, tkQ Q 1 (nI iA) (nI iB) 0 (Q 6 8))) 120 [(0, .ref (b 0)), (1, .int (byS (Q 1) L iA))] [.int (bI (ltB (byS (Q 1) L iB)))]
                refine v_bif_eq (tgt := 136) h pX4_nextToken_1 28 rfl rfl (fun c18 => ?_) (fun c18 => ?_)
                · skip
                  refine v_aload_n h pX4_nextToken_2 4 rfl 0 rfl rfl (v_get h pX4_nextToken_2 5 fX4_211 0 rfl rfl rfl (v_top (w := .int 1) rfl (v_iconst h pX4_nextToken_2 6 rfl ki_2 ?_)))
                  refine v_ncmp_ne (a := 1) (b := 2) (tgt := 211) h pX4_nextToken_2 7 rfl rfl (by decide) (by decide) (fun c19 => ?_) (fun c19 => absurd c19 (by decide))
                  refine v_aload_n h pX4_nextToken_3 9 rfl 0 rfl rfl (v_dup h pX4_nextToken_3 10 rfl rfl (v_get h pX4_nextToken_3 11 fX4_196 0 rfl rfl rfl (v_top (w := .int (nI iB)) rfl (v_aload_n h pX4_nextToken_3 12 rfl 0 rfl rfl (v_get h pX4_nextToken_3 13 fX4_211 0 rfl rfl rfl ?_)))))
                  refine v_top (w := .int 1) rfl (v_iconst h pX4_nextToken_3 14 rfl ki_2 ?_)
                  refine v_ncmp_le (a := 1) (b := 2) (tgt := 228) h pX4_nextToken_3 15 rfl rfl (by decide) (by decide) (fun c20 => ?_) (fun c20 => absurd c20 (by decide))
                  refine v_iconst h pX4_nextToken_3 18 rfl ki_0 (v_iaddn h pX4_nextToken_3 19 iB 0 rfl (v_puti h pX4_nextToken_3 20 gX4_196 0 (ws' := mW cI b (E, Kp, Bf, As, tkQ Q 1 (nI iA) (nI (iB + 0)) 0 (Q 6 8))) rfl rfl rfl mW_t6 ?_))
                  have hen : en (Q 1) L iA = (iB + 0) := by simp only [en, htk, if_true]; exact h3B.symm.trans (lt_f c18)
                  have hnm : nmV (Q 1) L iA = 0 := by simp [nmV, htk]
                  exact v_vret h pX4_nextToken_3 21 hR hret rfl ((E, Kp, Bf, As, tkQ Q 1 (nI iA) (nI (iB + 0)) 0 (Q 6 8))) rfl ⟨rfl, (by exact congrArg (fun q => ((E, Kp, Bf, As, q) : mS)) (by rw [hf]; exact tkF_j htk hen hnm))⟩
                · skip
                  refine v_aload_n h pX4_nextToken_1 29 rfl 0 rfl rfl (v_dup h pX4_nextToken_1 30 rfl rfl (v_get h pX4_nextToken_1 31 fX4_196 0 rfl rfl rfl (v_top (w := .int (nI iB)) rfl (v_iconst h pX4_nextToken_2 0 rfl ki_1 (v_iaddn h pX4_nextToken_2 1 iB 1 rfl ?_)))))
                  refine v_puti h pX4_nextToken_2 2 gX4_196 0 (ws' := mW cI b (E, Kp, Bf, As, tkQ Q 1 (nI iA) (nI (iB + 1)) 0 (Q 6 8))) rfl rfl rfl mW_t6 (v_goto (tgt := 101) h pX4_nextToken_2 3 rfl rfl ?_)
                  obtain ⟨q1, q2⟩ := lt_t c18
                  exact ihB (iB + 1) (by omega) (by omega) (q2.symm.trans h3B)
            exact LB (L + 1) iA (by omega) (by omega) rfl
        · skip
          refine v_iconst h pX4_nextToken_0 29 rfl ki_0 (v_goto (tgt := 93) h pX4_nextToken_0 30 rfl rfl ?_)
          have htk : tk (Q 1) L iA = 0 := by_0 hT hLb c2
          refine v_puti h pX4_nextToken_1 15 gX4_211 0 (ws' := mW cI b (E, Kp, Bf, As, tkQ Q 0 (nI iA) (nI iA) (Q 6 7) (Q 6 8))) rfl rfl rfl mW_t4 (v_aload_n h pX4_nextToken_1 16 rfl 1 rfl rfl (v_iconst h pX4_nextToken_1 17 rfl ki_0 (v_puti h pX4_nextToken_1 18 gX4_214 0 (ws' := mW cI b (E, Kp, Bf, As, tkQ Q 0 (nI iA) (nI iA) 0 (Q 6 8))) rfl rfl rfl mW_t7 ?_)))
          refine v_aload_n h pX4_nextToken_1 19 rfl 1 rfl rfl (v_get h pX4_nextToken_1 20 fX4_211 0 rfl rfl rfl (v_top (w := .int 0) rfl (v_iconst h pX4_nextToken_1 21 rfl ki_1 ?_)))
          refine v_ncmp_ne (a := 0) (b := 1) (tgt := 136) h pX4_nextToken_1 22 rfl rfl (by decide) (by decide) (fun c21 => ?_) (fun c21 => absurd c21 (by decide))
          refine v_aload_n h pX4_nextToken_2 4 rfl 1 rfl rfl (v_get h pX4_nextToken_2 5 fX4_211 0 rfl rfl rfl (v_top (w := .int 0) rfl (v_iconst h pX4_nextToken_2 6 rfl ki_2 ?_)))
          refine v_ncmp_ne (a := 0) (b := 2) (tgt := 211) h pX4_nextToken_2 7 rfl rfl (by decide) (by decide) (fun c22 => ?_) (fun c22 => absurd c22 (by decide))
          refine v_aload_n h pX4_nextToken_3 9 rfl 1 rfl rfl (v_dup h pX4_nextToken_3 10 rfl rfl (v_get h pX4_nextToken_3 11 fX4_196 0 rfl rfl rfl (v_top (w := .int (nI iA)) rfl (v_aload_n h pX4_nextToken_3 12 rfl 1 rfl rfl (v_get h pX4_nextToken_3 13 fX4_211 0 rfl rfl rfl ?_)))))
          refine v_top (w := .int 0) rfl (v_iconst h pX4_nextToken_3 14 rfl ki_2 ?_)
          refine v_ncmp_le (a := 0) (b := 2) (tgt := 228) h pX4_nextToken_3 15 rfl rfl (by decide) (by decide) (fun c23 => ?_) (fun c23 => absurd c23 (by decide))
          refine v_iconst h pX4_nextToken_3 18 rfl ki_0 (v_iaddn h pX4_nextToken_3 19 iA 0 rfl (v_puti h pX4_nextToken_3 20 gX4_196 0 (ws' := mW cI b (E, Kp, Bf, As, tkQ Q 0 (nI iA) (nI (iA + 0)) 0 (Q 6 8))) rfl rfl rfl mW_t6 ?_))
          have hen : en (Q 1) L iA = (iA + 0) := by simp [en, htk]
          have hnm : nmV (Q 1) L iA = 0 := by simp [nmV, htk]
          exact v_vret h pX4_nextToken_3 21 hR hret rfl ((E, Kp, Bf, As, tkQ Q 0 (nI iA) (nI (iA + 0)) 0 (Q 6 8))) rfl ⟨rfl, (by exact congrArg (fun q => ((E, Kp, Bf, As, q) : mS)) (by rw [hf]; exact tkF_j htk hen hnm))⟩
      · skip
        refine v_aload_n h pX4_nextToken_0 10 rfl 0 rfl rfl (v_dup h pX4_nextToken_0 11 rfl rfl (v_get h pX4_nextToken_0 12 fX4_199 0 rfl rfl rfl (v_top (w := .int (nI iA)) rfl (v_iconst h pX4_nextToken_0 13 rfl ki_1 (v_iaddn h pX4_nextToken_0 14 iA 1 rfl ?_)))))
        refine v_puti h pX4_nextToken_0 15 gX4_199 0 (ws' := mW cI b (E, Kp, Bf, As, tkQ Q (Q 6 4) (nI (iA + 1)) (nI p) (Q 6 7) (Q 6 8))) rfl rfl rfl mW_t5 (v_goto (tgt := 8) h pX4_nextToken_0 16 rfl rfl ?_)
        obtain ⟨q1, q2⟩ := sk_t c1
        exact ihA (iA + 1) (by omega) (by omega) (q2.symm.trans h3A)
  exact LA (L + 1) p (by omega) (by omega) rfl
