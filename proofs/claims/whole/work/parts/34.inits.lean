set_option maxHeartbeats 300000 in
set_option maxRecDepth 100000 in
theorem kX0_init (l : Launch) (D : va_G) (cI : ClassId) (tl : List (ClassId × FieldType)) (h0 : Nat) : vNew l D ((cI, .int) :: tl) yX0_init cX0_init 2 1 12 9 70 [(h0, .inr (0, [.null, .null, .null, .null, .null, .null, .null, .null, .null, .int 0, .int 0, .int 0, .int 0, .int 0]))] v0 [.ref h0] (fun _ : Nat → Nat => (cI, .int) :: tl) (fun a : Nat → Nat => eW cI a iniS) (fun a => a 0 = h0) := by
  refine vNew_of (by decide) rfl rfl ?_
  intro K hl hD hnL hret hin hN hR hEx
  subst hl hD
  have h := hN 0 0 (by decide) (by decide)
  show V (kC K 0 0) ([(h0, .inr (0, [.null, .null, .null, .null, .null, .null, .null, .null, .null, .int 0, .int 0, .int 0, .int 0, .int 0]))]) 0 [(0, .ref h0)] []
  refine v_aload_n h pX0_init_0 0 rfl 0 rfl rfl (v_objInit h pX0_init_0 1 wm_33 wm_10 wm_11 rfl rfl rfl ?_)
  have h1 := hN 1 6 (by decide) (by decide)
  refine v_aload_n h pX0_init_0 2 rfl 0 rfl rfl (v_bipush h pX0_init_0 3 rfl kb_6 (v_newa h (N := 6) h1 pX0_init_0 4 wm_27 rfl rfl rfl (by decide) (fun q1 => ?_)))
  show V (kC K 1 6) ([(h0, .inr (0, [.null, .null, .null, .null, .null, .null, .null, .null, .null, .int 0, .int 0, .int 0, .int 0, .int 0])), (q1, .inl (cI, 6, .inl (fun _ => 0)))]) 9 [(0, .ref h0)] [.ref q1, .ref h0]
  refine v_putF h1 hin pX0_init_0 5 ggX0_9 0 (ws' := [(h0, .inr (0, [.ref q1, .null, .null, .null, .null, .null, .null, .null, .null, .int 0, .int 0, .int 0, .int 0, .int 0])), (q1, .inl (cI, 6, .inl (fun _ => 0)))]) rfl rfl rfl rfl rfl rfl ?_
  have h2 := hN 2 12 (by decide) (by decide)
  refine v_aload_n h1 pX0_init_0 6 rfl 0 rfl rfl (v_bipush h1 pX0_init_0 7 rfl kb_6 (v_newa h1 (N := 6) h2 pX0_init_0 8 wm_27 rfl rfl rfl (by decide) (fun q2 => ?_)))
  show V (kC K 2 12) ([(h0, .inr (0, [.ref q1, .null, .null, .null, .null, .null, .null, .null, .null, .int 0, .int 0, .int 0, .int 0, .int 0])), (q1, .inl (cI, 6, .inl (fun _ => 0))), (q2, .inl (cI, 6, .inl (fun _ => 0)))]) 17 [(0, .ref h0)] [.ref q2, .ref h0]
  refine v_putF h2 hin pX0_init_0 9 ggX0_15 0 (ws' := [(h0, .inr (0, [.ref q1, .ref q2, .null, .null, .null, .null, .null, .null, .null, .int 0, .int 0, .int 0, .int 0, .int 0])), (q1, .inl (cI, 6, .inl (fun _ => 0))), (q2, .inl (cI, 6, .inl (fun _ => 0)))]) rfl rfl rfl rfl rfl rfl ?_
  have h3 := hN 3 20 (by decide) (by decide)
  refine v_aload_n h2 pX0_init_0 10 rfl 0 rfl rfl (v_bipush h2 pX0_init_0 11 rfl kb_8 (v_newa h2 (N := 8) h3 pX0_init_0 12 wm_27 rfl rfl rfl (by decide) (fun q3 => ?_)))
  show V (kC K 3 20) ([(h0, .inr (0, [.ref q1, .ref q2, .null, .null, .null, .null, .null, .null, .null, .int 0, .int 0, .int 0, .int 0, .int 0])), (q1, .inl (cI, 6, .inl (fun _ => 0))), (q2, .inl (cI, 6, .inl (fun _ => 0))), (q3, .inl (cI, 8, .inl (fun _ => 0)))]) 25 [(0, .ref h0)] [.ref q3, .ref h0]
  refine v_putF h3 hin pX0_init_0 13 ggX0_18 0 (ws' := [(h0, .inr (0, [.ref q1, .ref q2, .ref q3, .null, .null, .null, .null, .null, .null, .int 0, .int 0, .int 0, .int 0, .int 0])), (q1, .inl (cI, 6, .inl (fun _ => 0))), (q2, .inl (cI, 6, .inl (fun _ => 0))), (q3, .inl (cI, 8, .inl (fun _ => 0)))]) rfl rfl rfl rfl rfl rfl ?_
  have h4 := hN 4 28 (by decide) (by decide)
  refine v_aload_n h3 pX0_init_0 14 rfl 0 rfl rfl (v_bipush h3 pX0_init_0 15 rfl kb_8 (v_newa h3 (N := 8) h4 pX0_init_0 16 wm_27 rfl rfl rfl (by decide) (fun q4 => ?_)))
  show V (kC K 4 28) ([(h0, .inr (0, [.ref q1, .ref q2, .ref q3, .null, .null, .null, .null, .null, .null, .int 0, .int 0, .int 0, .int 0, .int 0])), (q1, .inl (cI, 6, .inl (fun _ => 0))), (q2, .inl (cI, 6, .inl (fun _ => 0))), (q3, .inl (cI, 8, .inl (fun _ => 0))), (q4, .inl (cI, 8, .inl (fun _ => 0)))]) 33 [(0, .ref h0)] [.ref q4, .ref h0]
  refine v_putF h4 hin pX0_init_0 17 ggX0_21 0 (ws' := [(h0, .inr (0, [.ref q1, .ref q2, .ref q3, .ref q4, .null, .null, .null, .null, .null, .int 0, .int 0, .int 0, .int 0, .int 0])), (q1, .inl (cI, 6, .inl (fun _ => 0))), (q2, .inl (cI, 6, .inl (fun _ => 0))), (q3, .inl (cI, 8, .inl (fun _ => 0))), (q4, .inl (cI, 8, .inl (fun _ => 0)))]) rfl rfl rfl rfl rfl rfl ?_
  have h5 := hN 5 36 (by decide) (by decide)
  refine v_aload_n h4 pX0_init_0 18 rfl 0 rfl rfl (v_bipush h4 pX0_init_0 19 rfl kb_8 (v_newa h4 (N := 8) h5 pX0_init_0 20 wm_27 rfl rfl rfl (by decide) (fun q5 => ?_)))
  show V (kC K 5 36) ([(h0, .inr (0, [.ref q1, .ref q2, .ref q3, .ref q4, .null, .null, .null, .null, .null, .int 0, .int 0, .int 0, .int 0, .int 0])), (q1, .inl (cI, 6, .inl (fun _ => 0))), (q2, .inl (cI, 6, .inl (fun _ => 0))), (q3, .inl (cI, 8, .inl (fun _ => 0))), (q4, .inl (cI, 8, .inl (fun _ => 0))), (q5, .inl (cI, 8, .inl (fun _ => 0)))]) 41 [(0, .ref h0)] [.ref q5, .ref h0]
  refine v_putF h5 hin pX0_init_0 21 ggX0_24 0 (ws' := [(h0, .inr (0, [.ref q1, .ref q2, .ref q3, .ref q4, .ref q5, .null, .null, .null, .null, .int 0, .int 0, .int 0, .int 0, .int 0])), (q1, .inl (cI, 6, .inl (fun _ => 0))), (q2, .inl (cI, 6, .inl (fun _ => 0))), (q3, .inl (cI, 8, .inl (fun _ => 0))), (q4, .inl (cI, 8, .inl (fun _ => 0))), (q5, .inl (cI, 8, .inl (fun _ => 0)))]) rfl rfl rfl rfl rfl rfl ?_
  have h6 := hN 6 44 (by decide) (by decide)
  refine v_aload_n h5 pX0_init_0 22 rfl 0 rfl rfl (v_bipush h5 pX0_init_0 23 rfl kb_8 (v_newa h5 (N := 8) h6 pX0_init_0 24 wm_27 rfl rfl rfl (by decide) (fun q6 => ?_)))
  show V (kC K 6 44) ([(h0, .inr (0, [.ref q1, .ref q2, .ref q3, .ref q4, .ref q5, .null, .null, .null, .null, .int 0, .int 0, .int 0, .int 0, .int 0])), (q1, .inl (cI, 6, .inl (fun _ => 0))), (q2, .inl (cI, 6, .inl (fun _ => 0))), (q3, .inl (cI, 8, .inl (fun _ => 0))), (q4, .inl (cI, 8, .inl (fun _ => 0))), (q5, .inl (cI, 8, .inl (fun _ => 0))), (q6, .inl (cI, 8, .inl (fun _ => 0)))]) 49 [(0, .ref h0)] [.ref q6, .ref h0]
  refine v_putF h6 hin pX0_init_0 25 ggX0_27 0 (ws' := [(h0, .inr (0, [.ref q1, .ref q2, .ref q3, .ref q4, .ref q5, .ref q6, .null, .null, .null, .int 0, .int 0, .int 0, .int 0, .int 0])), (q1, .inl (cI, 6, .inl (fun _ => 0))), (q2, .inl (cI, 6, .inl (fun _ => 0))), (q3, .inl (cI, 8, .inl (fun _ => 0))), (q4, .inl (cI, 8, .inl (fun _ => 0))), (q5, .inl (cI, 8, .inl (fun _ => 0))), (q6, .inl (cI, 8, .inl (fun _ => 0)))]) rfl rfl rfl rfl rfl rfl ?_
  have h7 := hN 7 52 (by decide) (by decide)
  refine v_aload_n h6 pX0_init_0 26 rfl 0 rfl rfl (v_bipush h6 pX0_init_0 27 rfl kb_8 (v_newa h6 (N := 8) h7 pX0_init_0 28 wm_27 rfl rfl rfl (by decide) (fun q7 => ?_)))
  show V (kC K 7 52) ([(h0, .inr (0, [.ref q1, .ref q2, .ref q3, .ref q4, .ref q5, .ref q6, .null, .null, .null, .int 0, .int 0, .int 0, .int 0, .int 0])), (q1, .inl (cI, 6, .inl (fun _ => 0))), (q2, .inl (cI, 6, .inl (fun _ => 0))), (q3, .inl (cI, 8, .inl (fun _ => 0))), (q4, .inl (cI, 8, .inl (fun _ => 0))), (q5, .inl (cI, 8, .inl (fun _ => 0))), (q6, .inl (cI, 8, .inl (fun _ => 0))), (q7, .inl (cI, 8, .inl (fun _ => 0)))]) 57 [(0, .ref h0)] [.ref q7, .ref h0]
  refine v_putF h7 hin pX0_init_0 29 ggX0_30 0 (ws' := [(h0, .inr (0, [.ref q1, .ref q2, .ref q3, .ref q4, .ref q5, .ref q6, .ref q7, .null, .null, .int 0, .int 0, .int 0, .int 0, .int 0])), (q1, .inl (cI, 6, .inl (fun _ => 0))), (q2, .inl (cI, 6, .inl (fun _ => 0))), (q3, .inl (cI, 8, .inl (fun _ => 0))), (q4, .inl (cI, 8, .inl (fun _ => 0))), (q5, .inl (cI, 8, .inl (fun _ => 0))), (q6, .inl (cI, 8, .inl (fun _ => 0))), (q7, .inl (cI, 8, .inl (fun _ => 0)))]) rfl rfl rfl rfl rfl rfl ?_
  have h8 := hN 8 60 (by decide) (by decide)
  refine v_aload_n h7 pX0_init_0 30 rfl 0 rfl rfl (v_bipush h7 pX0_init_0 31 rfl kb_8 (v_newa h7 (N := 8) h8 pX0_init_1 0 wm_27 rfl rfl rfl (by decide) (fun q8 => ?_)))
  show V (kC K 8 60) ([(h0, .inr (0, [.ref q1, .ref q2, .ref q3, .ref q4, .ref q5, .ref q6, .ref q7, .null, .null, .int 0, .int 0, .int 0, .int 0, .int 0])), (q1, .inl (cI, 6, .inl (fun _ => 0))), (q2, .inl (cI, 6, .inl (fun _ => 0))), (q3, .inl (cI, 8, .inl (fun _ => 0))), (q4, .inl (cI, 8, .inl (fun _ => 0))), (q5, .inl (cI, 8, .inl (fun _ => 0))), (q6, .inl (cI, 8, .inl (fun _ => 0))), (q7, .inl (cI, 8, .inl (fun _ => 0))), (q8, .inl (cI, 8, .inl (fun _ => 0)))]) 65 [(0, .ref h0)] [.ref q8, .ref h0]
  refine v_putF h8 hin pX0_init_1 1 ggX0_33 0 (ws' := [(h0, .inr (0, [.ref q1, .ref q2, .ref q3, .ref q4, .ref q5, .ref q6, .ref q7, .ref q8, .null, .int 0, .int 0, .int 0, .int 0, .int 0])), (q1, .inl (cI, 6, .inl (fun _ => 0))), (q2, .inl (cI, 6, .inl (fun _ => 0))), (q3, .inl (cI, 8, .inl (fun _ => 0))), (q4, .inl (cI, 8, .inl (fun _ => 0))), (q5, .inl (cI, 8, .inl (fun _ => 0))), (q6, .inl (cI, 8, .inl (fun _ => 0))), (q7, .inl (cI, 8, .inl (fun _ => 0))), (q8, .inl (cI, 8, .inl (fun _ => 0)))]) rfl rfl rfl rfl rfl rfl ?_
  have h9 := hN 9 70 (by decide) (by decide)
  refine v_aload_n h8 pX0_init_1 2 rfl 0 rfl rfl (v_bipush h8 pX0_init_1 3 rfl kb_10 (v_newa h8 (N := 10) h9 pX0_init_1 4 wm_27 rfl rfl rfl (by decide) (fun q9 => ?_)))
  show V (kC K 9 70) ([(h0, .inr (0, [.ref q1, .ref q2, .ref q3, .ref q4, .ref q5, .ref q6, .ref q7, .ref q8, .null, .int 0, .int 0, .int 0, .int 0, .int 0])), (q1, .inl (cI, 6, .inl (fun _ => 0))), (q2, .inl (cI, 6, .inl (fun _ => 0))), (q3, .inl (cI, 8, .inl (fun _ => 0))), (q4, .inl (cI, 8, .inl (fun _ => 0))), (q5, .inl (cI, 8, .inl (fun _ => 0))), (q6, .inl (cI, 8, .inl (fun _ => 0))), (q7, .inl (cI, 8, .inl (fun _ => 0))), (q8, .inl (cI, 8, .inl (fun _ => 0))), (q9, .inl (cI, 10, .inl (fun _ => 0)))]) 73 [(0, .ref h0)] [.ref q9, .ref h0]
  refine v_putF h9 hin pX0_init_1 5 ggX0_36 0 (ws' := [(h0, .inr (0, [.ref q1, .ref q2, .ref q3, .ref q4, .ref q5, .ref q6, .ref q7, .ref q8, .ref q9, .int 0, .int 0, .int 0, .int 0, .int 0])), (q1, .inl (cI, 6, .inl (fun _ => 0))), (q2, .inl (cI, 6, .inl (fun _ => 0))), (q3, .inl (cI, 8, .inl (fun _ => 0))), (q4, .inl (cI, 8, .inl (fun _ => 0))), (q5, .inl (cI, 8, .inl (fun _ => 0))), (q6, .inl (cI, 8, .inl (fun _ => 0))), (q7, .inl (cI, 8, .inl (fun _ => 0))), (q8, .inl (cI, 8, .inl (fun _ => 0))), (q9, .inl (cI, 10, .inl (fun _ => 0)))]) rfl rfl rfl rfl rfl rfl ?_
  have ha0 : (adL [h0, q1, q2, q3, q4, q5, q6, q7, q8, q9]) 0 = h0 := rfl
  refine v_eqw (ws' := eW cI (adL [h0, q1, q2, q3, q4, q5, q6, q7, q8, q9]) z2) rfl ?_
  show V (kC K 9 70) (eW cI (adL [h0, q1, q2, q3, q4, q5, q6, q7, q8, q9]) z2) 76 [(0, .ref ((adL [h0, q1, q2, q3, q4, q5, q6, q7, q8, q9]) 0))] []
  generalize adL [h0, q1, q2, q3, q4, q5, q6, q7, q8, q9] = a at ha0 ⊢
  have h9 := hN 9 70 (by decide) (by decide)
  have hnL9 : (kC K 9 70).2.2.1.2.2.2 = 2 := hnL
  have hret9 : (kC K 9 70).2.1.2.2.2.2.1.sig.returnType = none := hret
  have hR9 : vRK (kC K 9 70) (fun a => a 0 = h0) (fun _ => (cI, .int) :: tl) (fun a : Nat → Nat => eW cI a iniS) := hR
  generalize kC K 9 70 = K at h9 hnL9 hret9 hR9 ⊢
  have h := h9
  have hnL := hnL9
  have hret := hret9
  have hR := hR9
  refine v_iconst h pX0_init_1 6 rfl ki_0 (v_istore_n h pX0_init_1 7 (lv' := [(1, .int 0), (0, .ref (a 0))]) rfl rfl hnL rfl rfl ?_)
  refine v_lv [1, 0] (lv' := [(0, .ref (a 0)), (1, .int 0)]) rfl ?_
  have L1 : ∀ (m i1 : Nat), i1 ≤ 6 → 6 + 1 ≤ i1 + m → V K (eW cI a (in1 z2 i1)) 78 [(0, .ref (a 0)), (1, .int (nI i1))] [] := by
    intro m
    induction m with
    | zero => exact fun i1 h1 h2 => absurd h2 (by omega)
    | succ m ih1 =>
      intro i1 hle1 hlt1
      generalize hSA : in1 z2 i1 = SA
      refine v_iload_n h pX0_init_1 8 rfl 1 rfl rfl (v_bipush h pX0_init_1 9 rfl kb_6 ?_)
      refine v_ncmp_ge (a := i1) (b := 6) (tgt := 105) h pX0_init_1 10 rfl rfl (by omega) (by omega) (fun c3 => ?_) (fun c3 => ?_)
      · skip
        obtain rfl : 6 = i1 := by omega
        refine v_iconst h pX0_init_1 23 rfl ki_0 (v_istore_n h pX0_init_1 24 (lv' := [(1, .int 0), (0, .ref (a 0))]) rfl rfl hnL rfl rfl ?_)
        refine v_lv [1, 0] (lv' := [(0, .ref (a 0)), (1, .int 0)]) rfl ?_
        have L4 : ∀ (m i4 : Nat), i4 ≤ 10 → 10 + 1 ≤ i4 + m → V K (eW cI a (in2 SA i4)) 107 [(0, .ref (a 0)), (1, .int (nI i4))] [] := by
          intro m
          induction m with
          | zero => exact fun i4 h1 h2 => absurd h2 (by omega)
          | succ m ih4 =>
            intro i4 hle4 hlt4
            generalize hSB : in2 SA i4 = SB
            refine v_iload_n h pX0_init_1 25 rfl 1 rfl rfl (v_bipush h pX0_init_1 26 rfl kb_10 ?_)
            refine v_ncmp_ge (a := i4) (b := 10) (tgt := 126) h pX0_init_1 27 rfl rfl (by omega) (by omega) (fun c6 => ?_) (fun c6 => ?_)
            · skip
              obtain rfl : 10 = i4 := by omega
              refine v_aload_n h pX0_init_2 3 rfl 0 rfl rfl (v_iconst h pX0_init_2 4 rfl ki_0 (v_puti h pX0_init_2 5 gX0_39 0 (ws' := eW cI a (up SB 9 0 0)) rfl rfl rfl eW_p0 (v_aload_n h pX0_init_2 6 rfl 0 rfl rfl (v_bipush h pX0_init_2 7 rfl kb_20 (v_puti h pX0_init_2 8 gX0_43 0 (ws' := eW cI a (up (up SB 9 0 0) 9 1 20)) rfl rfl rfl eW_p1 ?_)))))
              refine v_aload_n h pX0_init_2 9 rfl 0 rfl rfl (v_iconst h pX0_init_2 10 rfl ki_0 (v_puti h pX0_init_2 11 gX0_46 0 (ws' := eW cI a (up (up (up SB 9 0 0) 9 1 20) 9 2 0)) rfl rfl rfl eW_p2 (v_aload_n h pX0_init_2 12 rfl 0 rfl rfl (v_iconst h pX0_init_2 13 rfl ki_1 (v_puti h pX0_init_2 14 gX0_49 0 (ws' := eW cI a (up (up (up (up SB 9 0 0) 9 1 20) 9 2 0) 9 3 1)) rfl rfl rfl eW_p3 ?_)))))
              refine v_aload_n h pX0_init_2 15 rfl 0 rfl rfl (v_iconst h pX0_init_2 16 rfl ki_0 (v_puti h pX0_init_2 17 gX0_52 0 (ws' := eW cI a (up (up (up (up (up SB 9 0 0) 9 1 20) 9 2 0) 9 3 1) 9 4 0)) rfl rfl rfl eW_p4 ?_))
              exact v_vretK a h pX0_init_2 18 hR hret rfl (by subst hSB; subst hSA; rfl) ha0
            · skip
              refine v_aload_n h pX0_init_1 28 rfl 0 rfl rfl (v_get h pX0_init_1 29 fX0_36 0 rfl rfl rfl (v_iload_n h pX0_init_1 30 rfl 1 rfl rfl (v_iconst h pX0_init_1 31 rfl ki_m1 (v_iast h pX0_init_2 0 i4 9 0 (ws' := eW cI a (up SB 8 i4 (-1))) rfl rfl rfl rfl rfl (by omega) eW_s8 (v_iinc h pX0_init_2 1 (v := nI (i4 + 1)) (lv' := [(1, .int (nI (i4 + 1))), (0, .ref (a 0))]) rfl 1 rfl hnL rfl rfl (nI_1 i4) ?_)))))
              refine v_goto (tgt := 107) h pX0_init_2 2 rfl rfl (v_lv [1, 0] (lv' := [(0, .ref (a 0)), (1, .int (nI (i4 + 1)))]) rfl (v_eqw (ws' := eW cI a (in2 SA (i4 + 1))) (by rw [in2, hSB]) ?_))
              exact ih4 (i4 + 1) (by omega) (by omega)
        exact L4 (10 + 1) 0 (by omega) (by omega)
      · skip
        refine v_aload_n h pX0_init_1 11 rfl 0 rfl rfl (v_get h pX0_init_1 12 fX0_9 0 rfl rfl rfl (v_iload_n h pX0_init_1 13 rfl 1 rfl rfl (v_bipush h pX0_init_1 14 rfl kb_100 (v_iast h pX0_init_1 15 i1 1 0 (ws' := eW cI a (up SA 0 i1 100)) rfl rfl rfl rfl rfl (by omega) eW_s0 (v_aload_n h pX0_init_1 16 rfl 0 rfl rfl ?_)))))
        refine v_get h pX0_init_1 17 fX0_15 0 rfl rfl rfl (v_iload_n h pX0_init_1 18 rfl 1 rfl rfl (v_iconst h pX0_init_1 19 rfl ki_3 (v_iast h pX0_init_1 20 i1 2 0 (ws' := eW cI a (up (up SA 0 i1 100) 1 i1 3)) rfl rfl rfl rfl rfl (by omega) eW_s1 (v_iinc h pX0_init_1 21 (v := nI (i1 + 1)) (lv' := [(1, .int (nI (i1 + 1))), (0, .ref (a 0))]) rfl 1 rfl hnL rfl rfl (nI_1 i1) (v_goto (tgt := 78) h pX0_init_1 22 rfl rfl ?_)))))
        refine v_lv [1, 0] (lv' := [(0, .ref (a 0)), (1, .int (nI (i1 + 1)))]) rfl (v_eqw (ws' := eW cI a (in1 z2 (i1 + 1))) (by rw [in1, hSA]) ?_)
        exact ih1 (i1 + 1) (by omega) (by omega)
  exact L1 (6 + 1) 0 (by omega) (by omega)
set_option maxHeartbeats 300000 in
set_option maxRecDepth 100000 in
theorem kX1_init (l : Launch) (D : va_G) (cI : ClassId) (tl : List (ClassId × FieldType)) (h0 : Nat) : vNew l D ((cI, .int) :: tl) yX1_init cX1_init 1 1 12 1 40 [(h0, .inr (1, [.null, .int 0, .int 0]))] v0 [.ref h0] (fun _ : Nat → Nat => (cI, .int) :: tl) (fun a : Nat → Nat => shW cI a z2) (fun a => a 0 = h0) := by
  refine vNew_of (by decide) rfl rfl ?_
  intro K hl hD hnL hret hin hN hR hEx
  subst hl hD
  have h := hN 0 0 (by decide) (by decide)
  show V (kC K 0 0) ([(h0, .inr (1, [.null, .int 0, .int 0]))]) 0 [(0, .ref h0)] []
  refine v_aload_n h pX1_init_0 0 rfl 0 rfl rfl (v_objInit h pX1_init_0 1 wm_63 wm_10 wm_11 rfl rfl rfl ?_)
  have h1 := hN 1 40 (by decide) (by decide)
  refine v_aload_n h pX1_init_0 2 rfl 0 rfl rfl (v_bipush h pX1_init_0 3 rfl kb_40 (v_newa h (N := 40) h1 pX1_init_0 4 wm_27 rfl rfl rfl (by decide) (fun q1 => ?_)))
  show V (kC K 1 40) ([(h0, .inr (1, [.null, .int 0, .int 0])), (q1, .inl (cI, 40, .inl (fun _ => 0)))]) 9 [(0, .ref h0)] [.ref q1, .ref h0]
  refine v_putF h1 hin pX1_init_0 5 ggX1_9 0 (ws' := [(h0, .inr (1, [.ref q1, .int 0, .int 0])), (q1, .inl (cI, 40, .inl (fun _ => 0)))]) rfl rfl rfl rfl rfl rfl ?_
  have ha0 : (adL [h0, q1]) 0 = h0 := rfl
  refine v_eqw (ws' := shW cI (adL [h0, q1]) z2) rfl ?_
  show V (kC K 1 40) (shW cI (adL [h0, q1]) z2) 12 [(0, .ref ((adL [h0, q1]) 0))] []
  generalize adL [h0, q1] = a at ha0 ⊢
  have h9 := hN 1 40 (by decide) (by decide)
  have hnL9 : (kC K 1 40).2.2.1.2.2.2 = 1 := hnL
  have hret9 : (kC K 1 40).2.1.2.2.2.2.1.sig.returnType = none := hret
  have hR9 : vRK (kC K 1 40) (fun a => a 0 = h0) (fun _ => (cI, .int) :: tl) (fun a : Nat → Nat => shW cI a z2) := hR
  generalize kC K 1 40 = K at h9 hnL9 hret9 hR9 ⊢
  have h := h9
  have hnL := hnL9
  have hret := hret9
  have hR := hR9
  refine v_aload_n h pX1_init_0 6 rfl 0 rfl rfl (v_iconst h pX1_init_0 7 rfl ki_0 (v_puti h pX1_init_0 8 gX1_15 0 (ws' := shW cI a (up z2 1 0 0)) rfl rfl rfl shW_p0 (v_aload_n h pX1_init_0 9 rfl 0 rfl rfl (v_iconst h pX1_init_0 10 rfl ki_0 (v_puti h pX1_init_0 11 gX1_19 0 (ws' := shW cI a (up (up z2 1 0 0) 1 1 0)) rfl rfl rfl shW_p1 ?_)))))
  exact v_vretK a h pX1_init_0 12 hR hret rfl (by rw [up_z, up_z]) ha0
set_option maxHeartbeats 300000 in
set_option maxRecDepth 100000 in
theorem kX2_init (l : Launch) (D : va_G) (cI : ClassId) (tl : List (ClassId × FieldType)) (h0 : Nat) : vNew l D ((cI, .int) :: tl) yX2_init cX2_init 1 1 12 4 483 [(h0, .inr (2, [.null, .null, .null, .null, .int 0, .int 0, .int 0, .int 0]))] v0 [.ref h0] (fun _ : Nat → Nat => (cI, .int) :: tl) (fun a : Nat → Nat => tW cI a z2) (fun a => a 0 = h0) := by
  refine vNew_of (by decide) rfl rfl ?_
  intro K hl hD hnL hret hin hN hR hEx
  subst hl hD
  have h := hN 0 0 (by decide) (by decide)
  show V (kC K 0 0) ([(h0, .inr (2, [.null, .null, .null, .null, .int 0, .int 0, .int 0, .int 0]))]) 0 [(0, .ref h0)] []
  refine v_aload_n h pX2_init_0 0 rfl 0 rfl rfl (v_objInit h pX2_init_0 1 wm_51 wm_10 wm_11 rfl rfl rfl ?_)
  have h1 := hN 1 120 (by decide) (by decide)
  refine v_aload_n h pX2_init_0 2 rfl 0 rfl rfl (v_bipush h pX2_init_0 3 rfl kb_120 (v_newa h (N := 120) h1 pX2_init_0 4 wm_27 rfl rfl rfl (by decide) (fun q1 => ?_)))
  show V (kC K 1 120) ([(h0, .inr (2, [.null, .null, .null, .null, .int 0, .int 0, .int 0, .int 0])), (q1, .inl (cI, 120, .inl (fun _ => 0)))]) 9 [(0, .ref h0)] [.ref q1, .ref h0]
  refine v_putF h1 hin pX2_init_0 5 ggX2_9 0 (ws' := [(h0, .inr (2, [.ref q1, .null, .null, .null, .int 0, .int 0, .int 0, .int 0])), (q1, .inl (cI, 120, .inl (fun _ => 0)))]) rfl rfl rfl rfl rfl rfl ?_
  have h2 := hN 2 241 (by decide) (by decide)
  refine v_aload_n h1 pX2_init_0 6 rfl 0 rfl rfl (v_bipush h1 pX2_init_0 7 rfl kb_121 (v_newa h1 (N := 121) h2 pX2_init_0 8 wm_27 rfl rfl rfl (by decide) (fun q2 => ?_)))
  show V (kC K 2 241) ([(h0, .inr (2, [.ref q1, .null, .null, .null, .int 0, .int 0, .int 0, .int 0])), (q1, .inl (cI, 120, .inl (fun _ => 0))), (q2, .inl (cI, 121, .inl (fun _ => 0)))]) 17 [(0, .ref h0)] [.ref q2, .ref h0]
  refine v_putF h2 hin pX2_init_0 9 ggX2_15 0 (ws' := [(h0, .inr (2, [.ref q1, .ref q2, .null, .null, .int 0, .int 0, .int 0, .int 0])), (q1, .inl (cI, 120, .inl (fun _ => 0))), (q2, .inl (cI, 121, .inl (fun _ => 0)))]) rfl rfl rfl rfl rfl rfl ?_
  have h3 := hN 3 362 (by decide) (by decide)
  refine v_aload_n h2 pX2_init_0 10 rfl 0 rfl rfl (v_bipush h2 pX2_init_0 11 rfl kb_121 (v_newa h2 (N := 121) h3 pX2_init_0 12 wm_27 rfl rfl rfl (by decide) (fun q3 => ?_)))
  show V (kC K 3 362) ([(h0, .inr (2, [.ref q1, .ref q2, .null, .null, .int 0, .int 0, .int 0, .int 0])), (q1, .inl (cI, 120, .inl (fun _ => 0))), (q2, .inl (cI, 121, .inl (fun _ => 0))), (q3, .inl (cI, 121, .inl (fun _ => 0)))]) 25 [(0, .ref h0)] [.ref q3, .ref h0]
  refine v_putF h3 hin pX2_init_0 13 ggX2_18 0 (ws' := [(h0, .inr (2, [.ref q1, .ref q2, .ref q3, .null, .int 0, .int 0, .int 0, .int 0])), (q1, .inl (cI, 120, .inl (fun _ => 0))), (q2, .inl (cI, 121, .inl (fun _ => 0))), (q3, .inl (cI, 121, .inl (fun _ => 0)))]) rfl rfl rfl rfl rfl rfl ?_
  have h4 := hN 4 483 (by decide) (by decide)
  refine v_aload_n h3 pX2_init_0 14 rfl 0 rfl rfl (v_bipush h3 pX2_init_0 15 rfl kb_121 (v_newa h3 (N := 121) h4 pX2_init_0 16 wm_27 rfl rfl rfl (by decide) (fun q4 => ?_)))
  show V (kC K 4 483) ([(h0, .inr (2, [.ref q1, .ref q2, .ref q3, .null, .int 0, .int 0, .int 0, .int 0])), (q1, .inl (cI, 120, .inl (fun _ => 0))), (q2, .inl (cI, 121, .inl (fun _ => 0))), (q3, .inl (cI, 121, .inl (fun _ => 0))), (q4, .inl (cI, 121, .inl (fun _ => 0)))]) 33 [(0, .ref h0)] [.ref q4, .ref h0]
  refine v_putF h4 hin pX2_init_0 17 ggX2_21 0 (ws' := [(h0, .inr (2, [.ref q1, .ref q2, .ref q3, .ref q4, .int 0, .int 0, .int 0, .int 0])), (q1, .inl (cI, 120, .inl (fun _ => 0))), (q2, .inl (cI, 121, .inl (fun _ => 0))), (q3, .inl (cI, 121, .inl (fun _ => 0))), (q4, .inl (cI, 121, .inl (fun _ => 0)))]) rfl rfl rfl rfl rfl rfl ?_
  have ha0 : (adL [h0, q1, q2, q3, q4]) 0 = h0 := rfl
  refine v_eqw (ws' := tW cI (adL [h0, q1, q2, q3, q4]) z2) rfl ?_
  show V (kC K 4 483) (tW cI (adL [h0, q1, q2, q3, q4]) z2) 36 [(0, .ref ((adL [h0, q1, q2, q3, q4]) 0))] []
  generalize adL [h0, q1, q2, q3, q4] = a at ha0 ⊢
  have h9 := hN 4 483 (by decide) (by decide)
  have hnL9 : (kC K 4 483).2.2.1.2.2.2 = 1 := hnL
  have hret9 : (kC K 4 483).2.1.2.2.2.2.1.sig.returnType = none := hret
  have hR9 : vRK (kC K 4 483) (fun a => a 0 = h0) (fun _ => (cI, .int) :: tl) (fun a : Nat → Nat => tW cI a z2) := hR
  generalize kC K 4 483 = K at h9 hnL9 hret9 hR9 ⊢
  have h := h9
  have hnL := hnL9
  have hret := hret9
  have hR := hR9
  refine v_aload_n h pX2_init_0 18 rfl 0 rfl rfl (v_iconst h pX2_init_0 19 rfl ki_0 (v_puti h pX2_init_0 20 gX2_24 0 (ws' := tW cI a (up z2 4 0 0)) rfl rfl rfl tW_p0 (v_aload_n h pX2_init_0 21 rfl 0 rfl rfl (v_iconst h pX2_init_0 22 rfl ki_0 (v_puti h pX2_init_0 23 gX2_28 0 (ws' := tW cI a (up (up z2 4 0 0) 4 1 0)) rfl rfl rfl tW_p1 ?_)))))
  refine v_aload_n h pX2_init_0 24 rfl 0 rfl rfl (v_iconst h pX2_init_0 25 rfl ki_0 (v_puti h pX2_init_0 26 gX2_31 0 (ws' := tW cI a (up (up (up z2 4 0 0) 4 1 0) 4 2 0)) rfl rfl rfl tW_p2 (v_aload_n h pX2_init_0 27 rfl 0 rfl rfl (v_iconst h pX2_init_0 28 rfl ki_0 (v_puti h pX2_init_0 29 gX2_34 0 (ws' := tW cI a (up (up (up (up z2 4 0 0) 4 1 0) 4 2 0) 4 3 0)) rfl rfl rfl tW_p3 ?_)))))
  exact v_vretK a h pX2_init_0 30 hR hret rfl (by rw [up_z, up_z, up_z, up_z]) ha0
set_option maxHeartbeats 300000 in
set_option maxRecDepth 100000 in
theorem kX4_init (l : Launch) (D : va_G) (cI : ClassId) (tl : List (ClassId × FieldType)) (h0 : Nat) : vNew l D ((cI, .int) :: tl) yX4_init cX4_init 2 1 12 10 600 [(h0, .inr (4, [.null, .null, .null, .null, .int 0, .null, .null, .int 0, .null, .null, .null, .null, .int 0, .int 0, .int 0, .int 0, .int 0, .int 0, .int 0]))] v0 [.ref h0] (fun _ : Nat → Nat => (cI, .int) :: tl) (fun b : Nat → Nat => mW cI b (iniS, z2, z2, z2, iniQ)) (fun b => b 0 = h0) := by
  refine vNew_of (by decide) rfl rfl ?_
  intro K hl hD hnL hret hin hN hR hEx
  subst hl hD
  have h := hN 0 0 (by decide) (by decide)
  show V (kC K 0 0) ([(h0, .inr (4, [.null, .null, .null, .null, .int 0, .null, .null, .int 0, .null, .null, .null, .null, .int 0, .int 0, .int 0, .int 0, .int 0, .int 0, .int 0]))]) 0 [(0, .ref h0)] []
  refine v_aload_n h pX4_init_0 0 rfl 0 rfl rfl (v_objInit h pX4_init_0 1 wm_70 wm_10 wm_11 rfl rfl rfl ?_)
  have h1 := hN 1 74 (by decide) (by decide)
  refine v_aload_n h pX4_init_0 2 rfl 0 rfl rfl (v_bipush h pX4_init_0 3 rfl kb_74 (v_newa h (N := 74) h1 pX4_init_0 4 wm_27 rfl rfl rfl (by decide) (fun q1 => ?_)))
  show V (kC K 1 74) ([(h0, .inr (4, [.null, .null, .null, .null, .int 0, .null, .null, .int 0, .null, .null, .null, .null, .int 0, .int 0, .int 0, .int 0, .int 0, .int 0, .int 0])), (q1, .inl (cI, 74, .inl (fun _ => 0)))]) 9 [(0, .ref h0)] [.ref q1, .ref h0]
  refine v_putF h1 hin pX4_init_0 5 ggX4_7 0 (ws' := [(h0, .inr (4, [.ref q1, .null, .null, .null, .int 0, .null, .null, .int 0, .null, .null, .null, .null, .int 0, .int 0, .int 0, .int 0, .int 0, .int 0, .int 0])), (q1, .inl (cI, 74, .inl (fun _ => 0)))]) rfl rfl rfl rfl rfl rfl ?_
  have h2 := hN 2 148 (by decide) (by decide)
  refine v_aload_n h1 pX4_init_0 6 rfl 0 rfl rfl (v_bipush h1 pX4_init_0 7 rfl kb_74 (v_newa h1 (N := 74) h2 pX4_init_0 8 wm_27 rfl rfl rfl (by decide) (fun q2 => ?_)))
  show V (kC K 2 148) ([(h0, .inr (4, [.ref q1, .null, .null, .null, .int 0, .null, .null, .int 0, .null, .null, .null, .null, .int 0, .int 0, .int 0, .int 0, .int 0, .int 0, .int 0])), (q1, .inl (cI, 74, .inl (fun _ => 0))), (q2, .inl (cI, 74, .inl (fun _ => 0)))]) 17 [(0, .ref h0)] [.ref q2, .ref h0]
  refine v_putF h2 hin pX4_init_0 9 ggX4_13 0 (ws' := [(h0, .inr (4, [.ref q1, .ref q2, .null, .null, .int 0, .null, .null, .int 0, .null, .null, .null, .null, .int 0, .int 0, .int 0, .int 0, .int 0, .int 0, .int 0])), (q1, .inl (cI, 74, .inl (fun _ => 0))), (q2, .inl (cI, 74, .inl (fun _ => 0)))]) rfl rfl rfl rfl rfl rfl ?_
  have h3 := hN 3 222 (by decide) (by decide)
  refine v_aload_n h2 pX4_init_0 10 rfl 0 rfl rfl (v_bipush h2 pX4_init_0 11 rfl kb_74 (v_newa h2 (N := 74) h3 pX4_init_0 12 wm_27 rfl rfl rfl (by decide) (fun q3 => ?_)))
  show V (kC K 3 222) ([(h0, .inr (4, [.ref q1, .ref q2, .null, .null, .int 0, .null, .null, .int 0, .null, .null, .null, .null, .int 0, .int 0, .int 0, .int 0, .int 0, .int 0, .int 0])), (q1, .inl (cI, 74, .inl (fun _ => 0))), (q2, .inl (cI, 74, .inl (fun _ => 0))), (q3, .inl (cI, 74, .inl (fun _ => 0)))]) 25 [(0, .ref h0)] [.ref q3, .ref h0]
  refine v_putF h3 hin pX4_init_0 13 ggX4_16 0 (ws' := [(h0, .inr (4, [.ref q1, .ref q2, .ref q3, .null, .int 0, .null, .null, .int 0, .null, .null, .null, .null, .int 0, .int 0, .int 0, .int 0, .int 0, .int 0, .int 0])), (q1, .inl (cI, 74, .inl (fun _ => 0))), (q2, .inl (cI, 74, .inl (fun _ => 0))), (q3, .inl (cI, 74, .inl (fun _ => 0)))]) rfl rfl rfl rfl rfl rfl ?_
  have h4 := hN 4 296 (by decide) (by decide)
  refine v_aload_n h3 pX4_init_0 14 rfl 0 rfl rfl (v_bipush h3 pX4_init_0 15 rfl kb_74 (v_newa h3 (N := 74) h4 pX4_init_0 16 wm_27 rfl rfl rfl (by decide) (fun q4 => ?_)))
  show V (kC K 4 296) ([(h0, .inr (4, [.ref q1, .ref q2, .ref q3, .null, .int 0, .null, .null, .int 0, .null, .null, .null, .null, .int 0, .int 0, .int 0, .int 0, .int 0, .int 0, .int 0])), (q1, .inl (cI, 74, .inl (fun _ => 0))), (q2, .inl (cI, 74, .inl (fun _ => 0))), (q3, .inl (cI, 74, .inl (fun _ => 0))), (q4, .inl (cI, 74, .inl (fun _ => 0)))]) 33 [(0, .ref h0)] [.ref q4, .ref h0]
  refine v_putF h4 hin pX4_init_0 17 ggX4_19 0 (ws' := [(h0, .inr (4, [.ref q1, .ref q2, .ref q3, .ref q4, .int 0, .null, .null, .int 0, .null, .null, .null, .null, .int 0, .int 0, .int 0, .int 0, .int 0, .int 0, .int 0])), (q1, .inl (cI, 74, .inl (fun _ => 0))), (q2, .inl (cI, 74, .inl (fun _ => 0))), (q3, .inl (cI, 74, .inl (fun _ => 0))), (q4, .inl (cI, 74, .inl (fun _ => 0)))]) rfl rfl rfl rfl rfl rfl ?_
  have h5 := hN 5 304 (by decide) (by decide)
  refine v_aload_n h4 pX4_init_0 18 rfl 0 rfl rfl (v_bipush h4 pX4_init_0 19 rfl kb_8 (v_newa h4 (N := 8) h5 pX4_init_0 20 wm_27 rfl rfl rfl (by decide) (fun q5 => ?_)))
  show V (kC K 5 304) ([(h0, .inr (4, [.ref q1, .ref q2, .ref q3, .ref q4, .int 0, .null, .null, .int 0, .null, .null, .null, .null, .int 0, .int 0, .int 0, .int 0, .int 0, .int 0, .int 0])), (q1, .inl (cI, 74, .inl (fun _ => 0))), (q2, .inl (cI, 74, .inl (fun _ => 0))), (q3, .inl (cI, 74, .inl (fun _ => 0))), (q4, .inl (cI, 74, .inl (fun _ => 0))), (q5, .inl (cI, 8, .inl (fun _ => 0)))]) 41 [(0, .ref h0)] [.ref q5, .ref h0]
  refine v_putF h5 hin pX4_init_0 21 ggX4_22 0 (ws' := [(h0, .inr (4, [.ref q1, .ref q2, .ref q3, .ref q4, .int 0, .ref q5, .null, .int 0, .null, .null, .null, .null, .int 0, .int 0, .int 0, .int 0, .int 0, .int 0, .int 0])), (q1, .inl (cI, 74, .inl (fun _ => 0))), (q2, .inl (cI, 74, .inl (fun _ => 0))), (q3, .inl (cI, 74, .inl (fun _ => 0))), (q4, .inl (cI, 74, .inl (fun _ => 0))), (q5, .inl (cI, 8, .inl (fun _ => 0)))]) rfl rfl rfl rfl rfl rfl ?_
  have h6 := hN 6 424 (by decide) (by decide)
  refine v_aload_n h5 pX4_init_0 22 rfl 0 rfl rfl (v_bipush h5 pX4_init_0 23 rfl kb_120 (v_newa h5 (N := 120) h6 pX4_init_0 24 wm_27 rfl rfl rfl (by decide) (fun q6 => ?_)))
  show V (kC K 6 424) ([(h0, .inr (4, [.ref q1, .ref q2, .ref q3, .ref q4, .int 0, .ref q5, .null, .int 0, .null, .null, .null, .null, .int 0, .int 0, .int 0, .int 0, .int 0, .int 0, .int 0])), (q1, .inl (cI, 74, .inl (fun _ => 0))), (q2, .inl (cI, 74, .inl (fun _ => 0))), (q3, .inl (cI, 74, .inl (fun _ => 0))), (q4, .inl (cI, 74, .inl (fun _ => 0))), (q5, .inl (cI, 8, .inl (fun _ => 0))), (q6, .inl (cI, 120, .inl (fun _ => 0)))]) 49 [(0, .ref h0)] [.ref q6, .ref h0]
  refine v_putF h6 hin pX4_init_0 25 ggX4_25 0 (ws' := [(h0, .inr (4, [.ref q1, .ref q2, .ref q3, .ref q4, .int 0, .ref q5, .ref q6, .int 0, .null, .null, .null, .null, .int 0, .int 0, .int 0, .int 0, .int 0, .int 0, .int 0])), (q1, .inl (cI, 74, .inl (fun _ => 0))), (q2, .inl (cI, 74, .inl (fun _ => 0))), (q3, .inl (cI, 74, .inl (fun _ => 0))), (q4, .inl (cI, 74, .inl (fun _ => 0))), (q5, .inl (cI, 8, .inl (fun _ => 0))), (q6, .inl (cI, 120, .inl (fun _ => 0)))]) rfl rfl rfl rfl rfl rfl ?_
  have h7 := hN 7 428 (by decide) (by decide)
  refine v_aload_n h6 pX4_init_0 26 rfl 0 rfl rfl (v_iconst h6 pX4_init_0 27 rfl ki_4 (v_newa h6 (N := 4) h7 pX4_init_0 28 wm_27 rfl rfl rfl (by decide) (fun q7 => ?_)))
  show V (kC K 7 428) ([(h0, .inr (4, [.ref q1, .ref q2, .ref q3, .ref q4, .int 0, .ref q5, .ref q6, .int 0, .null, .null, .null, .null, .int 0, .int 0, .int 0, .int 0, .int 0, .int 0, .int 0])), (q1, .inl (cI, 74, .inl (fun _ => 0))), (q2, .inl (cI, 74, .inl (fun _ => 0))), (q3, .inl (cI, 74, .inl (fun _ => 0))), (q4, .inl (cI, 74, .inl (fun _ => 0))), (q5, .inl (cI, 8, .inl (fun _ => 0))), (q6, .inl (cI, 120, .inl (fun _ => 0))), (q7, .inl (cI, 4, .inl (fun _ => 0)))]) 56 [(0, .ref h0)] [.ref q7, .ref h0]
  refine v_dup h7 pX4_init_0 29 rfl rfl (v_iconst h7 pX4_init_0 30 rfl ki_0 (v_iconst h7 pX4_init_0 31 rfl ki_m1 ?_))
  refine v_iast h7 pX4_init_1 0 0 7 0 (ws' := [(h0, .inr (4, [.ref q1, .ref q2, .ref q3, .ref q4, .int 0, .ref q5, .ref q6, .int 0, .null, .null, .null, .null, .int 0, .int 0, .int 0, .int 0, .int 0, .int 0, .int 0])), (q1, .inl (cI, 74, .inl (fun _ => 0))), (q2, .inl (cI, 74, .inl (fun _ => 0))), (q3, .inl (cI, 74, .inl (fun _ => 0))), (q4, .inl (cI, 74, .inl (fun _ => 0))), (q5, .inl (cI, 8, .inl (fun _ => 0))), (q6, .inl (cI, 120, .inl (fun _ => 0))), (q7, .inl (cI, 4, .inl (upd (fun _ => 0) 0 (-1))))]) rfl rfl rfl rfl rfl (by decide) rfl ?_
  refine v_dup h7 pX4_init_1 1 rfl rfl (v_iconst h7 pX4_init_1 2 rfl ki_1 (v_iconst h7 pX4_init_1 3 rfl ki_m1 ?_))
  refine v_iast h7 pX4_init_1 4 1 7 0 (ws' := [(h0, .inr (4, [.ref q1, .ref q2, .ref q3, .ref q4, .int 0, .ref q5, .ref q6, .int 0, .null, .null, .null, .null, .int 0, .int 0, .int 0, .int 0, .int 0, .int 0, .int 0])), (q1, .inl (cI, 74, .inl (fun _ => 0))), (q2, .inl (cI, 74, .inl (fun _ => 0))), (q3, .inl (cI, 74, .inl (fun _ => 0))), (q4, .inl (cI, 74, .inl (fun _ => 0))), (q5, .inl (cI, 8, .inl (fun _ => 0))), (q6, .inl (cI, 120, .inl (fun _ => 0))), (q7, .inl (cI, 4, .inl (upd (upd (fun _ => 0) 0 (-1)) 1 (-1))))]) rfl rfl rfl rfl rfl (by decide) rfl ?_
  refine v_dup h7 pX4_init_1 5 rfl rfl (v_iconst h7 pX4_init_1 6 rfl ki_2 (v_iconst h7 pX4_init_1 7 rfl ki_m1 ?_))
  refine v_iast h7 pX4_init_1 8 2 7 0 (ws' := [(h0, .inr (4, [.ref q1, .ref q2, .ref q3, .ref q4, .int 0, .ref q5, .ref q6, .int 0, .null, .null, .null, .null, .int 0, .int 0, .int 0, .int 0, .int 0, .int 0, .int 0])), (q1, .inl (cI, 74, .inl (fun _ => 0))), (q2, .inl (cI, 74, .inl (fun _ => 0))), (q3, .inl (cI, 74, .inl (fun _ => 0))), (q4, .inl (cI, 74, .inl (fun _ => 0))), (q5, .inl (cI, 8, .inl (fun _ => 0))), (q6, .inl (cI, 120, .inl (fun _ => 0))), (q7, .inl (cI, 4, .inl (upd (upd (upd (fun _ => 0) 0 (-1)) 1 (-1)) 2 (-1))))]) rfl rfl rfl rfl rfl (by decide) rfl ?_
  refine v_dup h7 pX4_init_1 9 rfl rfl (v_iconst h7 pX4_init_1 10 rfl ki_3 (v_iconst h7 pX4_init_1 11 rfl ki_m1 ?_))
  refine v_iast h7 pX4_init_1 12 3 7 0 (ws' := [(h0, .inr (4, [.ref q1, .ref q2, .ref q3, .ref q4, .int 0, .ref q5, .ref q6, .int 0, .null, .null, .null, .null, .int 0, .int 0, .int 0, .int 0, .int 0, .int 0, .int 0])), (q1, .inl (cI, 74, .inl (fun _ => 0))), (q2, .inl (cI, 74, .inl (fun _ => 0))), (q3, .inl (cI, 74, .inl (fun _ => 0))), (q4, .inl (cI, 74, .inl (fun _ => 0))), (q5, .inl (cI, 8, .inl (fun _ => 0))), (q6, .inl (cI, 120, .inl (fun _ => 0))), (q7, .inl (cI, 4, .inl (upd (upd (upd (upd (fun _ => 0) 0 (-1)) 1 (-1)) 2 (-1)) 3 (-1))))]) rfl rfl rfl rfl rfl (by decide) rfl ?_
  refine v_putF h7 hin pX4_init_1 13 ggX4_28 0 (ws' := [(h0, .inr (4, [.ref q1, .ref q2, .ref q3, .ref q4, .int 0, .ref q5, .ref q6, .int 0, .ref q7, .null, .null, .null, .int 0, .int 0, .int 0, .int 0, .int 0, .int 0, .int 0])), (q1, .inl (cI, 74, .inl (fun _ => 0))), (q2, .inl (cI, 74, .inl (fun _ => 0))), (q3, .inl (cI, 74, .inl (fun _ => 0))), (q4, .inl (cI, 74, .inl (fun _ => 0))), (q5, .inl (cI, 8, .inl (fun _ => 0))), (q6, .inl (cI, 120, .inl (fun _ => 0))), (q7, .inl (cI, 4, .inl (upd (upd (upd (upd (fun _ => 0) 0 (-1)) 1 (-1)) 2 (-1)) 3 (-1))))]) rfl rfl rfl rfl rfl rfl ?_
  have h8 := hN 8 432 (by decide) (by decide)
  refine v_aload_n h7 pX4_init_1 14 rfl 0 rfl rfl (v_iconst h7 pX4_init_1 15 rfl ki_4 (v_newa h7 (N := 4) h8 pX4_init_1 16 wm_27 rfl rfl rfl (by decide) (fun q8 => ?_)))
  show V (kC K 8 432) ([(h0, .inr (4, [.ref q1, .ref q2, .ref q3, .ref q4, .int 0, .ref q5, .ref q6, .int 0, .ref q7, .null, .null, .null, .int 0, .int 0, .int 0, .int 0, .int 0, .int 0, .int 0])), (q1, .inl (cI, 74, .inl (fun _ => 0))), (q2, .inl (cI, 74, .inl (fun _ => 0))), (q3, .inl (cI, 74, .inl (fun _ => 0))), (q4, .inl (cI, 74, .inl (fun _ => 0))), (q5, .inl (cI, 8, .inl (fun _ => 0))), (q6, .inl (cI, 120, .inl (fun _ => 0))), (q7, .inl (cI, 4, .inl (upd (upd (upd (upd (fun _ => 0) 0 (-1)) 1 (-1)) 2 (-1)) 3 (-1)))), (q8, .inl (cI, 4, .inl (fun _ => 0)))]) 79 [(0, .ref h0)] [.ref q8, .ref h0]
  refine v_putF h8 hin pX4_init_1 17 ggX4_31 0 (ws' := [(h0, .inr (4, [.ref q1, .ref q2, .ref q3, .ref q4, .int 0, .ref q5, .ref q6, .int 0, .ref q7, .ref q8, .null, .null, .int 0, .int 0, .int 0, .int 0, .int 0, .int 0, .int 0])), (q1, .inl (cI, 74, .inl (fun _ => 0))), (q2, .inl (cI, 74, .inl (fun _ => 0))), (q3, .inl (cI, 74, .inl (fun _ => 0))), (q4, .inl (cI, 74, .inl (fun _ => 0))), (q5, .inl (cI, 8, .inl (fun _ => 0))), (q6, .inl (cI, 120, .inl (fun _ => 0))), (q7, .inl (cI, 4, .inl (upd (upd (upd (upd (fun _ => 0) 0 (-1)) 1 (-1)) 2 (-1)) 3 (-1)))), (q8, .inl (cI, 4, .inl (fun _ => 0)))]) rfl rfl rfl rfl rfl rfl ?_
  have h9 := hN 9 592 (by decide) (by decide)
  refine v_aload_n h8 pX4_init_1 18 rfl 0 rfl rfl (v_sipush h8 pX4_init_1 19 rfl ks_160 (v_newa h8 (N := 160) h9 pX4_init_1 20 wm_27 rfl rfl rfl (by decide) (fun q9 => ?_)))
  show V (kC K 9 592) ([(h0, .inr (4, [.ref q1, .ref q2, .ref q3, .ref q4, .int 0, .ref q5, .ref q6, .int 0, .ref q7, .ref q8, .null, .null, .int 0, .int 0, .int 0, .int 0, .int 0, .int 0, .int 0])), (q1, .inl (cI, 74, .inl (fun _ => 0))), (q2, .inl (cI, 74, .inl (fun _ => 0))), (q3, .inl (cI, 74, .inl (fun _ => 0))), (q4, .inl (cI, 74, .inl (fun _ => 0))), (q5, .inl (cI, 8, .inl (fun _ => 0))), (q6, .inl (cI, 120, .inl (fun _ => 0))), (q7, .inl (cI, 4, .inl (upd (upd (upd (upd (fun _ => 0) 0 (-1)) 1 (-1)) 2 (-1)) 3 (-1)))), (q8, .inl (cI, 4, .inl (fun _ => 0))), (q9, .inl (cI, 160, .inl (fun _ => 0)))]) 88 [(0, .ref h0)] [.ref q9, .ref h0]
  refine v_putF h9 hin pX4_init_1 21 ggX4_34 0 (ws' := [(h0, .inr (4, [.ref q1, .ref q2, .ref q3, .ref q4, .int 0, .ref q5, .ref q6, .int 0, .ref q7, .ref q8, .ref q9, .null, .int 0, .int 0, .int 0, .int 0, .int 0, .int 0, .int 0])), (q1, .inl (cI, 74, .inl (fun _ => 0))), (q2, .inl (cI, 74, .inl (fun _ => 0))), (q3, .inl (cI, 74, .inl (fun _ => 0))), (q4, .inl (cI, 74, .inl (fun _ => 0))), (q5, .inl (cI, 8, .inl (fun _ => 0))), (q6, .inl (cI, 120, .inl (fun _ => 0))), (q7, .inl (cI, 4, .inl (upd (upd (upd (upd (fun _ => 0) 0 (-1)) 1 (-1)) 2 (-1)) 3 (-1)))), (q8, .inl (cI, 4, .inl (fun _ => 0))), (q9, .inl (cI, 160, .inl (fun _ => 0)))]) rfl rfl rfl rfl rfl rfl ?_
  have h10 := hN 10 600 (by decide) (by decide)
  refine v_aload_n h9 pX4_init_1 22 rfl 0 rfl rfl (v_bipush h9 pX4_init_1 23 rfl kb_8 (v_newa h9 (N := 8) h10 pX4_init_1 24 wm_27 rfl rfl rfl (by decide) (fun q10 => ?_)))
  show V (kC K 10 600) ([(h0, .inr (4, [.ref q1, .ref q2, .ref q3, .ref q4, .int 0, .ref q5, .ref q6, .int 0, .ref q7, .ref q8, .ref q9, .null, .int 0, .int 0, .int 0, .int 0, .int 0, .int 0, .int 0])), (q1, .inl (cI, 74, .inl (fun _ => 0))), (q2, .inl (cI, 74, .inl (fun _ => 0))), (q3, .inl (cI, 74, .inl (fun _ => 0))), (q4, .inl (cI, 74, .inl (fun _ => 0))), (q5, .inl (cI, 8, .inl (fun _ => 0))), (q6, .inl (cI, 120, .inl (fun _ => 0))), (q7, .inl (cI, 4, .inl (upd (upd (upd (upd (fun _ => 0) 0 (-1)) 1 (-1)) 2 (-1)) 3 (-1)))), (q8, .inl (cI, 4, .inl (fun _ => 0))), (q9, .inl (cI, 160, .inl (fun _ => 0))), (q10, .inl (cI, 8, .inl (fun _ => 0)))]) 96 [(0, .ref h0)] [.ref q10, .ref h0]
  refine v_putF h10 hin pX4_init_1 25 ggX4_37 0 (ws' := [(h0, .inr (4, [.ref q1, .ref q2, .ref q3, .ref q4, .int 0, .ref q5, .ref q6, .int 0, .ref q7, .ref q8, .ref q9, .ref q10, .int 0, .int 0, .int 0, .int 0, .int 0, .int 0, .int 0])), (q1, .inl (cI, 74, .inl (fun _ => 0))), (q2, .inl (cI, 74, .inl (fun _ => 0))), (q3, .inl (cI, 74, .inl (fun _ => 0))), (q4, .inl (cI, 74, .inl (fun _ => 0))), (q5, .inl (cI, 8, .inl (fun _ => 0))), (q6, .inl (cI, 120, .inl (fun _ => 0))), (q7, .inl (cI, 4, .inl (upd (upd (upd (upd (fun _ => 0) 0 (-1)) 1 (-1)) 2 (-1)) 3 (-1)))), (q8, .inl (cI, 4, .inl (fun _ => 0))), (q9, .inl (cI, 160, .inl (fun _ => 0))), (q10, .inl (cI, 8, .inl (fun _ => 0)))]) rfl rfl rfl rfl rfl rfl ?_
  have ha0 : (adL [h0, q1, q2, q3, q4, q5, q6, q7, q8, q9, q10]) 0 = h0 := rfl
  refine v_eqw (ws' := mW cI (adL [h0, q1, q2, q3, q4, q5, q6, q7, q8, q9, q10]) (z2, z2, z2, z2, iniQ)) (by show _ = mR cI (adL [h0, q1, q2, q3, q4, q5, q6, q7, q8, q9, q10]) (fl z2) (fl z2) (fl z2) (fl z2) iniQ; rw [← fl_z]; rfl) ?_
  show V (kC K 10 600) (mW cI (adL [h0, q1, q2, q3, q4, q5, q6, q7, q8, q9, q10]) (z2, z2, z2, z2, iniQ)) 99 [(0, .ref ((adL [h0, q1, q2, q3, q4, q5, q6, q7, q8, q9, q10]) 0))] []
  generalize adL [h0, q1, q2, q3, q4, q5, q6, q7, q8, q9, q10] = b at ha0 ⊢
  have h9 := hN 10 600 (by decide) (by decide)
  have hnL9 : (kC K 10 600).2.2.1.2.2.2 = 2 := hnL
  have hret9 : (kC K 10 600).2.1.2.2.2.2.1.sig.returnType = none := hret
  have hR9 : vRK (kC K 10 600) (fun b => b 0 = h0) (fun _ => (cI, .int) :: tl) (fun b : Nat → Nat => mW cI b (iniS, z2, z2, z2, iniQ)) := hR
  generalize kC K 10 600 = K at h9 hnL9 hret9 hR9 ⊢
  have h := h9
  have hnL := hnL9
  have hret := hret9
  have hR := hR9
  refine v_aload_n h pX4_init_1 26 rfl 0 rfl rfl (v_get h pX4_init_1 27 fX4_7 0 rfl rfl rfl (v_iconst h pX4_init_1 28 rfl ki_2 (v_iconst h pX4_init_1 29 rfl ki_1 (v_iast h pX4_init_1 30 2 1 0 (ws' := mW cI b (up z2 9 3 1, z2, z2, z2, iniQ)) rfl rfl rfl rfl rfl (by omega) (mW_s 2 9 3 rfl rfl) (v_aload_n h pX4_init_1 31 rfl 0 rfl rfl ?_)))))
  refine v_get h pX4_init_2 0 fX4_7 0 rfl rfl rfl (v_iconst h pX4_init_2 1 rfl ki_3 (v_bipush h pX4_init_2 2 rfl kb_20 (v_iast h pX4_init_2 3 3 1 0 (ws' := mW cI b (up (up z2 9 3 1) 9 1 20, z2, z2, z2, iniQ)) rfl rfl rfl rfl rfl (by omega) (mW_s 3 9 1 rfl rfl) (v_iconst h pX4_init_2 4 rfl ki_0 (v_istore_n h pX4_init_2 5 (lv' := [(1, .int 0), (0, .ref (b 0))]) rfl rfl hnL rfl rfl ?_)))))
  refine v_lv [1, 0] (lv' := [(0, .ref (b 0)), (1, .int 0)]) rfl ?_
  have L1 : ∀ (m i1 : Nat), i1 ≤ 6 → 6 + 1 ≤ i1 + m → V K (mW cI b (in1 (up (up z2 9 3 1) 9 1 20) i1, z2, z2, z2, iniQ)) 116 [(0, .ref (b 0)), (1, .int (nI i1))] [] := by
    intro m
    induction m with
    | zero => exact fun i1 h1 h2 => absurd h2 (by omega)
    | succ m ih1 =>
      intro i1 hle1 hlt1
      generalize hSA : in1 (up (up z2 9 3 1) 9 1 20) i1 = SA
      refine v_iload_n h pX4_init_2 6 rfl 1 rfl rfl (v_bipush h pX4_init_2 7 rfl kb_6 ?_)
      refine v_ncmp_ge (a := i1) (b := 6) (tgt := 148) h pX4_init_2 8 rfl rfl (by omega) (by omega) (fun c3 => ?_) (fun c3 => ?_)
      · skip
        obtain rfl : 6 = i1 := by omega
        refine v_iconst h pX4_init_2 25 rfl ki_0 (v_istore_n h pX4_init_2 26 (lv' := [(1, .int 0), (0, .ref (b 0))]) rfl rfl hnL rfl rfl ?_)
        refine v_lv [1, 0] (lv' := [(0, .ref (b 0)), (1, .int 0)]) rfl ?_
        have L4 : ∀ (m i4 : Nat), i4 ≤ 10 → 10 + 1 ≤ i4 + m → V K (mW cI b (in2 SA i4, z2, z2, z2, iniQ)) 150 [(0, .ref (b 0)), (1, .int (nI i4))] [] := by
          intro m
          induction m with
          | zero => exact fun i4 h1 h2 => absurd h2 (by omega)
          | succ m ih4 =>
            intro i4 hle4 hlt4
            generalize hSB : in2 SA i4 = SB
            refine v_iload_n h pX4_init_2 27 rfl 1 rfl rfl (v_bipush h pX4_init_2 28 rfl kb_10 ?_)
            refine v_ncmp_ge (a := i4) (b := 10) (tgt := 172) h pX4_init_2 29 rfl rfl (by omega) (by omega) (fun c6 => ?_) (fun c6 => ?_)
            · skip
              obtain rfl : 10 = i4 := by omega
              exact v_vretK b h pX4_init_3 7 hR hret rfl (by subst hSB; subst hSA; rw [ini_m]) ha0
            · skip
              refine v_aload_n h pX4_init_2 30 rfl 0 rfl rfl (v_get h pX4_init_2 31 fX4_7 0 rfl rfl rfl (v_bipush h pX4_init_3 0 rfl kb_64 (v_iload_n h pX4_init_3 1 rfl 1 rfl rfl (v_iaddn h pX4_init_3 2 64 i4 rfl (v_iconst h pX4_init_3 3 rfl ki_m1 ?_)))))
              refine v_iast h pX4_init_3 4 (64 + i4) 1 0 (ws' := mW cI b (up SB 8 i4 (-1), z2, z2, z2, iniQ)) rfl rfl rfl rfl rfl (by omega) (mW_s (64 + i4) 8 i4 (flR_s _) (flI_s _)) (v_iinc h pX4_init_3 5 (v := nI (i4 + 1)) (lv' := [(1, .int (nI (i4 + 1))), (0, .ref (b 0))]) rfl 1 rfl hnL rfl rfl (nI_1 i4) (v_goto (tgt := 150) h pX4_init_3 6 rfl rfl (v_lv [1, 0] (lv' := [(0, .ref (b 0)), (1, .int (nI (i4 + 1)))]) rfl (v_eqw (ws' := mW cI b (in2 SA (i4 + 1), z2, z2, z2, iniQ)) (by rw [in2, hSB]) ?_))))
              exact ih4 (i4 + 1) (by omega) (by omega)
        exact L4 (10 + 1) 0 (by omega) (by omega)
      · skip
        refine v_aload_n h pX4_init_2 9 rfl 0 rfl rfl (v_get h pX4_init_2 10 fX4_7 0 rfl rfl rfl (v_iconst h pX4_init_2 11 rfl ki_4 (v_iload_n h pX4_init_2 12 rfl 1 rfl rfl (v_iaddn h pX4_init_2 13 4 i1 rfl (v_bipush h pX4_init_2 14 rfl kb_100 ?_)))))
        refine v_iast h pX4_init_2 15 (4 + i1) 1 0 (ws' := mW cI b (up SA 0 i1 100, z2, z2, z2, iniQ)) rfl rfl rfl rfl rfl (by omega) (mW_s (4 + i1) 0 i1 (flR_n (by omega)) (flI_n (by omega))) (v_aload_n h pX4_init_2 16 rfl 0 rfl rfl (v_get h pX4_init_2 17 fX4_7 0 rfl rfl rfl (v_bipush h pX4_init_2 18 rfl kb_10 (v_iload_n h pX4_init_2 19 rfl 1 rfl rfl (v_iaddn h pX4_init_2 20 10 i1 rfl ?_)))))
        refine v_iconst h pX4_init_2 21 rfl ki_3 (v_iast h pX4_init_2 22 (10 + i1) 1 0 (ws' := mW cI b (up (up SA 0 i1 100) 1 i1 3, z2, z2, z2, iniQ)) rfl rfl rfl rfl rfl (by omega) (mW_s (10 + i1) 1 i1 (flR_c (by omega)) (flI_c (by omega))) (v_iinc h pX4_init_2 23 (v := nI (i1 + 1)) (lv' := [(1, .int (nI (i1 + 1))), (0, .ref (b 0))]) rfl 1 rfl hnL rfl rfl (nI_1 i1) (v_goto (tgt := 116) h pX4_init_2 24 rfl rfl (v_lv [1, 0] (lv' := [(0, .ref (b 0)), (1, .int (nI (i1 + 1)))]) rfl (v_eqw (ws' := mW cI b (in1 (up (up z2 9 3 1) 9 1 20) (i1 + 1), z2, z2, z2, iniQ)) (by rw [in1, hSA]) ?_)))))
        exact ih1 (i1 + 1) (by omega) (by omega)
  exact L1 (6 + 1) 0 (by omega) (by omega)
