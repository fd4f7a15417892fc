set_option maxHeartbeats 300000 in
set_option maxRecDepth 100000 in
theorem kJ0_coder_7d493 (l : Launch) (D : va_G) (cI cS : ClassId)  (x : xS) (i : Nat) (hi : i < 14)  : vMet l D (vT cI cS) yJ0_coder_7d493 cJ0_coder_7d493 1 (some .byte) 0 0 (fun _ : Unit => ([] : va_W)) (exA x) [.ref (x.1 i)] () (fun v u => v = some (.int 0) ∧ u = ()) := by
  refine vMet_of (by decide) rfl ?_
  intro K hl hD hnL hret h hR hEx
  subst hl hD
  show V K (([] : va_W)) 0 [(0, .ref (x.1 i))] []
  refine v_gets h pJ0_coder_7d493_0 0 hEx.2.2.2.2.1 wm_728 rfl ?_
  refine v_if_eq (tgt := 13) h pJ0_coder_7d493_0 1 rfl rfl (fun c1 => absurd c1 (by decide)) (fun c1 => ?_)
  refine v_aload_n h pJ0_coder_7d493_0 2 rfl 0 rfl rfl (v_getS h pJ0_coder_7d493_0 3 (hEx.2.2.2.1.1 i hi).2.1 wm_729 rfl (v_goto (tgt := 14) h pJ0_coder_7d493_0 4 rfl rfl ?_))
  exact v_nret h pJ0_coder_7d493_0 6 rfl hR hret rfl (()) rfl ⟨vI rfl, rfl⟩
set_option maxHeartbeats 300000 in
set_option maxRecDepth 100000 in
theorem kJ0_isLatin1_aae02 (l : Launch) (D : va_G) (cI cS : ClassId)  (x : xS) (i : Nat) (hi : i < 14)  : vMet l D (vT cI cS) yJ0_isLatin1_aae02 cJ0_isLatin1_aae02 1 (some .boolean) 0 0 (fun _ : Unit => ([] : va_W)) (exA x) [.ref (x.1 i)] () (fun v u => v = some (.int 1) ∧ u = ()) := by
  refine vMet_of (by decide) rfl ?_
  intro K hl hD hnL hret h hR hEx
  subst hl hD
  show V K (([] : va_W)) 0 [(0, .ref (x.1 i))] []
  refine v_gets h pJ0_isLatin1_aae02_0 0 hEx.2.2.2.2.1 wm_728 rfl ?_
  refine v_if_eq (tgt := 17) h pJ0_isLatin1_aae02_0 1 rfl rfl (fun c1 => absurd c1 (by decide)) (fun c1 => ?_)
  refine v_aload_n h pJ0_isLatin1_aae02_0 2 rfl 0 rfl rfl (v_getS h pJ0_isLatin1_aae02_0 3 (hEx.2.2.2.1.1 i hi).2.1 wm_729 rfl ?_)
  refine v_if_ne (tgt := 17) h pJ0_isLatin1_aae02_0 4 rfl rfl (fun c2 => absurd c2 (by decide)) (fun c2 => ?_)
  refine v_iconst h pJ0_isLatin1_aae02_0 5 rfl ki_1 (v_goto (tgt := 18) h pJ0_isLatin1_aae02_0 6 rfl rfl ?_)
  exact v_zret h pJ0_isLatin1_aae02_0 8 (Or.inr rfl) hR hret rfl (()) rfl ⟨vI rfl, rfl⟩
set_option maxHeartbeats 300000 in
set_option maxRecDepth 100000 in
theorem kJ0_length_8abf5 (l : Launch) (D : va_G) (cI cS : ClassId)  (x : xS) (i : Nat) (hi : i < 14)  : vMet l D (vT cI cS) yJ0_length_8abf5 cJ0_length_8abf5 1 (some .int) 1 20 (fun _ : Unit => ([] : va_W)) (exA x) [.ref (x.1 i)] () (fun v u => v = some (.int (nI (wl i))) ∧ u = ()) := by
  refine vMet_of (by decide) rfl ?_
  intro K hl hD hnL hret h hR hEx
  subst hl hD
  show V K (([] : va_W)) 0 [(0, .ref (x.1 i))] []
  refine v_aload_n h pJ0_length_8abf5_0 0 rfl 0 rfl rfl (v_getS h pJ0_length_8abf5_0 1 (hEx.2.2.2.1.1 i hi).2.2.1 wm_723 rfl (v_tlen h pJ0_length_8abf5_0 2 (hEx.2.2.2.1.1 i hi).2.2.2 rfl (v_top (w := .int (nI (wl i))) rfl (v_aload_n h pJ0_length_8abf5_0 3 rfl 0 rfl rfl ?_))))
  refine v_callVK h pJ0_length_8abf5_0 4 mJ0_335 (As := []) (st := [.int (nI (wl i))]) (kJ0_coder_7d493 _ _ cI cS x i hi) (exA_B _) (exA_C hEx.2) (vEmb_u _) (fun H locs hS => vk_recv hEx.2.2.2.1 hi hS) rfl rfl rfl rfl rfl (vDet_k ?_)
  show V K (([] : va_W)) 9 [(0, .ref (x.1 i))] [.int 0, .int (nI (wl i))]
  refine v_ishr h pJ0_length_8abf5_0 5 rfl ?_
  refine v_top (w := .int (nI (wl i))) (congrArg Value.int (shr_0 _)) ?_
  exact v_iret h pJ0_length_8abf5_0 6 hR hret rfl (()) rfl ⟨vI rfl, rfl⟩
set_option maxHeartbeats 300000 in
set_option maxRecDepth 100000 in
theorem kJ3_checkIndex_n (l : Launch) (D : va_G) (cI cS : ClassId)  (x : xS) (a b : Nat) (hab : a < b) (hb : b < 2147483648)  : vMet l D (vT cI cS) yJ3_checkIndex_8e157 cJ3_checkIndex_8e157 3 (some .int) 0 0 (fun _ : Unit => ([] : va_W)) (exA x) [.int (nI a), .int (nI b), .null] () (fun v u => v = some (.int (nI a)) ∧ u = ()) := by
  refine vMet_of (by decide) rfl ?_
  intro K hl hD hnL hret h hR hEx
  subst hl hD
  show V K (([] : va_W)) 0 [(0, .int (nI a)), (1, .int (nI b)), (2, .null)] []
  refine v_iload_n h pJ3_checkIndex_8e157_0 0 rfl 0 rfl rfl (v_nif_lt (a := a) (tgt := 9) h pJ3_checkIndex_8e157_0 1 rfl rfl (by omega) (v_iload_n h pJ3_checkIndex_8e157_0 2 rfl 0 rfl rfl (v_iload_n h pJ3_checkIndex_8e157_0 3 rfl 1 rfl rfl ?_)))
  refine v_ncmp_lt (a := a) (b := b) (tgt := 16) h pJ3_checkIndex_8e157_0 4 rfl rfl (by omega) (by omega) (fun c0 => ?_) (fun c0 => absurd c0 (by omega))
  refine v_iload_n h pJ3_checkIndex_8e157_0 10 rfl 0 rfl rfl ?_
  exact v_iret h pJ3_checkIndex_8e157_0 11 hR hret rfl (()) rfl ⟨vI rfl, rfl⟩
set_option maxHeartbeats 300000 in
set_option maxRecDepth 100000 in
theorem kJ3_checkIndex_r (l : Launch) (D : va_G) (cI cS : ClassId)  (x : xS) (zq : Nat) (a b : Nat) (hab : a < b) (hb : b < 2147483648)  : vMet l D (vT cI cS) yJ3_checkIndex_8e157 cJ3_checkIndex_8e157 3 (some .int) 0 0 (fun _ : Unit => ([] : va_W)) (exA x) [.int (nI a), .int (nI b), .ref zq] () (fun v u => v = some (.int (nI a)) ∧ u = ()) := by
  refine vMet_of (by decide) rfl ?_
  intro K hl hD hnL hret h hR hEx
  subst hl hD
  show V K (([] : va_W)) 0 [(0, .int (nI a)), (1, .int (nI b)), (2, .ref zq)] []
  refine v_iload_n h pJ3_checkIndex_8e157_0 0 rfl 0 rfl rfl (v_nif_lt (a := a) (tgt := 9) h pJ3_checkIndex_8e157_0 1 rfl rfl (by omega) (v_iload_n h pJ3_checkIndex_8e157_0 2 rfl 0 rfl rfl (v_iload_n h pJ3_checkIndex_8e157_0 3 rfl 1 rfl rfl ?_)))
  refine v_ncmp_lt (a := a) (b := b) (tgt := 16) h pJ3_checkIndex_8e157_0 4 rfl rfl (by omega) (by omega) (fun c0 => ?_) (fun c0 => absurd c0 (by omega))
  refine v_iload_n h pJ3_checkIndex_8e157_0 10 rfl 0 rfl rfl ?_
  exact v_iret h pJ3_checkIndex_8e157_0 11 hR hret rfl (()) rfl ⟨vI rfl, rfl⟩
set_option maxHeartbeats 300000 in
set_option maxRecDepth 100000 in
theorem kJ0_checkIndex_df160 (l : Launch) (D : va_G) (cI cS : ClassId)  (x : xS) (a b : Nat) (hab : a < b) (hb : b < 2147483648)  : vMet l D (vT cI cS) yJ0_checkIndex_df160 cJ0_checkIndex_df160 2 none 1 22 (fun _ : Unit => ([] : va_W)) (exA x) [.int (nI a), .int (nI b)] () (fun v u => v = none ∧ u = ()) := by
  refine vMet_of (by decide) rfl ?_
  intro K hl hD hnL hret h hR hEx
  subst hl hD
  show V K (([] : va_W)) 0 [(0, .int (nI a)), (1, .int (nI b))] []
  refine v_iload_n h pJ0_checkIndex_df160_0 0 rfl 0 rfl rfl (v_iload_n h pJ0_checkIndex_df160_0 1 rfl 1 rfl rfl ?_)
  rcases hEx.2.2.2.2.2.1 with hz | ⟨zq, hz⟩
  · skip
    refine v_gets h pJ0_checkIndex_df160_0 2 hz wm_745 rfl ?_
    refine v_callS h pJ0_checkIndex_df160_0 3 mJ0_1059 (As := [.int (nI a), .int (nI b), .null]) (st := []) (kJ3_checkIndex_n _ _ cI cS x  a b (by omega) (by omega)) (exA_B _) (exA_C hEx.2) (vEmb_u _) rfl rfl rfl rfl rfl (vDet_k ?_)
    show V K (([] : va_W)) 8 [(0, .int (nI a)), (1, .int (nI b))] [.int (nI a)]
    refine v_pop h pJ0_checkIndex_df160_0 4 rfl rfl ?_
    exact v_vret h pJ0_checkIndex_df160_0 5 hR hret rfl (()) rfl ⟨rfl, rfl⟩
  · skip
    refine v_gets h pJ0_checkIndex_df160_0 2 hz wm_745 rfl ?_
    refine v_callS h pJ0_checkIndex_df160_0 3 mJ0_1059 (As := [.int (nI a), .int (nI b), .ref zq]) (st := []) (kJ3_checkIndex_r _ _ cI cS x zq a b (by omega) (by omega)) (exA_B _) (exA_C hEx.2) (vEmb_u _) rfl rfl rfl rfl rfl (vDet_k ?_)
    show V K (([] : va_W)) 8 [(0, .int (nI a)), (1, .int (nI b))] [.int (nI a)]
    refine v_pop h pJ0_checkIndex_df160_0 4 rfl rfl ?_
    exact v_vret h pJ0_checkIndex_df160_0 5 hR hret rfl (()) rfl ⟨rfl, rfl⟩
set_option maxHeartbeats 300000 in
set_option maxRecDepth 100000 in
theorem kJ1_charAt_3b067 (l : Launch) (D : va_G) (cI cS : ClassId)  (x : xS) (i : Nat) (hi : i < 14) (j : Nat) (hj : j < wl i) : vMet l D (vT cI cS) yJ1_charAt_3b067 cJ1_charAt_3b067 2 (some .char) 2 43 (fun _ : Unit => ([] : va_W)) (exA x) [.ref (x.2.1 i), .int (nI j)] () (fun v u => v = some (.int (ch i j)) ∧ u = ()) := by
  refine vMet_of (by decide) rfl ?_
  intro K hl hD hnL hret h hR hEx
  subst hl hD
  show V K (([] : va_W)) 0 [(0, .ref (x.2.1 i)), (1, .int (nI j))] []
  have hl9 := wl_lt i hi
  refine v_iload_n h pJ1_charAt_3b067_0 0 rfl 1 rfl rfl (v_aload_n h pJ1_charAt_3b067_0 1 rfl 0 rfl rfl (v_tlen h pJ1_charAt_3b067_0 2 (hEx.2.2.2.1.1 i hi).2.2.2 rfl (v_top (w := .int (nI (wl i))) rfl ?_)))
  refine v_callS h pJ1_charAt_3b067_0 3 mJ1_9 (As := [.int (nI j), .int (nI (wl i))]) (st := []) (kJ0_checkIndex_df160 _ _ cI cS x j (wl i) (by omega) (by omega)) (exA_B _) (exA_C hEx.2) (vEmb_u _) rfl rfl rfl rfl rfl (vDet_k ?_)
  show V K (([] : va_W)) 6 [(0, .ref (x.2.1 i)), (1, .int (nI j))] []
  refine v_aload_n h pJ1_charAt_3b067_0 4 rfl 0 rfl rfl (v_iload_n h pJ1_charAt_3b067_0 5 rfl 1 rfl rfl (v_tbyte h pJ1_charAt_3b067_0 6 (hEx.2.2.2.1.1 i hi).2.2.2 j rfl rfl hj (by have := wl_lt i hi; show wl i < 2 ^ 31; omega) (v_sipush h pJ1_charAt_3b067_0 7 rfl ks_255 (v_iand h pJ1_charAt_3b067_0 8 rfl (v_i2c h pJ1_charAt_3b067_0 9 rfl ?_)))))
  exact v_nret h pJ1_charAt_3b067_0 10 (by rw [(ch_tab i hi j (by omega)).1]; exact (ch_tab i hi j (by omega)).2) hR hret rfl (()) rfl ⟨vI (by exact (ch_tab i hi j (by omega)).1), rfl⟩
set_option maxHeartbeats 300000 in
set_option maxRecDepth 100000 in
theorem kJ0_charAt_5068e (l : Launch) (D : va_G) (cI cS : ClassId)  (x : xS) (i : Nat) (hi : i < 14) (j : Nat) (hj : j < wl i) : vMet l D (vT cI cS) yJ0_charAt_5068e cJ0_charAt_5068e 2 (some .char) 3 64 (fun _ : Unit => ([] : va_W)) (exA x) [.ref (x.1 i), .int (nI j)] () (fun v u => v = some (.int (ch i j)) ∧ u = ()) := by
  refine vMet_of (by decide) rfl ?_
  intro K hl hD hnL hret h hR hEx
  subst hl hD
  show V K (([] : va_W)) 0 [(0, .ref (x.1 i)), (1, .int (nI j))] []
  have hl9 := wl_lt i hi
  refine v_aload_n h pJ0_charAt_5068e_0 0 rfl 0 rfl rfl ?_
  refine v_callVK h pJ0_charAt_5068e_0 1 mJ0_492 (As := []) (st := []) (kJ0_isLatin1_aae02 _ _ cI cS x i hi) (exA_B _) (exA_C hEx.2) (vEmb_u _) (fun H locs hS => vk_recv hEx.2.2.2.1 hi hS) rfl rfl rfl rfl rfl (vDet_k ?_)
  show V K (([] : va_W)) 4 [(0, .ref (x.1 i)), (1, .int (nI j))] [.int 1]
  refine v_if_eq (tgt := 16) h pJ0_charAt_5068e_0 2 rfl rfl (fun c1 => absurd c1 (by decide)) (fun c1 => ?_)
  refine v_aload_n h pJ0_charAt_5068e_0 3 rfl 0 rfl rfl (v_getS h pJ0_charAt_5068e_0 4 (hEx.2.2.2.1.1 i hi).2.2.1 wm_723 rfl (v_iload_n h pJ0_charAt_5068e_0 5 rfl 1 rfl rfl ?_))
  refine v_callS h pJ0_charAt_5068e_0 6 mJ0_495 (As := [.ref (x.2.1 i), .int (nI j)]) (st := []) (kJ1_charAt_3b067 _ _ cI cS x i hi j hj) (exA_B _) (exA_C hEx.2) (vEmb_u _) rfl rfl rfl rfl rfl (vDet_k ?_)
  show V K (([] : va_W)) 15 [(0, .ref (x.1 i)), (1, .int (nI j))] [.int (ch i j)]
  exact v_nret h pJ0_charAt_5068e_0 7 (ch_tab i hi j (by omega)).2 hR hret rfl (()) rfl ⟨vI rfl, rfl⟩
