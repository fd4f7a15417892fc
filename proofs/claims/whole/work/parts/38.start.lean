/-! ===== the start ===== -/
section VNJ
variable {K : vK} {cc : ByteArray} {own : String} {tys : List (ClassId × FieldType)} {fr lo : Nat} {ws : va_W} {pc : Nat} {lv : List (Nat × Value)} {st : List Value} {q : List (Nat × Instr × Nat)} {c s : Nat}
theorem v_callJ {S : Type} {ws0 wr : va_W} {Wd : S → va_W} {tysO : S → List (ClassId × FieldType)} {post : S → Prop} {Ex : (Nat → Prop) → State → Prop} {idx nl fr' lo' a mc ms : Nat} {y : MethodName} {b : ByteArray} (isC isR : List Nat) (h : vX (kC K c s) cc own tys fr lo) (h2 : vX (kC K (c + mc) (s + ms)) cc own tys fr lo) (P : vD cc q) (j : Nat) (mv : vMI own idx y b nl 0) (hM : vNew K.1.2.1 K.2.2.1.2.2.1 tys y b nl fr' lo' mc ms ws0 Ex [.ref a] tysO Wd post) (hB : vExB Ex) (hE : ∀ (A : Nat → Prop) (U : State), K.2.1.1.WarmedH U.vm → Ex A U) (d : q[j]? = some (pc, .invokespecial idx, 3)) (hR : (Nat.ble (fr' + 1) fr && Nat.ble (8 + (nl + 11) + lo') lo) = true) (hcat : Nat.ble (st.map fun v => v.category).sum 8 = true) (hC : isC.map (fun i => ws[i]?) = ws0.map some) (hRw : isR.map (fun i => ws[i]?) = wr.map some) (hnC : va_nd isC = true) (hn : va_nd isR = true) (hdis : ∀ i ∈ isR, i ∉ isC)
    (kk : ∀ u : S, post u → va_K K.2.2.1.2.2.1 vwCl (tysO u) K.2.1.1 → V (kC K (c + mc) (s + ms)) (wr ++ Wd u) (pc + 3) lv st) : V (kC K c s) ws pc lv (.ref a :: st) := by
  intro H locs ls hP hD hS hl
  rw [Bool.and_eq_true] at hR
  have fm : ∀ {big small : va_W} {is : List Nat}, is.map (fun i => big[i]?) = small.map some → is.filterMap (fun i => big[i]?) = small := by
    intro big small is h
    have h2 := congrArg (fun z : List (Option (Nat × va_E)) => z.filterMap id) h
    simpa [List.filterMap_map, Function.comp_def] using h2
  have hPc := hP.sub isC (fm hC)
  have hDc := hD.sub isC hnC hC
  have hF := va_free (wc := ws0) hD hS h.2.2.2.2.2.2.1 isC hC
  refine v_behindN (va_runI (As := []) (rest := st) ⟨h.1, h.2.1, h.2.2.1, h.2.2.2.1, h.2.2.2.2.1⟩ (hM H.size) (cwI 0 h.2.2.2.2.1 mv.good rfl rfl rfl (h.2.2.2.2.1 _ mv.2.2.1) (h.2.2.2.2.1 _ mv.1) (h.2.2.2.2.1 _ mv.2.1) mv.2.2.2.2.1 mv.2.2.2.2.2 ⟨by rw [h.2.2.2.2.2.2.2.2.1]; exact Nat.le_of_ble_eq_true hR.1, by rw [h.2.2.2.2.2.2.2.2.2.1]; exact Nat.le_of_ble_eq_true hR.2⟩) ⟨fun aa U g mk z => by obtain ⟨z0, z1, zP, zK, zD, zE⟩ := z; exact ⟨z0, z1, zP, va_K.moved (u := U) (U := U.calling g mk aa) (Vm.Alike.refl U.vm) zK, zD, hB _ _ _ _ _ zE⟩, fun U hU hW => ⟨rfl, by rw [hU], by rw [hU]; exact hPc, va_K.moved hW.alike h.2.2.2.2.2.1, hDc.weaken (fun _ _ _ _ => trivial), hE _ U hW⟩⟩ rfl rfl hl.1 rfl (lv_room (Nat.le_of_ble_eq_true hcat)) (vD.at P d) ⟨h2.2.2.2.2.2.2.2.2.2.2.1, h2.2.2.2.2.2.2.2.2.2.2.2⟩) hS (fun q _ hq => hF q hq) hF (fun u t H1 locs1 ht hvm hp hb1 hb2 hb3 hz hk hS1 => ?_)
  rw [ht] at hb1
  obtain ⟨hP2, hD2⟩ := va_join hP hD isC isR hC hRw hn hdis hk hF hb1 hb3
  exact kk u hp (va_K.moved hvm.symm hb2) H1 locs1 ls hP2 hD2 hS1 hl
end VNJ
theorem lInv_0 : lInv 0 (iniS, iniS, iniS, z2, z3, z2) (iniS, z2, z2, z2, iniQ) := by
  refine ⟨rfl, ⟨0, Wf_ini, ini_94, ⟨0, Nat.zero_le _, ini_92⟩⟩, ⟨rfl, Or.inl rfl, fun h => absurd rfl h⟩, ⟨rfl, rfl, ⟨0, Nat.zero_le _, rfl⟩, fun i _ => ⟨0, Nat.zero_le _, rfl⟩⟩, fun s hs => ?_, fun w _ => rfl, by decide⟩
  refine ⟨Or.inl ⟨?_, rfl⟩, ⟨0, Nat.zero_le _, rfl⟩, rfl, fun i _ => rfl⟩
  rcases (show s = 0 ∨ s = 1 ∨ s = 2 ∨ s = 3 by omega) with rfl | rfl | rfl | rfl <;> rfl
theorem aoB : vExB (fun _ U => va_AO "OysterSecrets$Sheet" U) := fun _ a U g mk h => va_AO.moved (u := U) (U := U.calling g mk a) (Vm.Alike.refl U.vm) h
theorem law_V {K : vK} {b0 L : Nat} {xs : Nat → Int32} {cI : ClassId} {x : xS} (hN : ∀ c s : Nat, c ≤ 58 → s ≤ 1561 → vX (kC K c s) cL_law RL [(cI, FieldType.int)] 13 482) (hnL : K.2.2.1.2.2.2 = 4) (X : va_X b0 L xs K.2.1.1 K.2.1.1.heap) (hb : b0 < K.2.1.1.heap.size) (hA : ¬ K.2.2.1.2.1 b0) (hL : L ≤ 3072) (hx : exA x K.2.2.1.2.1 K.2.1.1) (hAO : va_AO "OysterSecrets$Sheet" K.2.1.1) (hend : ∀ (ws : va_W) (lv : List (Nat × Value)), V (kC K 58 1561) ws 1540 lv []) : V (kC K 0 0) [] 0 [(0, .ref b0)] [] := by
  have h := hN 0 0 (by decide) (by decide)
  have h1 := hN 1 8 (by decide) (by decide)
  refine v_new h (N := 8) h1 pL_law_0 0 wm_0 wm_1 wm_2 (ci := 3) rfl inlX3 tyX3_ok [.null, .null, .null, .int 0, .null, .null, .null, .null] (fun j hj => by rcases (show j = 0 ∨ j = 1 ∨ j = 2 ∨ j = 3 ∨ j = 4 ∨ j = 5 ∨ j = 6 ∨ j = 7 by omega) with rfl | rfl | rfl | rfl | rfl | rfl | rfl | rfl <;> rfl) rfl (fun q1 => ?_)
  show V (kC K 1 8) (([] : va_W) ++ [(q1, .inr (3, [.null, .null, .null, .int 0, .null, .null, .null, .null]))]) 3 [(0, .ref b0)] [.ref q1]
  refine v_dup h1 pL_law_0 1 rfl rfl ?_
  have h2 := hN 47 942 (by decide) (by decide)
  refine v_callJ (wr := ([] : va_W)) [0] [] h1 h2 pL_law_0 2 miL_9 (kX3_init _ _ cI q1) aoB (fun _ U hW => va_AO.moved hW.alike hAO) rfl rfl rfl rfl rfl rfl rfl (by decide) (fun u hu hK1 => ?_)
  obtain ⟨a, cS⟩ := u
  have hu : a 0 = q1 := hu
  subst hu
  have hN2 : ∀ c s : Nat, c ≤ 58 → s ≤ 1561 → vX (kC K c s) cL_law RL (vT cI cS) 13 482 := fun c s h1 h2 => vX_tys (hN c s h1 h2) hK1
  have h2 := hN2 47 942 (by decide) (by decide)
  show V (kC K 47 942) (cW cI cS a (iniS, iniS, iniS, z2, z3, z2)) 7 [(0, .ref b0)] [.ref (a 0)]
  refine v_astore_n h2 pL_law_0 3 rfl rfl hnL rfl (lv' := [(1, .ref (a 0)), (0, .ref b0)]) rfl ?_
  have h3 := hN2 48 961 (by decide) (by decide)
  refine v_new h2 (N := 19) h3 pL_law_0 4 wm_3 wm_4 wm_5 (ci := 4) rfl inlX4 tyX4_ok [.null, .null, .null, .null, .int 0, .null, .null, .int 0, .null, .null, .null, .null, .int 0, .int 0, .int 0, .int 0, .int 0, .int 0, .int 0] (fun j hj => by rcases (show j = 0 ∨ j = 1 ∨ j = 2 ∨ j = 3 ∨ j = 4 ∨ j = 5 ∨ j = 6 ∨ j = 7 ∨ j = 8 ∨ j = 9 ∨ j = 10 ∨ j = 11 ∨ j = 12 ∨ j = 13 ∨ j = 14 ∨ j = 15 ∨ j = 16 ∨ j = 17 ∨ j = 18 by omega) with rfl | rfl | rfl | rfl | rfl | rfl | rfl | rfl | rfl | rfl | rfl | rfl | rfl | rfl | rfl | rfl | rfl | rfl | rfl <;> rfl) rfl (fun q2 => ?_)
  show V (kC K 48 961) (cW cI cS a (iniS, iniS, iniS, z2, z3, z2) ++ [(q2, .inr (4, [.null, .null, .null, .null, .int 0, .null, .null, .int 0, .null, .null, .null, .null, .int 0, .int 0, .int 0, .int 0, .int 0, .int 0, .int 0]))]) 11 [(1, .ref (a 0)), (0, .ref b0)] [.ref q2]
  refine v_dup h3 pL_law_0 5 rfl rfl ?_
  have h4 := hN2 58 1561 (by decide) (by decide)
  refine v_callI (wr := cW cI cS a (iniS, iniS, iniS, z2, z3, z2)) [47] (List.range' 0 47) h3 h4 pL_law_0 6 miL_12 (kX4_init _ _ cI [(cS, .object "OysterSecrets$Sheet")] q2) rfl rfl rfl rfl rfl rfl rfl (by decide) (fun b hb2 => ?_)
  have hb2 : b 0 = q2 := hb2
  subst hb2
  show V (kC K 58 1561) (lW cI cS a b ((iniS, iniS, iniS, z2, z3, z2), (iniS, z2, z2, z2, iniQ))) 15 [(1, .ref (a 0)), (0, .ref b0)] [.ref (b 0)]
  refine v_astore_n h4 pL_law_0 7 rfl rfl hnL rfl (lv' := [(2, .ref (b 0)), (1, .ref (a 0)), (0, .ref b0)]) rfl ?_
  refine v_iconst h4 pL_law_0 8 rfl ki_0 ?_
  refine v_istore_n h4 pL_law_0 9 rfl rfl hnL rfl (lv' := lLv a b b0 0) rfl ?_
  exact law_loop (K := kC K 58 1561) (x := x) ⟨h4, hnL, X, hb, hA, hx⟩ hL a b hend L 0 _ _ (by omega) (by omega) lInv_0
