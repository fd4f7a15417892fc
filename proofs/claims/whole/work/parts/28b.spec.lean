/-! ===== what nobody writes: texts, static rows, a nest mate's method ===== -/
def strI (i : Nat) : Nat := ([139, 141, 143, 145, 147, 149, 151, 153, 155, 157, 159, 161, 162, 163] : List Nat).getD i 0
def strT (i : Nat) : String := (["oyster", "black", "seed", "poor", "moon", "dear", "minister", "bed", "comes", "in", "weighs", "layers", "nacre", "cold"] : List String).getD i ""
def lenT : List Nat := [6, 5, 4, 4, 4, 4, 8, 3, 5, 2, 6, 6, 5, 4]
def bytT : List (List Int32) := [[111, 121, 115, 116, 101, 114], [98, 108, 97, 99, 107], [115, 101, 101, 100], [112, 111, 111, 114], [109, 111, 111, 110], [100, 101, 97, 114], [109, 105, 110, 105, 115, 116, 101, 114], [98, 101, 100], [99, 111, 109, 101, 115], [105, 110], [119, 101, 105, 103, 104, 115], [108, 97, 121, 101, 114, 115], [110, 97, 99, 114, 101], [99, 111, 108, 100]]
def kaS (j : Nat) : Int32 := ([-1, 0, 0, 2, 3, 0, 1] : List Int32).getD j 0
def mwS (j : Nat) : Int32 := ([6, 5, 99, 999, 999, 999] : List Int32).getD j 0
abbrev xS : Type := (Nat → Nat) × (Nat → Nat) × Nat × Nat
def exA (x : xS) (A : Nat → Prop) (U : State) : Prop :=
  va_Nw (.methodLinkNest RX2 54 yX3_isKind RX3) U ∧ (∀ i, i < 14 → vk_R RX2 (strI i) (strT i) (x.1 i) U) ∧ vk_S 14 lenT bytT x.1 x.2.1 A U U.heap ∧ va_Z "java/lang/String" "COMPACT_STRINGS" "Z" (.int 1) A U U.heap ∧ va_Zq "jdk/internal/util/Preconditions" "SIOOBE_FORMATTER" "Ljava/util/function/BiFunction;" A U U.heap ∧ (va_Z "OysterSecrets" "KIND_ABOVE" "[I" (.ref x.2.2.1) A U U.heap ∧ va_T .int x.2.2.1 7 (fun j => .int (kaS j)) A U U.heap) ∧ (va_Z "OysterSecrets" "MOST_OF_WHAT" "[I" (.ref x.2.2.2) A U U.heap ∧ va_T .int x.2.2.2 6 (fun j => .int (mwS j)) A U U.heap)
theorem exA_B (x : xS) : vExB (exA x) := by
  intro A a U g mk h
  obtain ⟨h1, h2, h3, h4, h5, ⟨h6, h7⟩, h8, h9⟩ := h
  exact ⟨va_Nw.same rfl (u := U) (U := U.calling g mk a) rfl h1, fun i hi => vk_R.same (u := U) (U := U.calling g mk a) rfl (h2 i hi), vk_S.moved (u := U) (U := U.calling g mk a) (Vm.Alike.refl U.vm) h3, va_Z.moved (u := U) (U := U.calling g mk a) (Vm.Alike.refl U.vm) h4, va_Zq.moved (u := U) (U := U.calling g mk a) (Vm.Alike.refl U.vm) h5, ⟨va_Z.moved (u := U) (U := U.calling g mk a) (Vm.Alike.refl U.vm) h6, va_T.moved (u := U) (U := U.calling g mk a) (Vm.Alike.refl U.vm) h7⟩, va_Z.moved (u := U) (U := U.calling g mk a) (Vm.Alike.refl U.vm) h8, va_T.moved (u := U) (U := U.calling g mk a) (Vm.Alike.refl U.vm) h9⟩
section VX
variable {K : vK} {cc : ByteArray} {own : String} {tys : List (ClassId × FieldType)} {fr lo : Nat} {ws : va_W} {pc : Nat} {lv : List (Nat × Value)} {st : List Value} {q : List (Nat × Instr × Nat)}
theorem exA_C {S : Type} {Wd : S → va_W} {y : S} {x : xS} (hx : exA x K.2.2.1.2.1 K.2.1.1) : vExC K ws (exA x) Wd y := by
  intro H locs U hP hD hS hU hW hsub
  obtain ⟨h1, h2, h3, h4, h5, ⟨h6, h7⟩, h8, h9⟩ := hx
  subst hU
  have hk := hS.2.1
  have hA := hW.alike
  exact ⟨va_Nw.warmM hW h1, fun i hi => vk_R.warm hW (h2 i hi), ((vk_S.moved hA h3).kept hk).narrow hsub, ((va_Z.moved hA h4).kept hk).narrow hsub, ((va_Zq.moved hA h5).kept hk).narrow hsub, ⟨((va_Z.moved hA h6).kept hk).narrow hsub, ((va_T.moved hA h7).kept hk).narrow hsub⟩, ((va_Z.moved hA h8).kept hk).narrow hsub, ((va_T.moved hA h9).kept hk).narrow hsub⟩
theorem v_gets (h : vX K cc own tys fr lo) (P : vD cc q) (j : Nat) {idx : Nat} {C n d : String} {v : Value} (Z : va_Z C n d v K.2.2.1.2.1 K.2.1.1 K.2.1.1.heap) (w : Cond.fieldLink own idx C n d ∈ wsL_law) (dd : q[j]? = some (pc, .getstatic idx, 3)) (k : V K ws (pc + 3) lv (v :: st)) : V K ws pc lv st := fun H locs ls hP hD hS hl => va_gets h.1 h.2.1 Z hS h.2.2.2.1 (h.2.2.2.2.1 _ w) (fun _ e => e) (vD.at P dd) (k H locs ls hP hD hS hl)
theorem v_tint (h : vX K cc own tys fr lo) (P : vD cc q) (j : Nat) {t N : Nat} {f : Nat → Int32} {x : Int32} (T : va_T .int t N (fun j => .int (f j)) K.2.2.1.2.1 K.2.1.1 K.2.1.1.heap) (i : Nat) (dd : q[j]? = some (pc, .iaload, 1)) (hx : x = nI i) (hi : i < N) (hN : N < 2 ^ 31) (k : V K ws (pc + 1) lv (.int (f i) :: st)) : V K ws pc lv (.int x :: .ref t :: st) := by
  subst hx
  exact fun H locs ls hP hD hS hl => va_ti h.1 h.2.1 T hS (vp_in_nI hi hN) (by rw [nI_clamp (Nat.lt_trans hi hN)]) (vD.at P dd) (k H locs ls hP hD hS hl)
theorem v_tbyte (h : vX K cc own tys fr lo) (P : vD cc q) (j : Nat) {t N : Nat} {f : Nat → Int32} {x : Int32} (T : va_T .byte t N (fun j => .int (f j)) K.2.2.1.2.1 K.2.1.1 K.2.1.1.heap) (i : Nat) (dd : q[j]? = some (pc, .baload, 1)) (hx : x = nI i) (hi : i < N) (hN : N < 2 ^ 31) (k : V K ws (pc + 1) lv (.int (f i) :: st)) : V K ws pc lv (.int x :: .ref t :: st) := by
  subst hx
  exact fun H locs ls hP hD hS hl => va_tb h.1 h.2.1 T hS (vp_in_nI hi hN) (by rw [nI_clamp (Nat.lt_trans hi hN)]) (vD.at P dd) (k H locs ls hP hD hS hl)
theorem v_tlen (h : vX K cc own tys fr lo) (P : vD cc q) (j : Nat) {ty : FieldType} {t N : Nat} {f : Nat → Value} (T : va_T ty t N f K.2.2.1.2.1 K.2.1.1 K.2.1.1.heap) (dd : q[j]? = some (pc, .arraylength, 1)) (k : V K ws (pc + 1) lv (.int (nI N) :: st)) : V K ws pc lv (.ref t :: st) := fun H locs ls hP hD hS hl => va_tlen h.1 h.2.1 T hS rfl (vD.at P dd) (k H locs ls hP hD hS hl)
theorem v_getS (h : vX K cc own tys fr lo) (P : vD cc q) (j : Nat) {idx t : Nat} {C n d : String} {v : Value} (E : va_OF C n d v t K.2.2.1.2.1 K.2.1.1 K.2.1.1.heap) (w : Cond.fieldLink own idx C n d ∈ wsL_law) (dd : q[j]? = some (pc, .getfield idx, 3)) (k : V K ws (pc + 3) lv (v :: st)) : V K ws pc lv (.ref t :: st) := fun H locs ls hP hD hS hl => vk_getf h.1 h.2.1 E hS h.2.2.2.1 (h.2.2.2.2.1 _ w) (fun _ e => e) (vD.at P dd) (k H locs ls hP hD hS hl)
theorem v_ldcS (h : vX K cc own tys fr lo) (P : vD cc q) (j : Nat) {idx a : Nat} {tx : String} (Z : vk_R own idx tx a K.2.1.1) (dd : q[j]? = some (pc, .ldc idx, 2)) (k : V K ws (pc + 2) lv (.ref a :: st)) : V K ws pc lv st := fun H locs ls hP hD hS hl => va_ldcS h.1 h.2.1 h.2.2.2.1 Z (vD.at P dd) (k H locs ls hP hD hS hl)
theorem v_i2c (h : vX K cc own tys fr lo) (P : vD cc q) (j : Nat) {x : Int32} (d : q[j]? = some (pc, .i2c, 1)) (k : V K ws (pc + 1) lv (.int ((x.toUInt32 % 65536).toInt32) :: st)) : V K ws pc lv (.int x :: st) := fun H locs ls hP hD hS hl => lv_i2c h.1 h.2.1 (vD.at P d) rfl (k H locs ls hP hD hS hl)
theorem v_nret {S : Type} {Wd : S → va_W} {post : Option Value → S → Prop} (h : vX K cc own tys fr lo) (P : vD cc q) (j : Nat) {x : Int32} {ty : FieldType} (hx : narrow ty (.int x) = .int x) (hR : vR K tys Wd post) (hret : K.2.1.2.2.2.2.1.sig.returnType = some ty) (d : q[j]? = some (pc, .ireturn, 1)) (u : S) (hw : ws = Wd u) (hp : post (some (.int x)) u) : V K ws pc lv [.int x] := fun H locs ls hP hD hS hl => by
  rw [hR]
  exact W.zret h.1 h.2.1 hret hx (vR_q h hP hD hS hw hp) hS.2.2 (vD.at P d) h.2.2.2.2.2.2.2.1
/-- a method of a nest mate -/
def vMN (y : MethodName) (b : ByteArray) (nl : Nat) (ret : Option FieldType) (n : Nat) : Prop := Cond.static y ∈ wsL_law ∧ Cond.initialized y.cls ∈ wsL_law ∧ Cond.code y b nl ret ∈ wsL_law ∧ (y.cls ≠ "java/lang/invoke/MethodHandle" ∧ y.cls ≠ "java/lang/invoke/VarHandle" ∧ (parseMethodDescriptor y.desc).map (fun d => d.parameters.length) = some n)
theorem vMN.good {nl n : Nat} {y : MethodName} {b : ByteArray} {ret : Option FieldType} (h : vMN y b nl ret n) : GoodIn wsL_law (.code y b nl ret :: wsL_law) := by
  obtain ⟨h1, h2, h3, -⟩ := h
  have hm : ∀ w ∈ (.code y b nl ret :: wsL_law : List Cond), w ∈ wsL_law := by
    intro w hw
    rcases List.mem_cons.mp hw with rfl | hw <;> assumption
  exact fun w hw => ⟨hm w hw, vGood w (hm w hw)⟩
theorem v_callSN {S : Type} {Wd : S → va_W} {x : S} {ws' : S → va_W} {Ex : (Nat → Prop) → State → Prop} {post : Option Value → S → Prop} {idx nl n fr' lo' : Nat} {y : MethodName} {host : String} {b : ByteArray} {ret : Option FieldType} {As st0 : List Value} (h : vX K cc own tys fr lo) (P : vD cc q) (j : Nat) (mv : vMN y b nl ret n) (hN : va_Nw (.methodLinkNest own idx y host) K.2.1.1) (hM : vMet K.1.2.1 K.2.2.1.2.2.1 tys y b nl ret fr' lo' Wd Ex As x post) (hB : vExB Ex) (hE : vExC K ws Ex Wd x) (em : vEmb Wd x ws ws') (d : q[j]? = some (pc, .invokestatic idx, 3)) (hR : (Nat.ble (fr' + 1) fr && Nat.ble (8 + (nl + 11) + lo') lo) = true) (hn : As.length = n) (hst : st0 = As.reverse ++ st) (hcat : Nat.ble (st.map fun v => v.category).sum 8 = true)
    (kk : ∀ (v : Option Value) (u : S), post v u → V K (ws' u) (pc + 3) lv (v.toList ++ st)) : V K ws pc lv st0 := by
  intro H locs ls hP hD hS hl
  rw [Bool.and_eq_true] at hR
  obtain ⟨hp1, hp2⟩ := v_hpre (args := As) h hB hE em hP hD hS
  have hF := em.2.2.1 _ _ _ _ hD hS h.2.2.2.2.2.2.1
  subst hst
  refine v_behind (va_runSN (As := As) (rest := st) ⟨h.1, h.2.1, h.2.2.1, h.2.2.2.1, h.2.2.2.2.1⟩ (hM H.size) ⟨va_cnB n h.2.2.2.2.1 mv.good rfl rfl rfl hN (h.2.2.2.2.1 _ mv.2.1) mv.2.2.2 ⟨by rw [h.2.2.2.2.2.2.2.2.1]; exact Nat.le_of_ble_eq_true hR.1, by rw [h.2.2.2.2.2.2.2.2.2.1]; exact Nat.le_of_ble_eq_true hR.2⟩, h.2.2.2.2.1 _ mv.1, trivial⟩ ⟨hp1, hp2⟩ rfl hn hl.1 rfl (lv_room (Nat.le_of_ble_eq_true hcat)) (vD.at P d) ⟨h.2.2.2.2.2.2.2.2.2.2.1, h.2.2.2.2.2.2.2.2.2.2.2⟩) hS (fun q _ hq => hF q hq) hF (fun r u t H1 locs1 ht hvm hp hb hz hk hS1 => ?_)
  obtain ⟨hP1, -, hD1⟩ := hb
  rw [ht] at hP1
  obtain ⟨hP2, hD2⟩ := em.2.2.2 _ _ H H1 u hP hD hk hF hP1 hD1
  exact kk r u hp H1 locs1 ls hP2 hD2 hS1 hl
/-- a call on an object that lies outside the world -/
theorem v_callVK {S : Type} {Wd : S → va_W} {x : S} {ws' : S → va_W} {Ex : (Nat → Prop) → State → Prop} {post : Option Value → S → Prop} {idx nl n fr' lo' a : Nat} {y : MethodName} {b : ByteArray} {ret : Option FieldType} {As st0 : List Value} {C : String} (h : vX K cc own tys fr lo) (P : vD cc q) (j : Nat) (mv : vMV own idx C y b nl ret n) (hM : vMet K.1.2.1 K.2.2.1.2.2.1 tys y b nl ret fr' lo' Wd Ex (.ref a :: As) x post) (hB : vExB Ex) (hE : vExC K ws Ex Wd x) (em : vEmb Wd x ws ws') (hrc : ∀ (H : Heap) (locs : List Loc), va_S K.2.2.1.2.1 K.2.1.1.heap H locs → ∃ cell : Cell, H[a]? = some cell ∧ cell.vm.isStatics = false ∧ K.2.1.1.vm.findClass C = some cell.cls) (d : q[j]? = some (pc, .invokevirtual idx, 3)) (hR : (Nat.ble (fr' + 1) fr && Nat.ble (8 + (nl + 11) + lo') lo) = true) (hn : As.length = n) (hst : st0 = As.reverse ++ .ref a :: st) (hcat : Nat.ble (st.map fun v => v.category).sum 8 = true)
    (kk : ∀ (v : Option Value) (u : S), post v u → V K (ws' u) (pc + 3) lv (v.toList ++ st)) : V K ws pc lv st0 := by
  intro H locs ls hP hD hS hl
  rw [Bool.and_eq_true] at hR
  obtain ⟨hp1, hp2⟩ := v_hpre (args := .ref a :: As) h hB hE em hP hD hS
  have hF := em.2.2.1 _ _ _ _ hD hS h.2.2.2.2.2.2.1
  subst hst
  refine v_behind (va_runV (As := As) (rest := st) ⟨h.1, h.2.1, h.2.2.1, h.2.2.2.1, h.2.2.2.2.1⟩ (hM H.size) (cwV n h.2.2.2.2.1 mv.good rfl rfl rfl mv.2.2.2.2.2 ⟨by rw [h.2.2.2.2.2.2.2.2.1]; exact Nat.le_of_ble_eq_true hR.1, by rw [h.2.2.2.2.2.2.2.2.2.1]; exact Nat.le_of_ble_eq_true hR.2⟩) ⟨hp1, hrc H locs hS, hp2⟩ rfl hn hl.1 rfl (lv_room (Nat.le_of_ble_eq_true hcat)) (vD.at P d) ⟨h.2.2.2.2.2.2.2.2.2.2.1, h.2.2.2.2.2.2.2.2.2.2.2⟩) hS (fun q _ hq => hF q hq) hF (fun r u t H1 locs1 ht hvm hp hb hz hk hS1 => ?_)
  obtain ⟨hP1, -, hD1⟩ := hb
  rw [ht] at hP1
  obtain ⟨hP2, hD2⟩ := em.2.2.2 _ _ H H1 u hP hD hk hF hP1 hD1
  exact kk r u hp H1 locs1 ls hP2 hD2 hS1 hl
end VX
theorem wl_lt : ∀ i, i < 14 → wl i < 9 := by decide
theorem ch_tab : ∀ i, i < 14 → ∀ j, j < 9 → ((((bytT.getD i []).getD j 0) &&& 255).toUInt32 % 65536).toInt32 = ch i j ∧ narrow .char (.int (ch i j)) = .int (ch i j) := by decide +kernel
theorem shr_0 (x : Int32) : x >>> ((0 : Int32) &&& 31) = x := by
  apply Int32.toBitVec_inj.mp
  rw [Int32.toBitVec_shiftRight]
  show x.toBitVec.sshiftRight' (((0 : Int32) &&& 31).toBitVec.smod 32) = x.toBitVec
  have e : ((((0 : Int32) &&& 31).toBitVec.smod 32)).toNat = 0 := by decide
  rw [BitVec.sshiftRight', e]
  exact BitVec.sshiftRight_zero
theorem mJ0_335 : vMV RJ0 335 RJ0 yJ0_coder_7d493 cJ0_coder_7d493 1 (some .byte) 0 := ⟨wm_724, wm_725, wm_726, wm_721, wm_727, by decide +kernel⟩
theorem mJ0_492 : vMV RJ0 492 RJ0 yJ0_isLatin1_aae02 cJ0_isLatin1_aae02 1 (some .boolean) 0 := ⟨wm_734, wm_735, wm_736, wm_721, wm_737, by decide +kernel⟩
theorem mJ0_495 : vMS RJ0 495 yJ1_charAt_3b067 cJ1_charAt_3b067 2 (some .char) 2 := ⟨wm_738, wm_739, wm_740, wm_741, by decide +kernel⟩
theorem mJ1_9 : vMS RJ1 9 yJ0_checkIndex_df160 cJ0_checkIndex_df160 2 none 2 := ⟨wm_742, wm_743, wm_721, wm_744, by decide +kernel⟩
theorem mJ0_1059 : vMS RJ0 1059 yJ3_checkIndex_8e157 cJ3_checkIndex_8e157 3 (some .int) 3 := ⟨wm_746, wm_747, wm_748, wm_749, by decide +kernel⟩
theorem nX3_isKind : vMN yX3_isKind cX3_isKind 1 (some .boolean) 1 := ⟨wm_151, wm_2, wm_152, by decide +kernel⟩
