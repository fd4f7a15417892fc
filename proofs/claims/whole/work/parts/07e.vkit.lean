section VC
variable {K : vK} {cc : ByteArray} {own : String} {tys : List (ClassId × FieldType)} {fr lo : Nat} {ws : va_W} {pc : Nat} {lv : List (Nat × Value)} {st : List Value} {q : List (Nat × Instr × Nat)}
/-- A METHOD'S CONTRACT FROM ITS WALK -/
theorem vMet_of {l : Launch} {D : va_G} {y : MethodName} {b : ByteArray} {nl : Nat} {ret : Option FieldType} {S : Type} {Wd : S → va_W} {Ex : (Nat → Prop) → State → Prop} {args : List Value} {x : S} {post : Option Value → S → Prop} (hy : plainName y.cls = true) (hlen : Nat.ble (lg_sl args).length nl = true)
    (body : ∀ K : vK, K.1.2.1 = l → K.2.2.1.2.2.1 = D → K.2.2.1.2.2.2 = nl → K.2.1.2.2.2.2.1.sig.returnType = ret → vX K b y.cls tys fr lo → vR K tys Wd post → (K.2.2.1.2.1 = va_A (Wd x) K.2.1.1.heap.size ∧ Ex K.2.2.1.2.1 K.2.1.1) → V K (Wd x) 0 (lv_args 0 args) []) : vMet l D tys y b nl ret fr lo Wd Ex args x post := by
  intro sz
  refine Met.ofW (cc := b) (maxL := nl) (ret := ret) hy rfl ?_
  intro p e s m args' below meth c s₁ B hml hv
  obtain ⟨rfl, hsz, hP, hK, hD0, hEx⟩ := hv
  have hts0 := atoms_spec (ws := .code y b nl ret :: wsL_law) B.pre
  have hown : s.vm.findClass y.cls = some m.cls := findClass_of_methodNamed B.named
  subst hsz
  have hl := lv_entry args (n := nl) (Nat.le_of_ble_eq_true hlen)
  rw [lg_entry_eq]
  have X := body ((p, l, e, _), (s, m, args.toArray, below, meth, c), (MQ below (vQ post (vB D tys Wd (va_A (Wd x) s.heap.size)) (va_A (Wd x) s.heap.size)) args.toArray s 0 0 (va_A (Wd x) s.heap.size), va_A (Wd x) s.heap.size, D, nl), (0, 0)) rfl rfl rfl B.returns
    (show vX ((p, l, e, (headSpec (.code y b nl ret :: wsL_law) ({ frames := fr, cells := 0, slots := 0, locals := lo })).room), (s, m, args.toArray, below, meth, c), (MQ below (vQ post (vB D tys Wd (va_A (Wd x) s.heap.size)) (va_A (Wd x) s.heap.size)) args.toArray s 0 0 (va_A (Wd x) s.heap.size), va_A (Wd x) s.heap.size, D, nl), (0, 0)) b y.cls tys fr lo from ⟨B.exec, B.bytes, hml, hown, fun w hw => hts0 w (List.mem_cons_of_mem _ hw), hK, fun q h => Or.inr h, B.notSynchronized, rfl, rfl, Nat.zero_le _, Nat.zero_le _⟩) rfl ⟨rfl, hEx⟩
  exact X s.heap [] _ hP hD0.self va_S.rf hl
/-- a call of an instance's method; of a class's -/
def vMV (own : String) (idx : Nat) (C : String) (y : MethodName) (b : ByteArray) (nl : Nat) (ret : Option FieldType) (n : Nat) : Prop := Cond.methodLink own idx y ∈ wsL_law ∧ Cond.instanceMethod y ∈ wsL_law ∧ Cond.selects C y y ∈ wsL_law ∧ Cond.initialized C ∈ wsL_law ∧ Cond.code y b nl ret ∈ wsL_law ∧ (y.cls = C ∧ y.cls ≠ "java/lang/invoke/MethodHandle" ∧ y.cls ≠ "java/lang/invoke/VarHandle" ∧ (parseMethodDescriptor y.desc).map (fun d => d.parameters.length) = some n)
def vMS (own : String) (idx : Nat) (y : MethodName) (b : ByteArray) (nl : Nat) (ret : Option FieldType) (n : Nat) : Prop := Cond.methodLink own idx y ∈ wsL_law ∧ Cond.static y ∈ wsL_law ∧ Cond.initialized y.cls ∈ wsL_law ∧ Cond.code y b nl ret ∈ wsL_law ∧ (y.cls ≠ "java/lang/invoke/MethodHandle" ∧ y.cls ≠ "java/lang/invoke/VarHandle" ∧ (parseMethodDescriptor y.desc).map (fun d => d.parameters.length) = some n)
theorem vMV.good {idx nl n : Nat} {C : String} {y : MethodName} {b : ByteArray} {ret : Option FieldType} (h : vMV own idx C y b nl ret n) : GoodIn wsL_law (wsV own idx C y (.code y b nl ret :: wsL_law)) := by
  obtain ⟨h1, h2, h3, h4, h5, -⟩ := h
  have hm : ∀ w ∈ wsV own idx C y (.code y b nl ret :: wsL_law), w ∈ wsL_law := by
    intro w hw
    simp only [wsV, List.mem_append, List.mem_cons, List.not_mem_nil, or_false] at hw
    rcases hw with (rfl | rfl | rfl | rfl) | rfl | hw <;> assumption
  exact fun w hw => ⟨hm w hw, vGood w (hm w hw)⟩
theorem vMS.good {idx nl n : Nat} {y : MethodName} {b : ByteArray} {ret : Option FieldType} (h : vMS own idx y b nl ret n) : GoodIn wsL_law (va_wsS own idx y (.code y b nl ret :: wsL_law)) := by
  obtain ⟨h1, h2, h3, h4, -⟩ := h
  have hm : ∀ w ∈ va_wsS own idx y (.code y b nl ret :: wsL_law), w ∈ wsL_law := by
    intro w hw
    simp only [va_wsS, List.mem_append, List.mem_cons, List.not_mem_nil, or_false] at hw
    rcases hw with (rfl | rfl | rfl) | rfl | hw <;> assumption
  exact fun w hw => ⟨hm w hw, vGood w (hm w hw)⟩
def vExB (Ex : (Nat → Prop) → State → Prop) : Prop := ∀ (A : Nat → Prop) (a : Array Value) (U : State) (g : JFrame) (mk : MethodId), Ex A U → Ex A (U.calling g mk a)
/-- what the caller gives of Ex -/
def vExC {S : Type} (K : vK) (ws : va_W) (Ex : (Nat → Prop) → State → Prop) (Wd : S → va_W) (x : S) : Prop := ∀ (H : Heap) (locs : List Loc) (U : State), va_P K.2.2.1.2.2.1 vwCl ws H → va_D K.2.2.1.2.1 ws → va_S K.2.2.1.2.1 K.2.1.1.heap H locs → U.heap = H → K.2.1.1.WarmedH U.vm → (∀ q, va_A (Wd x) H.size q → K.2.2.1.2.1 q) → Ex (va_A (Wd x) H.size) U
theorem v_behind {p : Program} {l : Launch} {e : Env} {R : Room} {s : State} {m : MethodId} {args : Array Value} {below : List Frame} {meth : Method} {c : Code} {H : Heap} {locs : List Loc} {cells slots : Nat} {Q : State → Prop} {ls : Array Slot} {rest st0 : List Value} {a : Array Value} {A0 A1 : Nat → Prop} {H0 : Heap} {free : Addr → Prop} {S : Type} {post : Option Value → S → Prop} {B : S → State → Prop} (hr : va_Run p l e R s m args below meth c H locs cells slots 0 0 (F0 m pc ls st0) rest (vQ post B A1 a) free) (hS : va_S A0 H0 H locs) (hA : ∀ q, q < H.size → A1 q → A0 q) (hf : ∀ q, free q → A0 q)
    (kk : ∀ (r : Option Value) (u : S) (t : State) (H1 : Heap) (locs1 : List Loc), t.heap = H1 → s.vm.Alike t.vm → post r u → B u t → H.size ≤ H1.size → (∀ q : Nat, q < H.size → ¬ A1 q → H1[q]? = H[q]?) → va_S A0 H0 H1 locs1 → W p l e R s m args below meth c H1 locs1 cells slots Q (F0 m (pc + 3) ls (r.toList ++ rest))) : W p l e R s m args below meth c H locs cells slots Q (F0 m pc ls st0) := by
  intro T hT X
  obtain ⟨v, st₀, t, T', L, h0, X', hL, e1, e2, ⟨⟨r, u, hv, hp, hb⟩, hz, hk⟩, st⟩ := hr T hT X
  cases hv
  rw [h0] at hz hk
  obtain ⟨t2, a1, b1⟩ := kk v u t T'.heap (locs ++ L) e1.symm (by rw [← e2]; exact X'.warmed.alike) hp hb (by rw [e1]; exact hz) (fun q h1 h2 => by rw [e1]; exact hk q h1 h2)
    ⟨Nat.le_trans hS.1 (by rw [e1]; exact hz), fun q h1 h2 => by rw [e1, hk q (Nat.lt_of_lt_of_le h1 hS.1) (fun z => h2 (hA q (Nat.lt_of_lt_of_le h1 hS.1) z))]; exact hS.2.1 q h1 h2, fun q hq => by
      rcases List.mem_append.mp hq with h | h
      · exact hS.2.2 q h
      · exact hf _ (hL q h)⟩ T' rfl X'
  exact ⟨t2, st t2 a1, b1⟩
theorem v_hpre {S : Type} {Wd : S → va_W} {x : S} {ws' : S → va_W} {Ex : (Nat → Prop) → State → Prop} {args : List Value} (h : vX K cc own tys fr lo) (hB : vExB Ex) (hE : vExC K ws Ex Wd x) (em : vEmb Wd x ws ws') {H : Heap} {locs : List Loc} (hP : va_P K.2.2.1.2.2.1 vwCl ws H) (hD : va_D K.2.2.1.2.1 ws) (hS : va_S K.2.2.1.2.1 K.2.1.1.heap H locs) :
    FrameBlind (va_Pc args (vPre K.2.2.1.2.2.1 tys Wd Ex x H.size)) ∧ ∀ U : State, U.heap = H → K.2.1.1.WarmedH U.vm → va_Pc args (vPre K.2.2.1.2.2.1 tys Wd Ex x H.size) args.toArray U :=
  ⟨fun a U g mk q => by
    obtain ⟨q0, q1, qP, qK, qD, qE⟩ := q
    exact ⟨q0, q1, qP, va_K.moved (u := U) (U := U.calling g mk a) (Vm.Alike.refl U.vm) qK, qD, hB _ _ _ _ _ qE⟩,
   fun U hU hW => ⟨rfl, by rw [hU], by rw [hU]; exact em.1 _ _ hP, va_K.moved hW.alike h.2.2.2.2.2.1, em.2.1 _ hD, hE H locs U hP hD hS hU hW (em.2.2.1 _ _ _ _ hD hS h.2.2.2.2.2.2.1)⟩⟩
theorem v_callV {S : Type} {Wd : S → va_W} {x : S} {ws' : S → va_W} {Ex : (Nat → Prop) → State → Prop} {post : Option Value → S → Prop} {idx nl n fr' lo' ci a : Nat} {y : MethodName} {b : ByteArray} {ret : Option FieldType} {As st0 : List Value} {C : String} {T : u_T} {N : Nat} {fs : List Value} (h : vX K cc own tys fr lo) (P : vD cc q) (j : Nat) (mv : vMV own idx C y b nl ret n) (hM : vMet K.1.2.1 K.2.2.1.2.2.1 tys y b nl ret fr' lo' Wd Ex (.ref a :: As) x post) (hB : vExB Ex) (hE : vExC K ws Ex Wd x) (em : vEmb Wd x ws ws') (q0 : Nat) (d : q[j]? = some (pc, .invokevirtual idx, 3)) (he : ws[q0]? = some (a, .inr (ci, fs))) (hci : vwCl[ci]? = some (C, T, N)) (hR : (Nat.ble (fr' + 1) fr && Nat.ble (8 + (nl + 11) + lo') lo) = true) (hn : As.length = n) (hst : st0 = As.reverse ++ .ref a :: st) (hcat : Nat.ble (st.map fun v => v.category).sum 8 = true)
    (kk : ∀ (v : Option Value) (u : S), post v u → V K (ws' u) (pc + 3) lv (v.toList ++ st)) : V K ws pc lv st0 := by
  intro H locs ls hP hD hS hl
  rw [Bool.and_eq_true] at hR
  obtain ⟨hp1, hp2⟩ := v_hpre (args := .ref a :: As) h hB hE em hP hD hS
  have hF := em.2.2.1 _ _ _ _ hD hS h.2.2.2.2.2.2.1
  subst hst
  refine v_behind (va_runV (As := As) (rest := st) ⟨h.1, h.2.1, h.2.2.1, h.2.2.2.1, h.2.2.2.2.1⟩ (hM H.size) (cwV n h.2.2.2.2.1 mv.good rfl rfl rfl mv.2.2.2.2.2 ⟨by rw [h.2.2.2.2.2.2.2.2.1]; exact Nat.le_of_ble_eq_true hR.1, by rw [h.2.2.2.2.2.2.2.2.2.1]; exact Nat.le_of_ble_eq_true hR.2⟩) ⟨hp1, va_recv h.2.2.2.2.2.1 hP hci he, hp2⟩ rfl hn hl.1 rfl (lv_room (Nat.le_of_ble_eq_true hcat)) (vD.at P d) ⟨h.2.2.2.2.2.2.2.2.2.2.1, h.2.2.2.2.2.2.2.2.2.2.2⟩) hS (fun q _ hq => hF q hq) hF (fun r u t H1 locs1 ht hvm hp hb hz hk hS1 => ?_)
  obtain ⟨hP1, -, hD1⟩ := hb
  rw [ht] at hP1
  obtain ⟨hP2, hD2⟩ := em.2.2.2 _ _ H H1 u hP hD hk hF hP1 hD1
  exact kk r u hp H1 locs1 ls hP2 hD2 hS1 hl
theorem v_callS {S : Type} {Wd : S → va_W} {x : S} {ws' : S → va_W} {Ex : (Nat → Prop) → State → Prop} {post : Option Value → S → Prop} {idx nl n fr' lo' : Nat} {y : MethodName} {b : ByteArray} {ret : Option FieldType} {As st0 : List Value} (h : vX K cc own tys fr lo) (P : vD cc q) (j : Nat) (mv : vMS own idx y b nl ret n) (hM : vMet K.1.2.1 K.2.2.1.2.2.1 tys y b nl ret fr' lo' Wd Ex As x post) (hB : vExB Ex) (hE : vExC K ws Ex Wd x) (em : vEmb Wd x ws ws') (d : q[j]? = some (pc, .invokestatic idx, 3)) (hR : (Nat.ble (fr' + 1) fr && Nat.ble (8 + (nl + 11) + lo') lo) = true) (hn : As.length = n) (hst : st0 = As.reverse ++ st) (hcat : Nat.ble (st.map fun v => v.category).sum 8 = true)
    (kk : ∀ (v : Option Value) (u : S), post v u → V K (ws' u) (pc + 3) lv (v.toList ++ st)) : V K ws pc lv st0 := by
  intro H locs ls hP hD hS hl
  rw [Bool.and_eq_true] at hR
  obtain ⟨hp1, hp2⟩ := v_hpre (args := As) h hB hE em hP hD hS
  have hF := em.2.2.1 _ _ _ _ hD hS h.2.2.2.2.2.2.1
  subst hst
  refine v_behind (va_runS (As := As) (rest := st) ⟨h.1, h.2.1, h.2.2.1, h.2.2.2.1, h.2.2.2.2.1⟩ (hM H.size) (va_cwS n h.2.2.2.2.1 mv.good rfl rfl rfl mv.2.2.2.2 ⟨by rw [h.2.2.2.2.2.2.2.2.1]; exact Nat.le_of_ble_eq_true hR.1, by rw [h.2.2.2.2.2.2.2.2.2.1]; exact Nat.le_of_ble_eq_true hR.2⟩) ⟨hp1, hp2⟩ rfl hn hl.1 rfl (lv_room (Nat.le_of_ble_eq_true hcat)) (vD.at P d) ⟨h.2.2.2.2.2.2.2.2.2.2.1, h.2.2.2.2.2.2.2.2.2.2.2⟩) hS (fun q _ hq => hF q hq) hF (fun r u t H1 locs1 ht hvm hp hb hz hk hS1 => ?_)
  obtain ⟨hP1, -, hD1⟩ := hb
  rw [ht] at hP1
  obtain ⟨hP2, hD2⟩ := em.2.2.2 _ _ H H1 u hP hD hk hF hP1 hD1
  exact kk r u hp H1 locs1 ls hP2 hD2 hS1 hl
theorem v0B : vExB v0 := fun _ _ _ _ _ h => h
theorem v0C {S : Type} {Wd : S → va_W} {x : S} : vExC K ws v0 Wd x := fun _ _ _ _ _ _ _ _ _ => trivial
end VC
/-- the array classes: of ints, of sheets -/
abbrev vT (cI cS : ClassId) : List (ClassId × FieldType) := [(cI, .int), (cS, .object "OysterSecrets$Sheet")]
