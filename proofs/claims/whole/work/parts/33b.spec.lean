/-! ===== what makes new objects and rows ===== -/
def kC (K : vK) (c s : Nat) : vK := (K.1, K.2.1, K.2.2.1, (c, s))
theorem vX_tys {K : vK} {cc : ByteArray} {own : String} {tys tys' : List (ClassId × FieldType)} {fr lo : Nat} (h : vX K cc own tys fr lo) (hK : va_K K.2.2.1.2.2.1 vwCl tys' K.2.1.1) : vX K cc own tys' fr lo := ⟨h.1, h.2.1, h.2.2.1, h.2.2.2.1, h.2.2.2.2.1, hK, h.2.2.2.2.2.2⟩
/-- what a constructor owes and gives -/
def vQN {S : Type} (post : S → Prop) (D : va_G) (tysO : S → List (ClassId × FieldType)) (Wd : S → va_W) (A : Nat → Prop) : Array Value → State → Outcome → State → Prop := fun _ st oc t => (∃ u : S, oc = .returned none ∧ post u ∧ va_P D vwCl (Wd u) t.heap ∧ va_K D vwCl (tysO u) t ∧ va_D A (Wd u)) ∧ va_F A st t
def vPreN (D : va_G) (tys : List (ClassId × FieldType)) (ws0 : va_W) (Ex : (Nat → Prop) → State → Prop) (sz : Nat) (U : State) : Prop := U.heap.size = sz ∧ va_P D vwCl ws0 U.heap ∧ va_K D vwCl tys U ∧ va_D (fun _ => True) ws0 ∧ Ex (va_A ws0 sz) U
def vNew (l : Launch) (D : va_G) (tys : List (ClassId × FieldType)) (y : MethodName) (b : ByteArray) (nl fr lo mc ms : Nat) {S : Type} (ws0 : va_W) (Ex : (Nat → Prop) → State → Prop) (args : List Value) (tysO : S → List (ClassId × FieldType)) (Wd : S → va_W) (post : S → Prop) : Prop :=
  ∀ sz : Nat, Met l y (.code y b nl none :: wsL_law) ({ frames := fr, cells := mc, slots := ms, locals := lo }) (va_Pc args (vPreN D tys ws0 Ex sz)) (vQN post D tysO Wd (va_A ws0 sz)) mc ms (va_A ws0 sz)
def vRN (K : vK) (mc ms : Nat) {S : Type} (post : S → Prop) (tysO : S → List (ClassId × FieldType)) (Wd : S → va_W) : Prop := K.2.2.1.1 = MQ K.2.1.2.2.2.1 (vQN post K.2.2.1.2.2.1 tysO Wd K.2.2.1.2.1) K.2.1.2.2.1 K.2.1.1 mc ms K.2.2.1.2.1
theorem vNew_of {l : Launch} {D : va_G} {tys : List (ClassId × FieldType)} {y : MethodName} {b : ByteArray} {nl fr lo mc ms : Nat} {S : Type} {ws0 : va_W} {Ex : (Nat → Prop) → State → Prop} {args : List Value} {tysO : S → List (ClassId × FieldType)} {Wd : S → va_W} {post : S → Prop} (hy : plainName y.cls = true) (hyi : y.name = "<init>") (hlen : Nat.ble (lg_sl args).length nl = true)
    (body : ∀ K : vK, K.1.2.1 = l → K.2.2.1.2.2.1 = D → K.2.2.1.2.2.2 = nl → K.2.1.2.2.2.2.1.sig.returnType = none → K.2.1.2.2.2.2.1.name = "<init>" → (∀ c s : Nat, c ≤ mc → s ≤ ms → vX (kC K c s) b y.cls tys fr lo) → vRN K mc ms post tysO Wd → (K.2.2.1.2.1 = va_A ws0 K.2.1.1.heap.size ∧ Ex K.2.2.1.2.1 K.2.1.1) → V (kC K 0 0) ws0 0 (lv_args 0 args) []) : vNew l D tys y b nl fr lo mc ms ws0 Ex args tysO Wd post := by
  intro sz
  refine Met.ofW (cc := b) (maxL := nl) (ret := none) hy rfl ?_
  intro p e s m args' below meth c s₁ B hml hv
  obtain ⟨rfl, hsz, hP, hK, hD0, hEx⟩ := hv
  have hts0 := atoms_spec (ws := .code y b nl none :: wsL_law) B.pre
  have hown : s.vm.findClass y.cls = some m.cls := findClass_of_methodNamed B.named
  have hin : meth.name = "<init>" := (name_of_methodNamed B.named B.method).1.trans hyi
  subst hsz
  have hl := lv_entry args (n := nl) (Nat.le_of_ble_eq_true hlen)
  rw [lg_entry_eq]
  have X := body ((p, l, e, _), (s, m, args.toArray, below, meth, c), (MQ below (vQN post D tysO Wd (va_A ws0 s.heap.size)) args.toArray s mc ms (va_A ws0 s.heap.size), va_A ws0 s.heap.size, D, nl), (0, 0)) rfl rfl rfl B.returns hin
    (fun cc ss h1 h2 => show vX ((p, l, e, (headSpec (.code y b nl none :: wsL_law) ({ frames := fr, cells := mc, slots := ms, locals := lo })).room), (s, m, args.toArray, below, meth, c), (MQ below (vQN post D tysO Wd (va_A ws0 s.heap.size)) args.toArray s mc ms (va_A ws0 s.heap.size), va_A ws0 s.heap.size, D, nl), (cc, ss)) b y.cls tys fr lo from ⟨B.exec, B.bytes, hml, hown, fun w hw => hts0 w (List.mem_cons_of_mem _ hw), hK, fun q h => Or.inr h, B.notSynchronized, rfl, rfl, h1, h2⟩) rfl ⟨rfl, hEx⟩
  exact X s.heap [] _ hP hD0.self va_S.rf hl
section VNW
variable {K : vK} {cc : ByteArray} {own : String} {tys : List (ClassId × FieldType)} {fr lo : Nat} {ws : va_W} {pc : Nat} {lv : List (Nat × Value)} {st : List Value} {q : List (Nat × Instr × Nat)} {c s : Nat}
theorem v_vretN {S : Type} {Wd : S → va_W} {post : S → Prop} {tysO : S → List (ClassId × FieldType)} {mc ms : Nat} (u : S) (h : vX (kC K mc ms) cc own (tysO u) fr lo) (P : vD cc q) (j : Nat) (hR : vRN K mc ms post tysO Wd) (hret : K.2.1.2.2.2.2.1.sig.returnType = none) (d : q[j]? = some (pc, .return_, 1)) (hw : ws = Wd u) (hp : post u) : V (kC K mc ms) ws pc lv [] := fun H locs ls hP hD hS hl => by
  show W _ _ _ _ _ _ _ _ _ _ H locs mc ms K.2.2.1.1 _
  rw [hR]
  refine W.vret h.1 h.2.1 hret (fun t ht hW => ?_) hS.2.2 (vD.at P d) h.2.2.2.2.2.2.2.1
  exact ⟨⟨u, rfl, hp, by rw [ht, ← hw]; exact hP, va_K.moved hW.alike h.2.2.2.2.2.1, by rw [← hw]; exact hD⟩, hS.F ht⟩
theorem v_objInit (h : vX K cc own tys fr lo) (P : vD cc q) (j : Nat) {idx a : Nat} (w1 : Cond.methodLink own idx objectInit ∈ wsL_law) (w2 : Cond.instanceMethod objectInit ∈ wsL_law) (w3 : Cond.code objectInit ⟨#[0xb1]⟩ 1 none ∈ wsL_law) (d : q[j]? = some (pc, .invokespecial idx, 3)) (hf : Nat.ble 1 fr = true) (hlo : Nat.ble ((st.map fun v => v.category).sum + 12) lo = true) (k : V K ws (pc + 3) lv st) : V K ws pc lv (.ref a :: st) := fun H locs ls hP hD hS hl => W.objInit h.1 h.2.1 h.2.2.2.1 (h.2.2.2.2.1 _ w1) (h.2.2.2.2.1 _ w2) (h.2.2.2.2.1 _ w3) rfl (hl.1.trans h.2.2.1.symm) rfl (vD.at P d) (by rw [h.2.2.2.2.2.2.2.2.1]; exact Nat.le_of_ble_eq_true hf) (by rw [h.2.2.2.2.2.2.2.2.2.1]; have := Nat.le_of_ble_eq_true hlo; show 2 * 0 + _ + 12 ≤ lo; omega) (W.eq (g2 := F0 K.2.1.2.1 (pc + 3) ls st) rfl (k H locs ls hP hD hS hl))
theorem v_newa (h : vX (kC K c s) cc own tys fr lo) {N : Nat} (h2 : vX (kC K (c + 1) (s + N)) cc own tys fr lo) (P : vD cc q) (j : Nat) {cI : ClassId} {x : Int32} (w : Cond.arrayClass .int ∈ wsL_law) (d : q[j]? = some (pc, .newarray .int, 2)) (ht : tys[0]? = some (cI, .int)) (hx : x = nI N) (hN : N < 1000) (k : ∀ a : Nat, V (kC K (c + 1) (s + N)) (ws ++ [(a, .inl (cI, N, .inl (fun _ => 0)))]) (pc + 2) lv (.ref a :: st)) : V (kC K c s) ws pc lv (.int x :: st) := by
  subst hx
  intro H locs ls hP hD hS hl
  refine va_newa (atype := .int) (a0 := (N, .inl (fun _ => 0))) h.1 h.2.1 (h.2.2.2.2.1 _ w) (ty := .int) rfl h.2.2.2.2.2.1 hP hD hS h.2.2.2.2.2.2.1 (fun _ => rfl) (nI_pos (by omega)) (nI_clamp (by omega)) (by show N * 4 ≤ 536870912; omega) h2.2.2.2.2.2.2.2.2.2.2.1 h2.2.2.2.2.2.2.2.2.2.2.2 (vD.at P d) (fun a cA H1 hK1 hP1 hD1 hS1 => ?_)
  have e1 : K.2.1.1.vm.findClass ("[" ++ FieldType.int.toString) = some cA := (hK1.2 tys.length (cA, .int) (by rw [List.getElem?_append_right (Nat.le_refl _), Nat.sub_self]; rfl)).2
  have e2 : K.2.1.1.vm.findClass ("[" ++ FieldType.int.toString) = some cI := (h.2.2.2.2.2.1.2 0 (cI, .int) ht).2
  have e3 : cA = cI := Option.some.inj (e1.symm.trans e2)
  subst e3
  exact k a H1 locs ls hP1 hD1 hS1 hl
def vFF (own : String) (idx ci k : Nat) (ty : FieldType) : Prop := ∃ (C : String) (T : u_T) (N : Nat) (ty0 : Nat → FieldType), vwCl[ci]? = some (C, T, N) ∧ k < N ∧ (∀ w ∈ u_ws C T N, w ∈ wsL_law) ∧ Cond.fieldLink own idx (T k).1 (T k).2.1 (T k).2.2.1 ∈ wsL_law ∧ (∀ k, k < N → parseFieldDescriptor (T k).2.2.1 = some (ty0 k)) ∧ (∀ a, a < N → ∀ b, b < N → a ≠ b → (T a).2.1 ≠ (T b).2.1) ∧ (T k).2.2.2 = true ∧ (T k).1 = own ∧ parseFieldDescriptor (T k).2.2.1 = some ty
theorem v_putF (h : vX K cc own tys fr lo) (hin : K.2.1.2.2.2.2.1.name = "<init>") (P : vD cc q) (j : Nat) {idx ci k a : Nat} {ty : FieldType} {fs : List Value} {v : Value} {ws' : va_W} (F : vFF own idx ci k ty) (q0 : Nat) (d : q[j]? = some (pc, .putfield idx, 3)) (he : ws[q0]? = some (a, .inr (ci, fs))) (hn : narrow ty v = v) (hf : fits ty v = true) (hl : Nat.blt k fs.length = true) (hw : ws.set q0 (a, .inr (ci, fs.set k v)) = ws') (kk : V K ws' (pc + 3) lv st) : V K ws pc lv (v :: .ref a :: st) := by
  obtain ⟨C, T, N, ty0, hc, hk, hin1, hlk, hty, hnm, hfin, hdc, hd⟩ := F
  subst hw
  exact fun H locs ls hP hD hS hL => va_putF h.1 h.2.1 h.2.2.2.2.1 hin1 ty0 hty hnm h.2.2.2.1 h.2.2.2.2.2.1 hP hD hS q0 he hc k hk (h.2.2.2.2.1 _ hlk) (fun _ h9 => h9) hfin hin hdc hd hn hf (Nat.le_of_ble_eq_true hl) (vD.at P d) (fun H1 locs1 hP hD hS => kk H1 locs1 ls hP hD hS hL)
theorem v_new (h : vX (kC K c s) cc own tys fr lo) {N : Nat} (h2 : vX (kC K (c + 1) (s + N)) cc own tys fr lo) (P : vD cc q) (j : Nat) {idx ci : Nat} {C : String} {T : u_T} {ty : Nat → FieldType} (w1 : Cond.classLink own idx C ∈ wsL_law) (w2 : Cond.instantiable C N ∈ wsL_law) (w3 : Cond.initialized C ∈ wsL_law) (hc : vwCl[ci]? = some (C, T, N)) (hin : ∀ w ∈ u_ws C T N, w ∈ wsL_law) (hty : ∀ k, k < N → parseFieldDescriptor (T k).2.2.1 = some (ty k)) (fs : List Value) (hfs : ∀ j, j < N → defaultValue (ty j) = vp_V fs j) (d : q[j]? = some (pc, .new idx, 3)) (k : ∀ a : Nat, V (kC K (c + 1) (s + N)) (ws ++ [(a, .inr (ci, fs))]) (pc + 3) lv (.ref a :: st)) : V (kC K c s) ws pc lv st := fun H locs ls hP hD hS hl => va_new h.1 h.2.1 h.2.2.2.2.1 hin ty hty h.2.2.2.1 (h.2.2.2.2.1 _ w1) (h.2.2.2.2.1 _ w2) (h.2.2.2.2.1 _ w3) h.2.2.2.2.2.1 hP hD hS h.2.2.2.2.2.2.1 hc hfs h2.2.2.2.2.2.2.2.2.2.2.1 h2.2.2.2.2.2.2.2.2.2.2.2 (vD.at P d) (fun a H1 hP1 hD1 hS1 => k a H1 locs ls hP1 hD1 hS1 hl)
theorem v_anewa (h : vX (kC K c s) cc own tys fr lo) {N : Nat} (h2 : vX (kC K (c + 1) (s + N)) cc own tys fr lo) (P : vD cc q) (j : Nat) {idx : Nat} {C : String} {x : Int32} (w1 : Cond.classLink own idx C ∈ wsL_law) (hA : va_AO C K.2.1.1) (d : q[j]? = some (pc, .anewarray idx, 3)) (hx : x = nI N) (hN : N < 1000) (k : ∀ (a : Nat) (cA : ClassId), va_K K.2.2.1.2.2.1 vwCl (tys ++ [(cA, .object C)]) K.2.1.1 → V (kC K (c + 1) (s + N)) (ws ++ [(a, .inl (cA, N, .inr (.inr (.inr (.inr (fun _ => none))))))]) (pc + 3) lv (.ref a :: st)) : V (kC K c s) ws pc lv (.int x :: st) := by
  subst hx
  exact fun H locs ls hP hD hS hl => va_newq h.1 h.2.1 h.2.2.2.1 (h.2.2.2.2.1 _ w1) hA h.2.2.2.2.2.1 hP hD hS h.2.2.2.2.2.2.1 (nI_pos (by omega)) (nI_clamp (by omega)) (by omega) h2.2.2.2.2.2.2.2.2.2.2.1 h2.2.2.2.2.2.2.2.2.2.2.2 (vD.at P d) (fun a cA H1 hK1 hP1 hD1 hS1 => k a cA hK1 H1 locs ls hP1 hD1 hS1 hl)
theorem v_aast (h : vX K cc own tys fr lo) (P : vD cc q) (j : Nat) {cA : ClassId} {r : vw_C} {n v a ci : Nat} {vs : List Value} {f : Nat → Option Nat} {x : Int32} {ws' : va_W} (i q0 t0 qk : Nat) (d : q[j]? = some (pc, .aastore, 1)) (he : ws[q0]? = some (a, .inl (cA, n, .inr (.inr (.inr (.inr f)))))) (ht : tys[t0]? = some (cA, .object r.1)) (hv : ws[qk]? = some (v, .inr (ci, vs))) (hc : vwCl[ci]? = some r) (hx : x = nI i) (hi : i < n) (hn : n < 1000) (hw : ws.set q0 (a, .inl (cA, n, .inr (.inr (.inr (.inr (va_up f i (some v))))))) = ws') (k : V K ws' (pc + 1) lv st) : V K ws pc lv (.ref v :: .int x :: .ref a :: st) := by
  subst hx
  subst hw
  have e : (nI i).toNatClampNeg = i := nI_clamp (by omega)
  exact fun H locs ls hP hD hS hl => va_astq h.1 h.2.1 h.2.2.2.2.2.1 hP hD hS q0 t0 qk ci he ht hv hc (vp_in_nI hi (by omega)) (vD.at P d) (fun H1 locs1 hP hD hS => k H1 locs1 ls (by rw [e] at hP; exact hP) (by rw [e] at hD; exact hD) hS hl)
theorem va_P_rfs {D : va_G} {cl : List vw_C} {ws : va_W} {H : Heap} (hP : va_P D cl ws H) {q0 a n : Nat} {c : ClassId} {f g : Nat → Option Nat} (he : ws[q0]? = some (a, .inl (c, n, .inr (.inr (.inr (.inr f)))))) (hfg : ∀ j, j < n → f j = g j) : va_P D cl (ws.set q0 (a, .inl (c, n, .inr (.inr (.inr (.inr g)))))) H := by
  intro k q hk
  rw [List.getElem?_set] at hk
  split at hk
  · split at hk
    · cases hk
      have h1 := hP q0 _ he
      show H[a]? = some (vp_cell c (n, .inr (.inr (.inr (.inr g)))))
      have e : vp_cell c (n, .inr (.inr (.inr (.inr f)))) = vp_cell c (n, .inr (.inr (.inr (.inr g)))) := by
        show arrV c n (fun j => va_rf (f j)) = arrV c n (fun j => va_rf (g j))
        unfold arrV
        rw [show (fun j : Fin n => va_rf (f j.val)) = (fun j : Fin n => va_rf (g j.val)) from funext fun j => by rw [hfg j.val j.isLt]]
      rw [← e]
      exact h1
    · cases hk
  · exact hP k q hk
theorem v_rfs {a n : Nat} {c1 : ClassId} {f : Nat → Option Nat} (q0 : Nat) (g : Nat → Option Nat) {ws' : va_W} (he : ws[q0]? = some (a, .inl (c1, n, .inr (.inr (.inr (.inr f)))))) (hfg : ∀ j, j < n → f j = g j) (hw : ws.set q0 (a, .inl (c1, n, .inr (.inr (.inr (.inr g))))) = ws') (k : V K ws' pc lv st) : V K ws pc lv st := by
  subst hw
  exact fun H locs ls hP hD hS hl => k H locs ls (va_P_rfs hP he hfg) (hD.set he) hS hl
theorem v_behindN {p : Program} {l : Launch} {e : Env} {R : Room} {s0 : State} {m : MethodId} {args : Array Value} {below : List Frame} {meth : Method} {c0 : Code} {H : Heap} {locs : List Loc} {cells slots mc ms : Nat} {Q : State → Prop} {ls : Array Slot} {rest st0 : List Value} {a : Array Value} {A0 A1 : Nat → Prop} {H0 : Heap} {free : Addr → Prop} {S : Type} {post : S → Prop} {D : va_G} {tysO : S → List (ClassId × FieldType)} {Wd : S → va_W} (hr : va_Run p l e R s0 m args below meth c0 H locs cells slots mc ms (F0 m pc ls st0) rest (vQN post D tysO Wd A1 a) free) (hS : va_S A0 H0 H locs) (hA : ∀ q, q < H.size → A1 q → A0 q) (hf : ∀ q, free q → A0 q)
    (kk : ∀ (u : S) (t : State) (H1 : Heap) (locs1 : List Loc), t.heap = H1 → s0.vm.Alike t.vm → post u → va_P D vwCl (Wd u) t.heap → va_K D vwCl (tysO u) t → va_D A1 (Wd u) → H.size ≤ H1.size → (∀ q : Nat, q < H.size → ¬ A1 q → H1[q]? = H[q]?) → va_S A0 H0 H1 locs1 → W p l e R s0 m args below meth c0 H1 locs1 (cells + mc) (slots + ms) Q (F0 m (pc + 3) ls rest)) : W p l e R s0 m args below meth c0 H locs cells slots Q (F0 m pc ls st0) := by
  intro T hT X
  obtain ⟨v, st₀, t, T', L, h0, X', hL, e1, e2, ⟨⟨u, hv, hp, hb1, hb2, hb3⟩, hz, hk⟩, st⟩ := hr T hT X
  cases hv
  rw [h0] at hz hk
  obtain ⟨t2, a1, b1⟩ := kk u t T'.heap (locs ++ L) e1.symm (by rw [← e2]; exact X'.warmed.alike) hp hb1 hb2 hb3 (by rw [e1]; exact hz) (fun q h1 h2 => by rw [e1]; exact hk q h1 h2)
    ⟨Nat.le_trans hS.1 (by rw [e1]; exact hz), fun q h1 h2 => by rw [e1, hk q (Nat.lt_of_lt_of_le h1 hS.1) (fun z => h2 (hA q (Nat.lt_of_lt_of_le h1 hS.1) z))]; exact hS.2.1 q h1 h2, fun q hq => by
      rcases List.mem_append.mp hq with h | h
      · exact hS.2.2 q h
      · exact hf _ (hL q h)⟩ T' rfl X'
  exact ⟨t2, st t2 a1, b1⟩
/-- a call of a constructor -/
def vMI (own : String) (idx : Nat) (y : MethodName) (b : ByteArray) (nl n : Nat) : Prop := Cond.methodLink own idx y ∈ wsL_law ∧ Cond.instanceMethod y ∈ wsL_law ∧ Cond.initialized y.cls ∈ wsL_law ∧ Cond.code y b nl none ∈ wsL_law ∧ y.name = "<init>" ∧ (y.cls ≠ "java/lang/invoke/MethodHandle" ∧ y.cls ≠ "java/lang/invoke/VarHandle" ∧ (parseMethodDescriptor y.desc).map (fun d => d.parameters.length) = some n)
theorem vMI.good {idx nl n : Nat} {y : MethodName} {b : ByteArray} (h : vMI own idx y b nl n) : GoodIn wsL_law (.code y b nl none :: wsL_law) := by
  obtain ⟨h1, h2, h3, h4, -⟩ := h
  have hm : ∀ w ∈ (.code y b nl none :: wsL_law : List Cond), w ∈ wsL_law := by
    intro w hw
    rcases List.mem_cons.mp hw with rfl | hw <;> assumption
  exact fun w hw => ⟨hm w hw, vGood w (hm w hw)⟩
theorem v_callI {S : Type} {ws0 wr : va_W} {Wd : S → va_W} {tysO : S → List (ClassId × FieldType)} {post : S → Prop} {idx nl fr' lo' a mc ms : Nat} {y : MethodName} {b : ByteArray} (isC isR : List Nat) (h : vX (kC K c s) cc own tys fr lo) (h2 : vX (kC K (c + mc) (s + ms)) cc own tys fr lo) (P : vD cc q) (j : Nat) (mv : vMI own idx y b nl 0) (hM : vNew K.1.2.1 K.2.2.1.2.2.1 tys y b nl fr' lo' mc ms ws0 v0 [.ref a] tysO Wd post) (d : q[j]? = some (pc, .invokespecial idx, 3)) (hR : (Nat.ble (fr' + 1) fr && Nat.ble (8 + (nl + 11) + lo') lo) = true) (hcat : Nat.ble (st.map fun v => v.category).sum 8 = true) (hC : isC.map (fun i => ws[i]?) = ws0.map some) (hRw : isR.map (fun i => ws[i]?) = wr.map some) (hnC : va_nd isC = true) (hn : va_nd isR = true) (hdis : ∀ i ∈ isR, i ∉ isC)
    (kk : ∀ u : S, post u → V (kC K (c + mc) (s + ms)) (wr ++ Wd u) (pc + 3) lv st) : V (kC K c s) ws pc lv (.ref a :: st) := by
  intro H locs ls hP hD hS hl
  rw [Bool.and_eq_true] at hR
  have fm : ∀ {big small : va_W} {is : List Nat}, is.map (fun i => big[i]?) = small.map some → is.filterMap (fun i => big[i]?) = small := by
    intro big small is h
    have h2 := congrArg (fun z : List (Option (Nat × va_E)) => z.filterMap id) h
    simpa [List.filterMap_map, Function.comp_def] using h2
  have hPc := hP.sub isC (fm hC)
  have hDc := hD.sub isC hnC hC
  have hF := va_free (wc := ws0) hD hS h.2.2.2.2.2.2.1 isC hC
  refine v_behindN (va_runI (As := []) (rest := st) ⟨h.1, h.2.1, h.2.2.1, h.2.2.2.1, h.2.2.2.2.1⟩ (hM H.size) (cwI 0 h.2.2.2.2.1 mv.good rfl rfl rfl (h.2.2.2.2.1 _ mv.2.2.1) (h.2.2.2.2.1 _ mv.1) (h.2.2.2.2.1 _ mv.2.1) mv.2.2.2.2.1 mv.2.2.2.2.2 ⟨by rw [h.2.2.2.2.2.2.2.2.1]; exact Nat.le_of_ble_eq_true hR.1, by rw [h.2.2.2.2.2.2.2.2.2.1]; exact Nat.le_of_ble_eq_true hR.2⟩) ⟨fun aa U g mk z => by obtain ⟨z0, z1, zP, zK, zD, zE⟩ := z; exact ⟨z0, z1, zP, va_K.moved (u := U) (U := U.calling g mk aa) (Vm.Alike.refl U.vm) zK, zD, trivial⟩, fun U hU hW => ⟨rfl, by rw [hU], by rw [hU]; exact hPc, va_K.moved hW.alike h.2.2.2.2.2.1, hDc.weaken (fun _ _ _ _ => trivial), trivial⟩⟩ rfl rfl hl.1 rfl (lv_room (Nat.le_of_ble_eq_true hcat)) (vD.at P d) ⟨h2.2.2.2.2.2.2.2.2.2.2.1, h2.2.2.2.2.2.2.2.2.2.2.2⟩) hS (fun q _ hq => hF q hq) hF (fun u t H1 locs1 ht hvm hp hb1 hb2 hb3 hz hk hS1 => ?_)
  rw [ht] at hb1
  obtain ⟨hP2, hD2⟩ := va_join hP hD isC isR hC hRw hn hdis hk hF hb1 hb3
  exact kk u hp H1 locs1 ls hP2 hD2 hS1 hl
def vRK (K : vK) {S : Type} (post : S → Prop) (tysO : S → List (ClassId × FieldType)) (Wd : S → va_W) : Prop := K.2.2.1.1 = MQ K.2.1.2.2.2.1 (vQN post K.2.2.1.2.2.1 tysO Wd K.2.2.1.2.1) K.2.1.2.2.1 K.2.1.1 K.2.2.2.1 K.2.2.2.2 K.2.2.1.2.1
theorem v_vretK {S : Type} {Wd : S → va_W} {post : S → Prop} {tysO : S → List (ClassId × FieldType)} (u : S) (h : vX K cc own (tysO u) fr lo) (P : vD cc q) (j : Nat) (hR : vRK K post tysO Wd) (hret : K.2.1.2.2.2.2.1.sig.returnType = none) (d : q[j]? = some (pc, .return_, 1)) (hw : ws = Wd u) (hp : post u) : V K ws pc lv [] := fun H locs ls hP hD hS hl => by
  rw [hR]
  refine W.vret h.1 h.2.1 hret (fun t ht hW => ?_) hS.2.2 (vD.at P d) h.2.2.2.2.2.2.2.1
  exact ⟨⟨u, rfl, hp, by rw [ht, ← hw]; exact hP, va_K.moved hW.alike h.2.2.2.2.2.1, by rw [← hw]; exact hD⟩, hS.F ht⟩
end VNW
def adL (l : List Nat) : Nat → Nat := fun k => l.getD k 0
def z2 : Nat → Nat → Int32 := fun _ _ => 0
theorem up_z (r i : Nat) : up z2 r i 0 = z2 := up_id z2 r i
theorem up_ev (E : Nat → Nat → Int32) (r i : Nat) (v : Int32) (r' j : Nat) : up E r i v r' j = if r' = r ∧ j = i then v else E r' j := by
  by_cases h : r' = r
  · subst h
    rw [up_s]
    unfold upd
    by_cases h2 : j = i
    · rw [if_pos h2, if_pos ⟨rfl, h2⟩]
    · rw [if_neg h2, if_neg (fun z => h2 z.2)]
  · rw [up_n _ _ _ _ (beq_f h), if_neg (fun z => h z.1)]
def in1 (B : Nat → Nat → Int32) : Nat → Nat → Nat → Int32
  | 0 => B
  | k + 1 => up (up (in1 B k) 0 k 100) 1 k 3
def in2 (B : Nat → Nat → Int32) : Nat → Nat → Nat → Int32
  | 0 => B
  | k + 1 => up (in2 B k) 8 k (-1)
theorem in1_ev (B : Nat → Nat → Int32) : ∀ k r j, in1 B k r j = if r = 0 ∧ j < k then 100 else if r = 1 ∧ j < k then 3 else B r j
  | 0, r, j => by rw [if_neg (by omega), if_neg (by omega)]; rfl
  | k + 1, r, j => by
    show up (up (in1 B k) 0 k 100) 1 k 3 r j = _
    rw [up_ev, up_ev, in1_ev B k]
    by_cases a : r = 0 <;> by_cases b : r = 1 <;> by_cases c : j < k <;> by_cases d : j = k <;> first | (exfalso; omega) | (have e : ¬ j < k + 1 := (by omega); simp [a, b, c, d, e]) | (have e : j < k + 1 := (by omega); simp [a, b, c, d, e])
theorem in2_ev (B : Nat → Nat → Int32) : ∀ k r j, in2 B k r j = if r = 8 ∧ j < k then -1 else B r j
  | 0, r, j => by rw [if_neg (by omega)]; rfl
  | k + 1, r, j => by
    show up (in2 B k) 8 k (-1) r j = _
    rw [up_ev, in2_ev B k]
    by_cases a : r = 8 <;> by_cases c : j < k <;> by_cases d : j = k <;> first | (exfalso; omega) | (have e : ¬ j < k + 1 := (by omega); simp [a, c, d, e]) | (have e : j < k + 1 := (by omega); simp [a, c, d, e])
/-- how an estuary begins -/
def iniS : Nat → Nat → Int32 := up (up (up (up (up (in2 (in1 z2 6) 10) 9 0 0) 9 1 20) 9 2 0) 9 3 1) 9 4 0
theorem ini_m : in2 (in1 (up (up z2 9 3 1) 9 1 20) 6) 10 = iniS := by
  funext r j
  unfold iniS
  rw [up_ev, up_ev, up_ev, up_ev, up_ev, in2_ev, in1_ev, in2_ev, in1_ev, up_ev, up_ev]
  show _ = _
  by_cases a : r = 9
  · subst a
    by_cases h0 : j = 0 <;> by_cases h1 : j = 1 <;> by_cases h2 : j = 2 <;> by_cases h3 : j = 3 <;> by_cases h4 : j = 4 <;> simp [h0, h1, h2, h3, h4, z2] <;> omega
  · simp [a]
theorem Wf_ini : Wf iniS 0 := by
  have ev : ∀ r j, iniS r j = if r = 9 ∧ j = 4 then 0 else if r = 9 ∧ j = 3 then 1 else if r = 9 ∧ j = 2 then 0 else if r = 9 ∧ j = 1 then 20 else if r = 9 ∧ j = 0 then 0 else if r = 8 ∧ j < 10 then -1 else if r = 0 ∧ j < 6 then 100 else if r = 1 ∧ j < 6 then 3 else 0 := by
    intro r j
    unfold iniS
    rw [up_ev, up_ev, up_ev, up_ev, up_ev, in2_ev, in1_ev]
    rfl
  refine ⟨by omega, rfl, fun i hi => ?_, fun b hb => ?_, ?_, fun k hk => ?_⟩
  · have z : ∀ r, 2 ≤ r → r ≤ 7 → iniS r i = 0 := by
      intro r h1 h2
      rw [ev, if_neg (by omega), if_neg (by omega), if_neg (by omega), if_neg (by omega), if_neg (by omega), if_neg (by omega), if_neg (by omega), if_neg (by omega)]
    rw [z 2 (by omega) (by omega), z 3 (by omega) (by omega), z 4 (by omega) (by omega), z 5 (by omega) (by omega), z 6 (by omega) (by omega), z 7 (by omega) (by omega)]
    exact ⟨⟨0, by omega, rfl⟩, ⟨0, by omega, rfl⟩, ⟨0, by omega, rfl⟩, ⟨0, by omega, rfl⟩, ⟨0, by omega, rfl⟩, ⟨0, by omega, rfl⟩⟩
  · rw [ev 0 b, ev 1 b, if_neg (by omega), if_neg (by omega), if_neg (by omega), if_neg (by omega), if_neg (by omega), if_neg (by omega), if_pos ⟨rfl, hb⟩, if_neg (by omega), if_neg (by omega), if_neg (by omega), if_neg (by omega), if_neg (by omega), if_neg (by omega), if_neg (by omega), if_pos ⟨rfl, hb⟩]
    exact ⟨⟨100, by omega, rfl⟩, ⟨3, by omega, rfl⟩⟩
  · exact ⟨20, by omega, rfl⟩
  · refine Or.inl ?_
    rw [ev 8 k, if_neg (by omega), if_neg (by omega), if_neg (by omega), if_neg (by omega), if_neg (by omega), if_pos ⟨rfl, hk⟩]
theorem fl_z : (fun _ => (0 : Int32)) = fl z2 := by
  funext k
  unfold fl
  cases Nat.blt k 4 <;> cases Nat.blt k 10 <;> cases Nat.blt k 16 <;> cases Nat.blt k 64 <;> rfl
def iniQ : Nat → Nat → Int32 := up (up (up (up z2 2 0 (-1)) 2 1 (-1)) 2 2 (-1)) 2 3 (-1)
def z3 : Nat → Nat → Nat → Int32 := fun _ => z2
def adX (h0 : Nat) (a1 a2 a3 a4 s0 s1 s2 s3 : Nat → Nat) (qS qf qo : Nat) : Nat → Nat := fun k => cond (Nat.blt k 1) h0 (cond (Nat.blt k 11) (a1 (k - 1)) (cond (Nat.blt k 21) (a2 (k - 11)) (cond (Nat.blt k 31) (a3 (k - 21)) (cond (Nat.blt k 36) (a4 (k - 31)) (cond (Nat.blt k 37) qS (cond (Nat.blt k 39) (s0 (k - 37)) (cond (Nat.blt k 41) (s1 (k - 39)) (cond (Nat.blt k 43) (s2 (k - 41)) (cond (Nat.blt k 45) (s3 (k - 43)) (cond (Nat.blt k 46) qf qo))))))))))
theorem ini_94 : iniS 9 4 = 0 := rfl
theorem ini_92 : iniS 9 2 = 0 := rfl
theorem ggX0_9 : vFF RX0 9 0 0 (.array .int) := ⟨RX0, TX0, 14, tyX0, rfl, by decide, inlX0, wm_34, tyX0_ok, nmX0, rfl, rfl, by decide +kernel⟩
theorem ggX0_15 : vFF RX0 15 0 1 (.array .int) := ⟨RX0, TX0, 14, tyX0, rfl, by decide, inlX0, wm_35, tyX0_ok, nmX0, rfl, rfl, by decide +kernel⟩
theorem ggX0_18 : vFF RX0 18 0 2 (.array .int) := ⟨RX0, TX0, 14, tyX0, rfl, by decide, inlX0, wm_36, tyX0_ok, nmX0, rfl, rfl, by decide +kernel⟩
theorem ggX0_21 : vFF RX0 21 0 3 (.array .int) := ⟨RX0, TX0, 14, tyX0, rfl, by decide, inlX0, wm_37, tyX0_ok, nmX0, rfl, rfl, by decide +kernel⟩
theorem ggX0_24 : vFF RX0 24 0 4 (.array .int) := ⟨RX0, TX0, 14, tyX0, rfl, by decide, inlX0, wm_38, tyX0_ok, nmX0, rfl, rfl, by decide +kernel⟩
theorem ggX0_27 : vFF RX0 27 0 5 (.array .int) := ⟨RX0, TX0, 14, tyX0, rfl, by decide, inlX0, wm_39, tyX0_ok, nmX0, rfl, rfl, by decide +kernel⟩
theorem ggX0_30 : vFF RX0 30 0 6 (.array .int) := ⟨RX0, TX0, 14, tyX0, rfl, by decide, inlX0, wm_40, tyX0_ok, nmX0, rfl, rfl, by decide +kernel⟩
theorem ggX0_33 : vFF RX0 33 0 7 (.array .int) := ⟨RX0, TX0, 14, tyX0, rfl, by decide, inlX0, wm_41, tyX0_ok, nmX0, rfl, rfl, by decide +kernel⟩
theorem ggX0_36 : vFF RX0 36 0 8 (.array .int) := ⟨RX0, TX0, 14, tyX0, rfl, by decide, inlX0, wm_42, tyX0_ok, nmX0, rfl, rfl, by decide +kernel⟩
theorem ggX1_9 : vFF RX1 9 1 0 (.array .int) := ⟨RX1, TX1, 3, tyX1, rfl, by decide, inlX1, wm_64, tyX1_ok, nmX1, rfl, rfl, by decide +kernel⟩
theorem ggX2_9 : vFF RX2 9 2 0 (.array .int) := ⟨RX2, TX2, 8, tyX2, rfl, by decide, inlX2, wm_52, tyX2_ok, nmX2, rfl, rfl, by decide +kernel⟩
theorem ggX2_15 : vFF RX2 15 2 1 (.array .int) := ⟨RX2, TX2, 8, tyX2, rfl, by decide, inlX2, wm_53, tyX2_ok, nmX2, rfl, rfl, by decide +kernel⟩
theorem ggX2_18 : vFF RX2 18 2 2 (.array .int) := ⟨RX2, TX2, 8, tyX2, rfl, by decide, inlX2, wm_54, tyX2_ok, nmX2, rfl, rfl, by decide +kernel⟩
theorem ggX2_21 : vFF RX2 21 2 3 (.array .int) := ⟨RX2, TX2, 8, tyX2, rfl, by decide, inlX2, wm_55, tyX2_ok, nmX2, rfl, rfl, by decide +kernel⟩
theorem ggX3_10 : vFF RX3 10 3 0 (.object "OysterSecrets$Estuary") := ⟨RX3, TX3, 8, tyX3, rfl, by decide, inlX3, wm_15, tyX3_ok, nmX3, rfl, rfl, by decide +kernel⟩
theorem ggX3_16 : vFF RX3 16 3 1 (.object "OysterSecrets$Estuary") := ⟨RX3, TX3, 8, tyX3, rfl, by decide, inlX3, wm_16, tyX3_ok, nmX3, rfl, rfl, by decide +kernel⟩
theorem ggX3_19 : vFF RX3 19 3 2 (.object "OysterSecrets$Estuary") := ⟨RX3, TX3, 8, tyX3, rfl, by decide, inlX3, wm_17, tyX3_ok, nmX3, rfl, rfl, by decide +kernel⟩
theorem ggX3_29 : vFF RX3 29 3 4 (.object "OysterSecrets$Tape") := ⟨RX3, TX3, 8, tyX3, rfl, by decide, inlX3, wm_22, tyX3_ok, nmX3, rfl, rfl, by decide +kernel⟩
theorem ggX3_35 : vFF RX3 35 3 5 (.array (.object "OysterSecrets$Sheet")) := ⟨RX3, TX3, 8, tyX3, rfl, by decide, inlX3, wm_24, tyX3_ok, nmX3, rfl, rfl, by decide +kernel⟩
theorem ggX3_40 : vFF RX3 40 3 6 (.array .int) := ⟨RX3, TX3, 8, tyX3, rfl, by decide, inlX3, wm_28, tyX3_ok, nmX3, rfl, rfl, by decide +kernel⟩
theorem ggX3_44 : vFF RX3 44 3 7 (.array .int) := ⟨RX3, TX3, 8, tyX3, rfl, by decide, inlX3, wm_29, tyX3_ok, nmX3, rfl, rfl, by decide +kernel⟩
theorem ggX4_7 : vFF RX4 7 4 0 (.array .int) := ⟨RX4, TX4, 19, tyX4, rfl, by decide, inlX4, wm_71, tyX4_ok, nmX4, rfl, rfl, by decide +kernel⟩
theorem ggX4_13 : vFF RX4 13 4 1 (.array .int) := ⟨RX4, TX4, 19, tyX4, rfl, by decide, inlX4, wm_72, tyX4_ok, nmX4, rfl, rfl, by decide +kernel⟩
theorem ggX4_16 : vFF RX4 16 4 2 (.array .int) := ⟨RX4, TX4, 19, tyX4, rfl, by decide, inlX4, wm_73, tyX4_ok, nmX4, rfl, rfl, by decide +kernel⟩
theorem ggX4_19 : vFF RX4 19 4 3 (.array .int) := ⟨RX4, TX4, 19, tyX4, rfl, by decide, inlX4, wm_74, tyX4_ok, nmX4, rfl, rfl, by decide +kernel⟩
theorem ggX4_22 : vFF RX4 22 4 5 (.array .int) := ⟨RX4, TX4, 19, tyX4, rfl, by decide, inlX4, wm_75, tyX4_ok, nmX4, rfl, rfl, by decide +kernel⟩
theorem ggX4_25 : vFF RX4 25 4 6 (.array .int) := ⟨RX4, TX4, 19, tyX4, rfl, by decide, inlX4, wm_76, tyX4_ok, nmX4, rfl, rfl, by decide +kernel⟩
theorem ggX4_28 : vFF RX4 28 4 8 (.array .int) := ⟨RX4, TX4, 19, tyX4, rfl, by decide, inlX4, wm_77, tyX4_ok, nmX4, rfl, rfl, by decide +kernel⟩
theorem ggX4_31 : vFF RX4 31 4 9 (.array .int) := ⟨RX4, TX4, 19, tyX4, rfl, by decide, inlX4, wm_78, tyX4_ok, nmX4, rfl, rfl, by decide +kernel⟩
theorem ggX4_34 : vFF RX4 34 4 10 (.array .int) := ⟨RX4, TX4, 19, tyX4, rfl, by decide, inlX4, wm_79, tyX4_ok, nmX4, rfl, rfl, by decide +kernel⟩
theorem ggX4_37 : vFF RX4 37 4 11 (.array .int) := ⟨RX4, TX4, 19, tyX4, rfl, by decide, inlX4, wm_80, tyX4_ok, nmX4, rfl, rfl, by decide +kernel⟩
theorem miL_9 : vMI RL 9 yX3_init cX3_init 2 0 := ⟨wm_6, wm_7, wm_2, wm_8, rfl, by decide +kernel⟩
theorem miX3_9 : vMI RX3 9 yX0_init cX0_init 2 0 := ⟨wm_30, wm_31, wm_14, wm_32, rfl, by decide +kernel⟩
theorem miX3_28 : vMI RX3 28 yX2_init cX2_init 1 0 := ⟨wm_48, wm_49, wm_21, wm_50, rfl, by decide +kernel⟩
theorem miX3_39 : vMI RX3 39 yX1_init cX1_init 1 0 := ⟨wm_60, wm_61, wm_26, wm_62, rfl, by decide +kernel⟩
theorem miL_12 : vMI RL 12 yX4_init cX4_init 2 0 := ⟨wm_67, wm_68, wm_5, wm_69, rfl, by decide +kernel⟩
