/-! ===== a walk over worlds and lists alone: V ===== -/
theorem vD.at {cc : ByteArray} {q : List (Nat × Instr × Nat)} (P : vD cc q) {j pc n : Nat} {ins : Instr} (d : q[j]? = some (pc, ins, n)) : decode cc pc = .ok (ins, n) := P j (pc, ins, n) d
/-- all that stays the same in one method's walk -/
abbrev vK : Type := (Program × Launch × Env × Room) × (State × MethodId × Array Value × List Frame × Method × Code) × ((State → Prop) × (Nat → Prop) × va_G × Nat) × (Nat × Nat)
def V (K : vK) (ws : va_W) (pc : Nat) (lv : List (Nat × Value)) (st : List Value) : Prop :=
  ∀ (H : Heap) (locs : List Loc) (ls : Array Slot), va_P K.2.2.1.2.2.1 vwCl ws H → va_D K.2.2.1.2.1 ws → va_S K.2.2.1.2.1 K.2.1.1.heap H locs → lv_has ls K.2.2.1.2.2.2 lv → W K.1.1 K.1.2.1 K.1.2.2.1 K.1.2.2.2 K.2.1.1 K.2.1.2.1 K.2.1.2.2.1 K.2.1.2.2.2.1 K.2.1.2.2.2.2.1 K.2.1.2.2.2.2.2 H locs K.2.2.2.1 K.2.2.2.2 K.2.2.1.1 (F0 K.2.1.2.1 pc ls st)
/-- what a walk stands on: the method's bytes, its class, the array classes, the room -/
def vX (K : vK) (cc : ByteArray) (own : String) (tys : List (ClassId × FieldType)) (fr lo : Nat) : Prop :=
  K.1.1.tables.exec = Jvm.exec ∧ K.2.1.2.2.2.2.2.code = cc ∧ K.2.1.2.2.2.2.2.maxLocals = K.2.2.1.2.2.2 ∧ K.2.1.1.vm.findClass own = some K.2.1.2.1.cls ∧ (∀ w ∈ wsL_law, w.before K.2.1.2.2.1 K.2.1.1 = true) ∧ va_K K.2.2.1.2.2.1 vwCl tys K.2.1.1 ∧ (∀ q : Nat, K.2.1.1.heap.size ≤ q → K.2.2.1.2.1 q) ∧ K.2.1.2.2.2.2.1.locks = false ∧ K.1.2.2.2.frames = fr ∧ K.1.2.2.2.locals = lo ∧ K.2.2.2.1 ≤ K.1.2.2.2.cells ∧ K.2.2.2.2 ≤ K.1.2.2.2.slots
/-- an answer, and the world behind it -/
def vQ {S : Type} (post : Option Value → S → Prop) (B : S → State → Prop) (A : Nat → Prop) : Array Value → State → Outcome → State → Prop := fun _ st oc t => (∃ (v : Option Value) (u : S), oc = .returned v ∧ post v u ∧ B u t) ∧ va_F A st t
def vB {S : Type} (D : va_G) (tys : List (ClassId × FieldType)) (Wd : S → va_W) (A : Nat → Prop) (u : S) (t : State) : Prop := va_P D vwCl (Wd u) t.heap ∧ va_K D vwCl tys t ∧ va_D A (Wd u)
def vPre {S : Type} (D : va_G) (tys : List (ClassId × FieldType)) (Wd : S → va_W) (Ex : (Nat → Prop) → State → Prop) (x : S) (sz : Nat) (U : State) : Prop := U.heap.size = sz ∧ va_P D vwCl (Wd x) U.heap ∧ va_K D vwCl tys U ∧ va_D (fun _ => True) (Wd x) ∧ Ex (va_A (Wd x) sz) U
/-- a method's contract over a world: x the world's value ahead, post the answer and the world's value behind -/
def vMet (l : Launch) (D : va_G) (tys : List (ClassId × FieldType)) (y : MethodName) (b : ByteArray) (nl : Nat) (ret : Option FieldType) (fr lo : Nat) {S : Type} (Wd : S → va_W) (Ex : (Nat → Prop) → State → Prop) (args : List Value) (x : S) (post : Option Value → S → Prop) : Prop :=
  ∀ sz : Nat, Met l y (.code y b nl ret :: wsL_law) ({ frames := fr, cells := 0, slots := 0, locals := lo }) (va_Pc args (vPre D tys Wd Ex x sz)) (vQ post (vB D tys Wd (va_A (Wd x) sz)) (va_A (Wd x) sz)) 0 0 (va_A (Wd x) sz)
/-- .. with one answer -/
def vDet (l : Launch) (D : va_G) (tys : List (ClassId × FieldType)) (y : MethodName) (b : ByteArray) (nl : Nat) (ret : Option FieldType) (fr lo : Nat) {S : Type} (Wd : S → va_W) (args : List Value) (x : S) (r : Option Value) (x' : S) : Prop :=
  vMet l D tys y b nl ret fr lo Wd (fun _ _ => True) args x (fun v u => v = r ∧ u = x')
def v0 : (Nat → Prop) → State → Prop := fun _ _ => True
theorem vGood (w : Cond) (h : w ∈ wsL_law) : (w.onTables && w.keeps) = true ∨ ∃ ty, w = .arrayClass ty := (wsL_good w h).2
/-- a small world in a large one: cut out, and put back changed -/
def vEmb {S : Type} (Wd : S → va_W) (x : S) (ws : va_W) (ws' : S → va_W) : Prop :=
  (∀ (D : va_G) (H : Heap), va_P D vwCl ws H → va_P D vwCl (Wd x) H) ∧ (∀ A : Nat → Prop, va_D A ws → va_D (fun _ => True) (Wd x)) ∧
  (∀ (A0 : Nat → Prop) (H0 H : Heap) (locs : List Loc), va_D A0 ws → va_S A0 H0 H locs → (∀ q : Nat, H0.size ≤ q → A0 q) → ∀ q, va_A (Wd x) H.size q → A0 q) ∧
  (∀ (D : va_G) (A0 : Nat → Prop) (H H1 : Heap) (u : S), va_P D vwCl ws H → va_D A0 ws → (∀ q : Nat, q < H.size → ¬ va_A (Wd x) H.size q → H1[q]? = H[q]?) → (∀ q, va_A (Wd x) H.size q → A0 q) → va_P D vwCl (Wd u) H1 → va_D (va_A (Wd x) H.size) (Wd u) → va_P D vwCl (ws' u) H1 ∧ va_D A0 (ws' u))
theorem vEmb_rf {S : Type} (Wd : S → va_W) (x : S) : vEmb Wd x (Wd x) Wd :=
  ⟨fun _ _ h => h, fun _ h => h.weaken (fun _ _ _ _ => trivial), fun _ _ H _ hD hS hA q hq => hq.elim (fun ⟨k, e, hk⟩ => hD.2 k _ hk) (fun h => hA q (Nat.le_trans hS.1 h)),
   fun _ _ _ _ _ _ _ _ hF hP hD => ⟨hP, hD.weaken (fun _ _ _ h => hF _ h)⟩⟩
theorem vEmb_of {S : Type} {Wd : S → va_W} {x : S} {ws wr : va_W} {ws' : S → va_W} (isC isR pm : List Nat) (hC : isC.map (fun i => ws[i]?) = (Wd x).map some) (hR : isR.map (fun i => ws[i]?) = wr.map some) (hnC : va_nd isC = true) (hn : va_nd isR = true) (hdis : ∀ i ∈ isR, i ∉ isC) (hpn : va_nd pm = true) (hpm : ∀ u : S, pm.map (fun i => (wr ++ Wd u)[i]?) = (ws' u).map some) : vEmb Wd x ws ws' := by
  have fm : ∀ {big small : va_W} {is : List Nat}, is.map (fun i => big[i]?) = small.map some → is.filterMap (fun i => big[i]?) = small := by
    intro big small is h
    have h2 := congrArg (fun z : List (Option (Nat × va_E)) => z.filterMap id) h
    simpa [List.filterMap_map, Function.comp_def] using h2
  refine ⟨fun D H h => h.sub isC (fm hC), fun A h => (h.sub isC hnC hC).weaken (fun _ _ _ _ => trivial), fun A0 H0 H locs hD hS hA q hq => va_free hD hS hA isC hC q hq, ?_⟩
  intro D A0 H H1 u hP hD hk hF hP1 hD1
  obtain ⟨a, b⟩ := va_join hP hD isC isR hC hR hn hdis hk hF hP1 hD1
  exact ⟨a.sub pm (fm (hpm u)), b.sub pm hpn (hpm u)⟩
