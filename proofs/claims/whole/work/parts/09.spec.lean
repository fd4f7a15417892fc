/-! ===== worlds and the words of the document, as functions ===== -/
def up (E : Nat → Nat → Int32) (r i : Nat) (v : Int32) : Nat → Nat → Int32 := fun r' => cond (Nat.beq r' r) (upd (E r) i v) (E r')
def st (Z : Nat → Nat → Nat → Int32) (c : Nat) (E : Nat → Nat → Int32) : Nat → Nat → Nat → Int32 := fun c' => cond (Nat.beq c' c) E (Z c')
def rem (x y : Int32) : Int32 := x - x / y * y
def mn (x y : Int32) : Int32 := if y < x then y else x
def mx (x y : Int32) : Int32 := if x < y then y else x
def ab (x : Int32) : Int32 := if 0 ≤ x then x else 0 - x
def ix (x : Int32) : Nat := x.toNatClampNeg
/-- an estuary: rows 0 nacre, 1 cold, 2 kind, 3 home, 4 weight, 5 layers, 6 age, 7 shown, 8 spots, 9 oysters, coming, year, z, takenUp -/
def eW (cI : ClassId) (a : Nat → Nat) (E : Nat → Nat → Int32) : va_W := [(a 0, .inr (0, [.ref (a 1), .ref (a 2), .ref (a 3), .ref (a 4), .ref (a 5), .ref (a 6), .ref (a 7), .ref (a 8), .ref (a 9), .int (E 9 0), .int (E 9 1), .int (E 9 2), .int (E 9 3), .int (E 9 4)])), (a 1, .inl (cI, 6, .inl (E 0))), (a 2, .inl (cI, 6, .inl (E 1))), (a 3, .inl (cI, 8, .inl (E 2))), (a 4, .inl (cI, 8, .inl (E 3))), (a 5, .inl (cI, 8, .inl (E 4))), (a 6, .inl (cI, 8, .inl (E 5))), (a 7, .inl (cI, 8, .inl (E 6))), (a 8, .inl (cI, 8, .inl (E 7))), (a 9, .inl (cI, 10, .inl (E 8)))]
/-- at most m -/
def bd (x : Int32) (m : Nat) : Prop := ∃ k : Nat, k ≤ m ∧ x = nI k
theorem ix_nI {k : Nat} (h : k < 2 ^ 31) : ix (nI k) = k := nI_clamp h
theorem bd_ix {x : Int32} {m : Nat} (h : bd x m) (hm : m < 2 ^ 31) : x = nI (ix x) ∧ ix x ≤ m := by
  obtain ⟨k, hk, rfl⟩ := h
  rw [ix_nI (Nat.lt_of_le_of_lt hk hm)]
  exact ⟨rfl, hk⟩
/-- an estuary of n oysters in which all is as it may be -/
def Wf (E : Nat → Nat → Int32) (n : Nat) : Prop := n ≤ 8 ∧ E 9 0 = nI n ∧ (∀ i, i < 8 → bd (E 2 i) 6 ∧ bd (E 3 i) 5 ∧ bd (E 4 i) 99 ∧ bd (E 5 i) 999 ∧ bd (E 6 i) 999 ∧ bd (E 7 i) 999) ∧ (∀ b, b < 6 → bd (E 0 b) 999 ∧ bd (E 1 b) 9) ∧ bd (E 9 1) 99 ∧ (∀ k, k < 10 → E 8 k = -1 ∨ ∃ j, j < n ∧ E 8 k = nI j)
theorem Wf.home {E : Nat → Nat → Int32} {n i : Nat} (h : Wf E n) (hi : i < 8) : E 3 i = nI (ix (E 3 i)) := (bd_ix (h.2.2.1 i hi).2.1 (by decide)).1
theorem Wf.homeL {E : Nat → Nat → Int32} {n i : Nat} (h : Wf E n) (hi : i < 8) : ix (E 3 i) < 6 := Nat.lt_succ_of_le (bd_ix (h.2.2.1 i hi).2.1 (by decide)).2
theorem nI_pl (a b : Nat) : nI a + nI b = nI (a + b) := nI_add a b
theorem nI_mi (a : Nat) : nI (a + 1) + (-1) = nI a := pk_m1 a
theorem vI {x y : Int32} (e : x = y) : some (Value.int x) = some (Value.int y) := by rw [e]
theorem vL {x y : Int64} (e : x = y) : some (Value.long x) = some (Value.long y) := by rw [e]
theorem bI_01 (b : Bool) : bI b = 0 ∨ bI b = 1 := by cases b <;> decide
theorem vDet_k {S : Type} {r : Option Value} {x' : S} {P : Option Value → S → Prop} (h : P r x') : ∀ (v : Option Value) (u : S), (fun (v : Option Value) (u : S) => v = r ∧ u = x') v u → P v u := fun v u e => by
  obtain ⟨rfl, rfl⟩ := e
  exact h
section VT
variable {K : vK} {cc : ByteArray} {own : String} {tys : List (ClassId × FieldType)} {fr lo : Nat} {ws : va_W} {pc : Nat} {lv : List (Nat × Value)} {st : List Value} {q : List (Nat × Instr × Nat)}
theorem v_tin (h : vX K cc own tys fr lo) (P : vD cc q) (j : Nat) {dflt l1 h1 : Int} {offs : Array Int} {len : Nat} {x k : Int32} {off : Int} {tgt : Nat} (e : x = k) (d : q[j]? = some (pc, .tableswitch dflt l1 h1 offs, len)) (o1 : ¬ k.toInt < l1) (o2 : ¬ h1 < k.toInt) (ho : offs[(k.toInt - l1).toNat]? = some off) (ht : (pc : Int) + off = (tgt : Int)) (kk : V K ws tgt lv st) : V K ws pc lv (.int x :: st) := by
  subst e
  exact v_tableIn h P j d o1 o2 ho ht kk
theorem v_tout (h : vX K cc own tys fr lo) (P : vD cc q) (j : Nat) {dflt l1 h1 : Int} {offs : Array Int} {len : Nat} {x : Int32} {tgt : Nat} (d : q[j]? = some (pc, .tableswitch dflt l1 h1 offs, len)) (ho : x.toInt < l1 ∨ h1 < x.toInt) (ht : (pc : Int) + dflt = (tgt : Int)) (k : V K ws tgt lv st) : V K ws pc lv (.int x :: st) := v_tableOut h P j d ho ht k
theorem v_mmin2 (h : vX K cc own tys fr lo) (P : vD cc q) (j : Nat) {idx : Nat} {x y : Int32} (w1 : Cond.methodLink own idx Lib.Math.min.name ∈ wsL_law) (w2 : Cond.static Lib.Math.min.name ∈ wsL_law) (w3 : Cond.initialized "java/lang/Math" ∈ wsL_law) (w4 : Cond.code Lib.Math.min.name Lib.Math.min.code 2 (some .int) ∈ wsL_law) (d : q[j]? = some (pc, .invokestatic idx, 3)) (hf : Nat.ble 1 fr = true) (hlo : Nat.ble ((st.map fun v => v.category).sum + 13) lo = true) (k : V K ws (pc + 3) lv (.int (mn x y) :: st)) : V K ws pc lv (.int y :: .int x :: st) := v_mmin h P j w1 w2 w3 w4 d hf hlo k
theorem v_mmax2 (h : vX K cc own tys fr lo) (P : vD cc q) (j : Nat) {idx : Nat} {x y : Int32} (w1 : Cond.methodLink own idx Lib.Math.max.name ∈ wsL_law) (w2 : Cond.static Lib.Math.max.name ∈ wsL_law) (w3 : Cond.initialized "java/lang/Math" ∈ wsL_law) (w4 : Cond.code Lib.Math.max.name Lib.Math.max.code 2 (some .int) ∈ wsL_law) (d : q[j]? = some (pc, .invokestatic idx, 3)) (hf : Nat.ble 1 fr = true) (hlo : Nat.ble ((st.map fun v => v.category).sum + 13) lo = true) (k : V K ws (pc + 3) lv (.int (mx x y) :: st)) : V K ws pc lv (.int y :: .int x :: st) := v_mmax h P j w1 w2 w3 w4 d hf hlo k
theorem v_mabs2 (h : vX K cc own tys fr lo) (P : vD cc q) (j : Nat) {idx : Nat} {x : Int32} (w1 : Cond.methodLink own idx Lib.Math.abs.name ∈ wsL_law) (w2 : Cond.static Lib.Math.abs.name ∈ wsL_law) (w3 : Cond.initialized "java/lang/Math" ∈ wsL_law) (w4 : Cond.code Lib.Math.abs.name Lib.Math.abs.code 1 (some .int) ∈ wsL_law) (d : q[j]? = some (pc, .invokestatic idx, 3)) (hf : Nat.ble 1 fr = true) (hlo : Nat.ble ((st.map fun v => v.category).sum + 13) lo = true) (k : V K ws (pc + 3) lv (.int (ab x) :: st)) : V K ws pc lv (.int x :: st) := v_mabs h P j w1 w2 w3 w4 d hf hlo k
theorem v_irem2 (h : vX K cc own tys fr lo) (P : vD cc q) (j : Nat) {x y : Int32} (d : q[j]? = some (pc, .irem, 1)) (hne : ¬ y = 0) (k : V K ws (pc + 1) lv (.int (rem x y) :: st)) : V K ws pc lv (.int y :: .int x :: st) := v_irem h P j d hne k
theorem v_icmp_ge2 (h : vX K cc own tys fr lo) (P : vD cc q) (j : Nat) {x y : Int32} {off : Int} {tgt : Nat} (d : q[j]? = some (pc, .if_icmp .ge off, 3)) (ht : (pc : Int) + off = (tgt : Int)) (kt : ¬ x < y → V K ws tgt lv st) (kf : x < y → V K ws (pc + 3) lv st) : V K ws pc lv (.int y :: .int x :: st) := v_icmp_ge h P j d ht (fun c => kt (Int32.not_lt.mpr c)) (fun c => kf (Int32.not_le.mp c))
theorem v_icmp_le2 (h : vX K cc own tys fr lo) (P : vD cc q) (j : Nat) {x y : Int32} {off : Int} {tgt : Nat} (d : q[j]? = some (pc, .if_icmp .le off, 3)) (ht : (pc : Int) + off = (tgt : Int)) (kt : ¬ y < x → V K ws tgt lv st) (kf : y < x → V K ws (pc + 3) lv st) : V K ws pc lv (.int y :: .int x :: st) := v_icmp_le h P j d ht (fun c => kt (Int32.not_lt.mpr c)) (fun c => kf (Int32.not_le.mp c))
theorem v_if_ge2 (h : vX K cc own tys fr lo) (P : vD cc q) (j : Nat) {x : Int32} {off : Int} {tgt : Nat} (d : q[j]? = some (pc, .ifCond .ge off, 3)) (ht : (pc : Int) + off = (tgt : Int)) (kt : ¬ x < 0 → V K ws tgt lv st) (kf : x < 0 → V K ws (pc + 3) lv st) : V K ws pc lv (.int x :: st) := v_if_ge h P j d ht (fun c => kt (Int32.not_lt.mpr c)) (fun c => kf (Int32.not_le.mp c))
theorem v_if_le2 (h : vX K cc own tys fr lo) (P : vD cc q) (j : Nat) {x : Int32} {off : Int} {tgt : Nat} (d : q[j]? = some (pc, .ifCond .le off, 3)) (ht : (pc : Int) + off = (tgt : Int)) (kt : ¬ 0 < x → V K ws tgt lv st) (kf : 0 < x → V K ws (pc + 3) lv st) : V K ws pc lv (.int x :: st) := v_if_le h P j d ht (fun c => kt (Int32.not_lt.mpr c)) (fun c => kf (Int32.not_le.mp c))
end VT
def toldS (E : Nat → Nat → Int32) (i : Nat) : Bool := decide (E 4 i = 0)
def takesS (E : Nat → Nat → Int32) (i : Nat) : Int32 := if E 2 i = 1 then 6 + E 4 i / 10 else if E 2 i = 2 then 3 else if E 2 i = 3 then 2 else if E 2 i = 4 then (if rem (E 6 i) 2 = 0 then 2 else 0) else if E 2 i = 5 then 6 + mn 9 (E 6 i / 10) else if E 2 i = 6 then 2 * (6 + E 4 i / 10) else 6
def needsS (E : Nat → Nat → Int32) (i : Nat) : Int32 := if E 2 i = 1 then 2 * E 4 i else if E 2 i = 2 then E 4 i / 2 else if E 2 i = 3 then mx 0 (E 4 i / 2 - E 1 (ix (E 3 i))) else if E 2 i = 4 then mx 0 (E 4 i / 2 - E 1 (ix (E 3 i))) else if E 2 i = 5 then mx 0 (E 4 i - 5) else if E 2 i = 6 then 2 * E 4 i + 10 else E 4 i
def warmS (E : Nat → Nat → Int32) (i : Nat) : Bool := decide (E 1 (ix (E 3 i)) < 3)
def opensS (E : Nat → Nat → Int32) (i : Nat) : Bool := if E 2 i = 1 then warmS E i && !decide (50 < E 4 i) else if E 2 i = 3 then true else if E 2 i = 4 then decide (rem (E 9 2) 3 = 2) else if E 2 i = 6 then false else warmS E i
def worthS (E : Nat → Nat → Int32) (i : Nat) : Int32 := if toldS E i = true then 0 else if E 2 i = 1 then E 5 i + E 4 i else if E 2 i = 2 then E 5 i / 2 else if E 2 i = 3 then E 5 i / 2 else if E 2 i = 4 then E 5 i / 2 else if E 2 i = 5 then 3 * E 5 i else if E 2 i = 6 then mx 0 (E 5 i + E 4 i - 10 * E 7 i) else E 5 i
def hiddenS (E : Nat → Nat → Int32) (i : Nat) : Bool := !toldS E i && !decide (E 5 i < needsS E i)
