/-! ===== worlds and the words of the document, as functions ===== -/
def up (E : Nat → Nat → Int32) (r i : Nat) (v : Int32) : Nat → Nat → Int32 := fun r' => cond (Nat.beq r' r) (upd (E r) i v) (E r')
def st (Z : Nat → Nat → Nat → Int32) (c : Nat) (E : Nat → Nat → Int32) : Nat → Nat → Nat → Int32 := fun c' => cond (Nat.beq c' c) E (Z c')
def rem (x y : Int32) : Int32 := x - x / y * y
def mn (x y : Int32) : Int32 := if y < x then y else x
def mx (x y : Int32) : Int32 := if x < y then y else x
def ab (x : Int32) : Int32 := if 0 ≤ x then x else 0 - x
def ix (x : Int32) : Nat := x.toNatClampNeg
/-- an estuary: rows 0 nacre, 1 cold, 2 kind, 3 home, 4 weight, 5 layers, 6 age, 7 shown, 8 spots, 9 oysters, coming, year, z, takenUp -/
def eF (a : Nat → Nat) (E : Nat → Nat → Int32) : List Value := [.ref (a 1), .ref (a 2), .ref (a 3), .ref (a 4), .ref (a 5), .ref (a 6), .ref (a 7), .ref (a 8), .ref (a 9), .int (E 9 0), .int (E 9 1), .int (E 9 2), .int (E 9 3), .int (E 9 4)]
def eW (cI : ClassId) (a : Nat → Nat) (E : Nat → Nat → Int32) : va_W := [(a 0, .inr (0, eF a E)), (a 1, .inl (cI, 6, .inl (E 0))), (a 2, .inl (cI, 6, .inl (E 1))), (a 3, .inl (cI, 8, .inl (E 2))), (a 4, .inl (cI, 8, .inl (E 3))), (a 5, .inl (cI, 8, .inl (E 4))), (a 6, .inl (cI, 8, .inl (E 5))), (a 7, .inl (cI, 8, .inl (E 6))), (a 8, .inl (cI, 8, .inl (E 7))), (a 9, .inl (cI, 10, .inl (E 8)))]
theorem eW_s0 {cI : ClassId} {a : Nat → Nat} {E : Nat → Nat → Int32} {i : Nat} {v : Int32} : (eW cI a E).set 1 (a 1, .inl (cI, 6, .inl (upd (E 0) i v))) = eW cI a (up E 0 i v) := rfl
theorem eW_s1 {cI : ClassId} {a : Nat → Nat} {E : Nat → Nat → Int32} {i : Nat} {v : Int32} : (eW cI a E).set 2 (a 2, .inl (cI, 6, .inl (upd (E 1) i v))) = eW cI a (up E 1 i v) := rfl
theorem eW_s2 {cI : ClassId} {a : Nat → Nat} {E : Nat → Nat → Int32} {i : Nat} {v : Int32} : (eW cI a E).set 3 (a 3, .inl (cI, 8, .inl (upd (E 2) i v))) = eW cI a (up E 2 i v) := rfl
theorem eW_s3 {cI : ClassId} {a : Nat → Nat} {E : Nat → Nat → Int32} {i : Nat} {v : Int32} : (eW cI a E).set 4 (a 4, .inl (cI, 8, .inl (upd (E 3) i v))) = eW cI a (up E 3 i v) := rfl
theorem eW_s4 {cI : ClassId} {a : Nat → Nat} {E : Nat → Nat → Int32} {i : Nat} {v : Int32} : (eW cI a E).set 5 (a 5, .inl (cI, 8, .inl (upd (E 4) i v))) = eW cI a (up E 4 i v) := rfl
theorem eW_s5 {cI : ClassId} {a : Nat → Nat} {E : Nat → Nat → Int32} {i : Nat} {v : Int32} : (eW cI a E).set 6 (a 6, .inl (cI, 8, .inl (upd (E 5) i v))) = eW cI a (up E 5 i v) := rfl
theorem eW_s6 {cI : ClassId} {a : Nat → Nat} {E : Nat → Nat → Int32} {i : Nat} {v : Int32} : (eW cI a E).set 7 (a 7, .inl (cI, 8, .inl (upd (E 6) i v))) = eW cI a (up E 6 i v) := rfl
theorem eW_s7 {cI : ClassId} {a : Nat → Nat} {E : Nat → Nat → Int32} {i : Nat} {v : Int32} : (eW cI a E).set 8 (a 8, .inl (cI, 8, .inl (upd (E 7) i v))) = eW cI a (up E 7 i v) := rfl
theorem eW_s8 {cI : ClassId} {a : Nat → Nat} {E : Nat → Nat → Int32} {i : Nat} {v : Int32} : (eW cI a E).set 9 (a 9, .inl (cI, 10, .inl (upd (E 8) i v))) = eW cI a (up E 8 i v) := rfl
theorem eW_p0 {cI : ClassId} {a : Nat → Nat} {E : Nat → Nat → Int32} {v : Int32} : (eW cI a E).set 0 (a 0, .inr (0, (eF a E).set 9 (.int v))) = eW cI a (up E 9 0 v) := rfl
theorem eW_p1 {cI : ClassId} {a : Nat → Nat} {E : Nat → Nat → Int32} {v : Int32} : (eW cI a E).set 0 (a 0, .inr (0, (eF a E).set 10 (.int v))) = eW cI a (up E 9 1 v) := rfl
theorem eW_p2 {cI : ClassId} {a : Nat → Nat} {E : Nat → Nat → Int32} {v : Int32} : (eW cI a E).set 0 (a 0, .inr (0, (eF a E).set 11 (.int v))) = eW cI a (up E 9 2 v) := rfl
theorem eW_p3 {cI : ClassId} {a : Nat → Nat} {E : Nat → Nat → Int32} {v : Int32} : (eW cI a E).set 0 (a 0, .inr (0, (eF a E).set 12 (.int v))) = eW cI a (up E 9 3 v) := rfl
theorem eW_p4 {cI : ClassId} {a : Nat → Nat} {E : Nat → Nat → Int32} {v : Int32} : (eW cI a E).set 0 (a 0, .inr (0, (eF a E).set 13 (.int v))) = eW cI a (up E 9 4 v) := rfl
/-- at most m -/
def bd (x : Int32) (m : Nat) : Prop := ∃ k : Nat, k ≤ m ∧ x = nI k
theorem ix_nI {k : Nat} (h : k < 2 ^ 31) : ix (nI k) = k := nI_clamp h
theorem bd_ix {x : Int32} {m : Nat} (h : bd x m) (hm : m < 2 ^ 31) : x = nI (ix x) ∧ ix x ≤ m := by
  obtain ⟨k, hk, rfl⟩ := h
  rw [ix_nI (Nat.lt_of_le_of_lt hk hm)]
  exact ⟨rfl, hk⟩
/-- an estuary of n oysters in which all is as it may be -/
def Wf (E : Nat → Nat → Int32) (n : Nat) : Prop := n ≤ 8 ∧ E 9 0 = nI n ∧ (∀ i, i < 8 → bd (E 2 i) 6 ∧ bd (E 3 i) 5 ∧ bd (E 4 i) 99 ∧ bd (E 5 i) 999 ∧ bd (E 6 i) 999 ∧ bd (E 7 i) 999) ∧ (∀ b, b < 6 → bd (E 0 b) 999 ∧ bd (E 1 b) 9) ∧ bd (E 9 1) 99 ∧ (∀ k, k < 10 → E 8 k = -1 ∨ ∃ j, j < n ∧ E 8 k = nI j)
theorem Wf.home {E : Nat → Nat → Int32} {n i : Nat} (h : Wf E n) (hi : i < 8) : E 3 i = nI (ix (E 3 i)) := (bd_ix (h.2.2.1 i hi).2.1 (by decide)).1
theorem Wf.homeL {E : Nat → Nat → Int32} {n i : Nat} (h : Wf E n) (hi : i < 8) : ix (E 3 i) < 6 := Nat.lt_succ_of_le (bd_ix (h.2.2.1 i hi).2.1 (by decide)).2
theorem nI_pl (a b : Nat) : nI a + nI b = nI (a + b) := nI_add a b
theorem nI_mi (a : Nat) : nI (a + 1) + (-1) = nI a := pk_m1 a
theorem vI {x y : Int32} (e : x = y) : some (Value.int x) = some (Value.int y) := by rw [e]
theorem vL {x y : Int64} (e : x = y) : some (Value.long x) = some (Value.long y) := by rw [e]
theorem bI_01 (b : Bool) : bI b = 0 ∨ bI b = 1 := by cases b <;> decide
theorem vDet_k {S : Type} {r : Option Value} {x' : S} {P : Option Value → S → Prop} (h : P r x') : ∀ (v : Option Value) (u : S), (fun (v : Option Value) (u : S) => v = r ∧ u = x') v u → P v u := fun v u e => by
  obtain ⟨rfl, rfl⟩ := e
  exact h
section VT
variable {K : vK} {cc : ByteArray} {own : String} {tys : List (ClassId × FieldType)} {fr lo : Nat} {ws : va_W} {pc : Nat} {lv : List (Nat × Value)} {st : List Value} {q : List (Nat × Instr × Nat)}
theorem v_tin (h : vX K cc own tys fr lo) (P : vD cc q) (j : Nat) {dflt l1 h1 : Int} {offs : Array Int} {len : Nat} {x k : Int32} {off : Int} {tgt : Nat} (e : x = k) (d : q[j]? = some (pc, .tableswitch dflt l1 h1 offs, len)) (o1 : ¬ k.toInt < l1) (o2 : ¬ h1 < k.toInt) (ho : offs[(k.toInt - l1).toNat]? = some off) (ht : (pc : Int) + off = (tgt : Int)) (kk : V K ws tgt lv st) : V K ws pc lv (.int x :: st) := by
  subst e
  exact v_tableIn h P j d o1 o2 ho ht kk
theorem v_tout (h : vX K cc own tys fr lo) (P : vD cc q) (j : Nat) {dflt l1 h1 : Int} {offs : Array Int} {len : Nat} {x : Int32} {tgt : Nat} (d : q[j]? = some (pc, .tableswitch dflt l1 h1 offs, len)) (ho : x.toInt < l1 ∨ h1 < x.toInt) (ht : (pc : Int) + dflt = (tgt : Int)) (k : V K ws tgt lv st) : V K ws pc lv (.int x :: st) := v_tableOut h P j d ho ht k
theorem v_mmin2 (h : vX K cc own tys fr lo) (P : vD cc q) (j : Nat) {idx : Nat} {x y : Int32} (w1 : Cond.methodLink own idx Lib.Math.min.name ∈ wsL_law) (w2 : Cond.static Lib.Math.min.name ∈ wsL_law) (w3 : Cond.initialized "java/lang/Math" ∈ wsL_law) (w4 : Cond.code Lib.Math.min.name Lib.Math.min.code 2 (some .int) ∈ wsL_law) (d : q[j]? = some (pc, .invokestatic idx, 3)) (hf : Nat.ble 1 fr = true) (hlo : Nat.ble ((st.map fun v => v.category).sum + 13) lo = true) (k : V K ws (pc + 3) lv (.int (mn x y) :: st)) : V K ws pc lv (.int y :: .int x :: st) := v_mmin h P j w1 w2 w3 w4 d hf hlo k
theorem v_mmax2 (h : vX K cc own tys fr lo) (P : vD cc q) (j : Nat) {idx : Nat} {x y : Int32} (w1 : Cond.methodLink own idx Lib.Math.max.name ∈ wsL_law) (w2 : Cond.static Lib.Math.max.name ∈ wsL_law) (w3 : Cond.initialized "java/lang/Math" ∈ wsL_law) (w4 : Cond.code Lib.Math.max.name Lib.Math.max.code 2 (some .int) ∈ wsL_law) (d : q[j]? = some (pc, .invokestatic idx, 3)) (hf : Nat.ble 1 fr = true) (hlo : Nat.ble ((st.map fun v => v.category).sum + 13) lo = true) (k : V K ws (pc + 3) lv (.int (mx x y) :: st)) : V K ws pc lv (.int y :: .int x :: st) := v_mmax h P j w1 w2 w3 w4 d hf hlo k
theorem v_mabs2 (h : vX K cc own tys fr lo) (P : vD cc q) (j : Nat) {idx : Nat} {x : Int32} (w1 : Cond.methodLink own idx Lib.Math.abs.name ∈ wsL_law) (w2 : Cond.static Lib.Math.abs.name ∈ wsL_law) (w3 : Cond.initialized "java/lang/Math" ∈ wsL_law) (w4 : Cond.code Lib.Math.abs.name Lib.Math.abs.code 1 (some .int) ∈ wsL_law) (d : q[j]? = some (pc, .invokestatic idx, 3)) (hf : Nat.ble 1 fr = true) (hlo : Nat.ble ((st.map fun v => v.category).sum + 13) lo = true) (k : V K ws (pc + 3) lv (.int (ab x) :: st)) : V K ws pc lv (.int x :: st) := v_mabs h P j w1 w2 w3 w4 d hf hlo k
theorem v_irem2 (h : vX K cc own tys fr lo) (P : vD cc q) (j : Nat) {x y : Int32} (d : q[j]? = some (pc, .irem, 1)) (hne : ¬ y = 0) (k : V K ws (pc + 1) lv (.int (rem x y) :: st)) : V K ws pc lv (.int y :: .int x :: st) := v_irem h P j d hne k
theorem v_icmp_ge2 (h : vX K cc own tys fr lo) (P : vD cc q) (j : Nat) {x y : Int32} {off : Int} {tgt : Nat} (d : q[j]? = some (pc, .if_icmp .ge off, 3)) (ht : (pc : Int) + off = (tgt : Int)) (kt : ¬ x < y → V K ws tgt lv st) (kf : x < y → V K ws (pc + 3) lv st) : V K ws pc lv (.int y :: .int x :: st) := v_icmp_ge h P j d ht (fun c => kt (Int32.not_lt.mpr c)) (fun c => kf (Int32.not_le.mp c))
theorem v_icmp_le2 (h : vX K cc own tys fr lo) (P : vD cc q) (j : Nat) {x y : Int32} {off : Int} {tgt : Nat} (d : q[j]? = some (pc, .if_icmp .le off, 3)) (ht : (pc : Int) + off = (tgt : Int)) (kt : ¬ y < x → V K ws tgt lv st) (kf : y < x → V K ws (pc + 3) lv st) : V K ws pc lv (.int y :: .int x :: st) := v_icmp_le h P j d ht (fun c => kt (Int32.not_lt.mpr c)) (fun c => kf (Int32.not_le.mp c))
theorem v_if_ge2 (h : vX K cc own tys fr lo) (P : vD cc q) (j : Nat) {x : Int32} {off : Int} {tgt : Nat} (d : q[j]? = some (pc, .ifCond .ge off, 3)) (ht : (pc : Int) + off = (tgt : Int)) (kt : ¬ x < 0 → V K ws tgt lv st) (kf : x < 0 → V K ws (pc + 3) lv st) : V K ws pc lv (.int x :: st) := v_if_ge h P j d ht (fun c => kt (Int32.not_lt.mpr c)) (fun c => kf (Int32.not_le.mp c))
theorem v_if_le2 (h : vX K cc own tys fr lo) (P : vD cc q) (j : Nat) {x : Int32} {off : Int} {tgt : Nat} (d : q[j]? = some (pc, .ifCond .le off, 3)) (ht : (pc : Int) + off = (tgt : Int)) (kt : ¬ 0 < x → V K ws tgt lv st) (kf : 0 < x → V K ws (pc + 3) lv st) : V K ws pc lv (.int x :: st) := v_if_le h P j d ht (fun c => kt (Int32.not_lt.mpr c)) (fun c => kf (Int32.not_le.mp c))
end VT
def toldS (E : Nat → Nat → Int32) (i : Nat) : Bool := decide (E 4 i = 0)
def takesS (E : Nat → Nat → Int32) (i : Nat) : Int32 := if E 2 i = 1 then 6 + E 4 i / 10 else if E 2 i = 2 then 3 else if E 2 i = 3 then 2 else if E 2 i = 4 then (if rem (E 6 i) 2 = 0 then 2 else 0) else if E 2 i = 5 then 6 + mn 9 (E 6 i / 10) else if E 2 i = 6 then 2 * (6 + E 4 i / 10) else 6
def needsS (E : Nat → Nat → Int32) (i : Nat) : Int32 := if E 2 i = 1 then 2 * E 4 i else if E 2 i = 2 then E 4 i / 2 else if E 2 i = 3 then mx 0 (E 4 i / 2 - E 1 (ix (E 3 i))) else if E 2 i = 4 then mx 0 (E 4 i / 2 - E 1 (ix (E 3 i))) else if E 2 i = 5 then mx 0 (E 4 i - 5) else if E 2 i = 6 then 2 * E 4 i + 10 else E 4 i
def warmS (E : Nat → Nat → Int32) (i : Nat) : Bool := decide (E 1 (ix (E 3 i)) < 3)
def opensS (E : Nat → Nat → Int32) (i : Nat) : Bool := if E 2 i = 1 then warmS E i && !decide (50 < E 4 i) else if E 2 i = 3 then true else if E 2 i = 4 then decide (rem (E 9 2) 3 = 2) else if E 2 i = 6 then false else warmS E i
def worthS (E : Nat → Nat → Int32) (i : Nat) : Int32 := if toldS E i = true then 0 else if E 2 i = 1 then E 5 i + E 4 i else if E 2 i = 2 then E 5 i / 2 else if E 2 i = 3 then E 5 i / 2 else if E 2 i = 4 then E 5 i / 2 else if E 2 i = 5 then 3 * E 5 i else if E 2 i = 6 then mx 0 (E 5 i + E 4 i - 10 * E 7 i) else E 5 i
def hiddenS (E : Nat → Nat → Int32) (i : Nat) : Bool := !toldS E i && !decide (E 5 i < needsS E i)
theorem vRf {x y : Nat} (e : x = y) : some (Value.ref x) = some (Value.ref y) := by rw [e]
theorem v_eql {K : vK} {ws : va_W} {pc : Nat} {lv lv' : List (Nat × Value)} {st : List Value} (e : lv = lv') (k : V K ws pc lv' st) : V K ws pc lv st := e ▸ k
def sumS (f : Nat → Int32) : Nat → Int32
  | 0 => 0
  | k + 1 => sumS f k + f k
def setS (p : Nat → Bool) : Nat → Int32
  | 0 => 0
  | k + 1 => if p k = true then setS p k ||| (1 <<< (nI k &&& 31)) else setS p k
def cntS (p : Nat → Bool) : Nat → Int32
  | 0 => 0
  | k + 1 => if p k = true then cntS p k + 1 else cntS p k
def rowA (w : Int32) : Nat := if w = 0 then 3 else if w = 1 then 4 else if w = 2 then 5 else if w = 3 then 6 else if w = 4 then 7 else 8
def clearS (E : Nat → Nat → Int32) (i : Nat) : Nat → Nat → Int32 := up (up (up (up E 4 i 0) 5 i 0) 6 i 0) 7 i 0
def newS (E : Nat → Nat → Int32) (n : Nat) (k b : Int32) : Nat → Nat → Int32 := up (up (up (clearS (up E 9 0 (nI (n + 1))) n) 2 n k) 3 n b) 4 n 10
def drawZ (z : Int32) : Int32 := z * 1103515245 + 12345
def ush8 (z : Int32) : Int32 := (z.toUInt32 >>> ((8 : Int32).toUInt32 &&& Int32.toUInt32 31)).toInt32
def growS (E : Nat → Nat → Int32) (i : Nat) : Nat → Nat → Int32 := up (up E 0 (ix (E 3 i)) (E 0 (ix (E 3 i)) - mn (takesS E i) (E 0 (ix (E 3 i))))) 5 i (mn 999 (E 5 i + mn (takesS E i) (E 0 (ix (E 3 i)))))
def upB (u : Int32) (i : Nat) : Bool := !decide (u &&& (1 <<< (nI i &&& 31)) = 0)
def growN (u : Int32) (E : Nat → Nat → Int32) : Nat → Nat → Nat → Int32
  | 0 => E
  | k + 1 => if (toldS (growN u E k) k || upB u k) = true then growN u E k else growS (growN u E k) k
def opsS (E : Nat → Nat → Int32) (i : Nat) : Bool := !toldS E i && (!hiddenS E i && opensS E i)
def showS (E : Nat → Nat → Int32) (i : Nat) : Nat → Nat → Int32 := up (up E 7 i (mn 999 (E 7 i + 1))) 4 i (mx 0 (E 4 i - 7))
def showN (E : Nat → Nat → Int32) : Nat → Nat → Nat → Int32
  | 0 => E
  | k + 1 => if opsS (showN E k) k = true then showS (showN E k) k else showN E k
def ageN (E : Nat → Nat → Int32) : Nat → Nat → Nat → Int32
  | 0 => E
  | k + 1 => up (ageN E k) 6 k (mn 999 (ageN E k 6 k + 1))
def nacN (E : Nat → Nat → Int32) : Nat → Nat → Nat → Int32
  | 0 => E
  | k + 1 => up (nacN E k) 0 k (mn 999 (nacN E k 0 k + nacN E k 9 1))
/-- a year but for its number -/
def yr0 (n : Nat) (u : Int32) (E : Nat → Nat → Int32) : Nat → Nat → Int32 := nacN (ageN (showN (growN u E n) n) n) 6
def yearS (n : Nat) (u : Int32) (E : Nat → Nat → Int32) : Nat → Nat → Int32 := up (yr0 n u E) 9 2 (mn 99999 (yr0 n u E 9 2 + 1))
def yearsS (n : Nat) (u : Int32) (E : Nat → Nat → Int32) : Nat → Nat → Nat → Int32
  | 0 => E
  | k + 1 => yearS n u (yearsS n u E k)
/-! what a row is behind a change of another, and of itself -/
theorem up_s (E : Nat → Nat → Int32) (r i : Nat) (v : Int32) : up E r i v r = upd (E r) i v := by
  unfold up
  rw [Nat.beq_refl]
  rfl
theorem up_n (E : Nat → Nat → Int32) (r i : Nat) (v : Int32) {r' : Nat} (h : Nat.beq r' r = false) : up E r i v r' = E r' := by
  unfold up
  rw [h]
  rfl
theorem upd_s (f : Nat → Int32) (k : Nat) (x : Int32) : upd f k x k = x := if_pos rfl
theorem upd_n (f : Nat → Int32) {k j : Nat} (x : Int32) (h : j ≠ k) : upd f k x j = f j := if_neg h
/-! bounds -/
theorem bd_lit (k m : Nat) (h : k ≤ m) : bd (nI k) m := ⟨k, h, rfl⟩
theorem bd_le {x : Int32} {m m' : Nat} (h : bd x m) (hm : m ≤ m') : bd x m' := by
  obtain ⟨k, hk, e⟩ := h
  exact ⟨k, Nat.le_trans hk hm, e⟩
theorem bd_upd {f : Nat → Int32} {k : Nat} {x : Int32} {m j : Nat} (hf : bd (f j) m) (hx : bd x m) : bd (upd f k x j) m := by
  unfold upd
  split
  · exact hx
  · exact hf
theorem bd_iff {x : Int32} {m : Nat} (hm : m < 2 ^ 31) : bd x m ↔ 0 ≤ x.toInt ∧ x.toInt ≤ m := by
  constructor
  · rintro ⟨k, hk, rfl⟩
    rw [nI_toInt (Nat.lt_of_le_of_lt hk hm)]
    omega
  · intro ⟨h0, h1⟩
    refine ⟨x.toInt.toNat, by omega, ?_⟩
    apply Int32.toInt_inj.mp
    rw [nI_toInt (by omega)]
    omega
theorem toInt_mn (x y : Int32) : (mn x y).toInt = min x.toInt y.toInt := by
  unfold mn
  split
  · rename_i h
    have := Int32.lt_iff_toInt_lt.mp h
    omega
  · rename_i h
    have : ¬ y.toInt < x.toInt := fun e => h (Int32.lt_iff_toInt_lt.mpr e)
    omega
theorem toInt_mx (x y : Int32) : (mx x y).toInt = max x.toInt y.toInt := by
  unfold mx
  split
  · rename_i h
    have := Int32.lt_iff_toInt_lt.mp h
    omega
  · rename_i h
    have : ¬ x.toInt < y.toInt := fun e => h (Int32.lt_iff_toInt_lt.mpr e)
    omega
theorem toInt_add {x y : Int32} (h1 : -2147483648 ≤ x.toInt + y.toInt) (h2 : x.toInt + y.toInt < 2147483648) : (x + y).toInt = x.toInt + y.toInt := by
  rw [Int32.toInt_add]
  exact Int.bmod_eq_of_le (by omega) (by omega)
theorem toInt_sub {x y : Int32} (h1 : -2147483648 ≤ x.toInt - y.toInt) (h2 : x.toInt - y.toInt < 2147483648) : (x - y).toInt = x.toInt - y.toInt := by
  rw [Int32.toInt_sub]
  exact Int.bmod_eq_of_le (by omega) (by omega)
theorem toInt_mul {x y : Int32} (h1 : -2147483648 ≤ x.toInt * y.toInt) (h2 : x.toInt * y.toInt < 2147483648) : (x * y).toInt = x.toInt * y.toInt := by
  rw [Int32.toInt_mul]
  exact Int.bmod_eq_of_le (by omega) (by omega)
theorem mn_le {x y : Int32} (a : Nat) (ha : a < 2 ^ 31) (hx : x.toInt = a) (hy : 0 ≤ y.toInt) : bd (mn x y) a := (bd_iff ha).mpr (by
  rw [toInt_mn]
  omega)
theorem bd_div10 {x : Int32} (h : bd x 999) : bd (x / 10) 99 := by
  obtain ⟨k, hk, rfl⟩ := h
  exact ⟨k / 10, by omega, by rw [show (10 : Int32) = nI 10 from rfl]; exact pk_div (by omega) (by decide) (by decide)⟩
theorem bd_takes {E : Nat → Nat → Int32} {n i : Nat} (h : Wf E n) (hi : i < 8) : bd (takesS E i) 40 := by
  obtain ⟨-, -, h3, -⟩ := h
  obtain ⟨-, -, hw, -, ha, -⟩ := h3 i hi
  have e1 : bd (6 + E 4 i / 10) 105 := by
    obtain ⟨k, hk, e⟩ := bd_div10 (bd_le hw (by decide : 99 ≤ 999))
    exact ⟨6 + k, by omega, by rw [e]; exact nI_add 6 k⟩
  have hw2 : bd (E 4 i / 10) 9 := by
    obtain ⟨k, hk, e⟩ := hw
    exact ⟨k / 10, by omega, by rw [e, show (10 : Int32) = nI 10 from rfl]; exact pk_div (by omega) (by decide) (by decide)⟩
  obtain ⟨k, hk, e⟩ := hw2
  have ha2 := bd_div10 ha
  rw [bd_iff (by decide)] at ha2
  unfold takesS
  rw [e]
  split
  · exact ⟨6 + k, by omega, nI_add 6 k⟩
  split
  · exact ⟨3, by omega, rfl⟩
  split
  · exact ⟨2, by omega, rfl⟩
  split
  · split
    · exact ⟨2, by omega, rfl⟩
    · exact ⟨0, by omega, rfl⟩
  split
  · obtain ⟨j, hj, e2⟩ := mn_le (x := 9) (y := E 6 i / 10) 9 (by decide) (by decide) ha2.1
    exact ⟨6 + j, by omega, by rw [e2]; exact nI_add 6 j⟩
  split
  · exact ⟨2 * (6 + k), by omega, by rw [show (6 : Int32) + nI k = nI (6 + k) from nI_add 6 k]; exact pk_mul 2 (6 + k)⟩
  · exact ⟨6, by omega, rfl⟩
theorem Wf_up0 {E : Nat → Nat → Int32} {n : Nat} (h : Wf E n) {b : Nat} {v : Int32} (hv : bd v 999) : Wf (up E 0 b v) n := ⟨h.1, h.2.1, h.2.2.1, fun c hc => ⟨bd_upd (h.2.2.2.1 c hc).1 hv, (h.2.2.2.1 c hc).2⟩, h.2.2.2.2.1, h.2.2.2.2.2⟩
theorem Wf_up1 {E : Nat → Nat → Int32} {n : Nat} (h : Wf E n) {b : Nat} {v : Int32} (hv : bd v 9) : Wf (up E 1 b v) n := ⟨h.1, h.2.1, h.2.2.1, fun c hc => ⟨(h.2.2.2.1 c hc).1, bd_upd (h.2.2.2.1 c hc).2 hv⟩, h.2.2.2.2.1, h.2.2.2.2.2⟩
theorem Wf_up2 {E : Nat → Nat → Int32} {n : Nat} (h : Wf E n) {b : Nat} {v : Int32} (hv : bd v 6) : Wf (up E 2 b v) n := ⟨h.1, h.2.1, fun i hi => ⟨bd_upd (h.2.2.1 i hi).1 hv, (h.2.2.1 i hi).2⟩, h.2.2.2.1, h.2.2.2.2.1, h.2.2.2.2.2⟩
theorem Wf_up3 {E : Nat → Nat → Int32} {n : Nat} (h : Wf E n) {b : Nat} {v : Int32} (hv : bd v 5) : Wf (up E 3 b v) n := ⟨h.1, h.2.1, fun i hi => ⟨(h.2.2.1 i hi).1, bd_upd (h.2.2.1 i hi).2.1 hv, (h.2.2.1 i hi).2.2⟩, h.2.2.2.1, h.2.2.2.2.1, h.2.2.2.2.2⟩
theorem Wf_up4 {E : Nat → Nat → Int32} {n : Nat} (h : Wf E n) {b : Nat} {v : Int32} (hv : bd v 99) : Wf (up E 4 b v) n := ⟨h.1, h.2.1, fun i hi => ⟨(h.2.2.1 i hi).1, (h.2.2.1 i hi).2.1, bd_upd (h.2.2.1 i hi).2.2.1 hv, (h.2.2.1 i hi).2.2.2⟩, h.2.2.2.1, h.2.2.2.2.1, h.2.2.2.2.2⟩
theorem Wf_up5 {E : Nat → Nat → Int32} {n : Nat} (h : Wf E n) {b : Nat} {v : Int32} (hv : bd v 999) : Wf (up E 5 b v) n := ⟨h.1, h.2.1, fun i hi => ⟨(h.2.2.1 i hi).1, (h.2.2.1 i hi).2.1, (h.2.2.1 i hi).2.2.1, bd_upd (h.2.2.1 i hi).2.2.2.1 hv, (h.2.2.1 i hi).2.2.2.2⟩, h.2.2.2.1, h.2.2.2.2.1, h.2.2.2.2.2⟩
theorem Wf_up6 {E : Nat → Nat → Int32} {n : Nat} (h : Wf E n) {b : Nat} {v : Int32} (hv : bd v 999) : Wf (up E 6 b v) n := ⟨h.1, h.2.1, fun i hi => ⟨(h.2.2.1 i hi).1, (h.2.2.1 i hi).2.1, (h.2.2.1 i hi).2.2.1, (h.2.2.1 i hi).2.2.2.1, bd_upd (h.2.2.1 i hi).2.2.2.2.1 hv, (h.2.2.1 i hi).2.2.2.2.2⟩, h.2.2.2.1, h.2.2.2.2.1, h.2.2.2.2.2⟩
theorem Wf_up7 {E : Nat → Nat → Int32} {n : Nat} (h : Wf E n) {b : Nat} {v : Int32} (hv : bd v 999) : Wf (up E 7 b v) n := ⟨h.1, h.2.1, fun i hi => ⟨(h.2.2.1 i hi).1, (h.2.2.1 i hi).2.1, (h.2.2.1 i hi).2.2.1, (h.2.2.1 i hi).2.2.2.1, (h.2.2.1 i hi).2.2.2.2.1, bd_upd (h.2.2.1 i hi).2.2.2.2.2 hv⟩, h.2.2.2.1, h.2.2.2.2.1, h.2.2.2.2.2⟩
theorem Wf_up8 {E : Nat → Nat → Int32} {n : Nat} (h : Wf E n) {b : Nat} {v : Int32} (hv : v = -1 ∨ ∃ j, j < n ∧ v = nI j) : Wf (up E 8 b v) n := ⟨h.1, h.2.1, h.2.2.1, h.2.2.2.1, h.2.2.2.2.1, fun k hk => by
  show upd (E 8) b v k = -1 ∨ ∃ j, j < n ∧ upd (E 8) b v k = nI j
  unfold upd
  split
  · exact hv
  · exact h.2.2.2.2.2 k hk⟩
theorem Wf_up91 {E : Nat → Nat → Int32} {n : Nat} (h : Wf E n) {v : Int32} (hv : bd v 99) : Wf (up E 9 1 v) n := ⟨h.1, h.2.1, h.2.2.1, h.2.2.2.1, hv, h.2.2.2.2.2⟩
theorem Wf_up9 {E : Nat → Nat → Int32} {n : Nat} (h : Wf E n) {k : Nat} {v : Int32} (hk : 2 ≤ k) : Wf (up E 9 k v) n := ⟨h.1, (upd_n (E 9) v (by omega : 0 ≠ k)).trans h.2.1, h.2.2.1, h.2.2.2.1, (show bd (upd (E 9) k v 1) 99 by rw [upd_n (E 9) v (by omega : 1 ≠ k)]; exact h.2.2.2.2.1), h.2.2.2.2.2⟩
theorem bd_mn {x : Int32} {m : Nat} (a : Int32) (ha : a.toInt = m) (hm : m < 2 ^ 31) (hx : 0 ≤ x.toInt) : bd (mn a x) m := mn_le m hm ha hx
theorem bd_grow0 {E : Nat → Nat → Int32} {n i b : Nat} (h : Wf E n) (hi : i < 8) (hb : b < 6) : bd (E 0 b - mn (takesS E i) (E 0 b)) 999 := by
  have h1 := (bd_iff (by decide)).mp (h.2.2.2.1 b hb).1
  have h2 := (bd_iff (by decide)).mp (bd_takes h hi)
  have h3 := toInt_mn (takesS E i) (E 0 b)
  rw [bd_iff (by decide), toInt_sub (by omega) (by omega)]
  omega
theorem bd_grow5 {E : Nat → Nat → Int32} {n i b : Nat} (h : Wf E n) (hi : i < 8) (hb : b < 6) : bd (mn 999 (E 5 i + mn (takesS E i) (E 0 b))) 999 := by
  have h1 := (bd_iff (by decide)).mp (h.2.2.2.1 b hb).1
  have h2 := (bd_iff (by decide)).mp (bd_takes h hi)
  have h3 := toInt_mn (takesS E i) (E 0 b)
  have h4 := (bd_iff (by decide)).mp (h.2.2.1 i hi).2.2.2.1
  exact bd_mn 999 (by decide) (by decide) (by rw [toInt_add (by omega) (by omega)]; omega)
theorem Wf_grow {E : Nat → Nat → Int32} {n i : Nat} (h : Wf E n) (hi : i < 8) : Wf (growS E i) n := Wf_up5 (Wf_up0 h (bd_grow0 h hi (h.homeL hi))) (bd_grow5 h hi (h.homeL hi))
theorem growS_9 (E : Nat → Nat → Int32) (i : Nat) : growS E i 9 = E 9 := rfl
theorem growN_9 (u : Int32) (E : Nat → Nat → Int32) : ∀ k, growN u E k 9 = E 9
  | 0 => rfl
  | k + 1 => by
    unfold growN
    split
    · exact growN_9 u E k
    · rw [growS_9]; exact growN_9 u E k
theorem Wf_growN {E : Nat → Nat → Int32} {n : Nat} (h : Wf E n) (u : Int32) : ∀ k, k ≤ 8 → Wf (growN u E k) n
  | 0, _ => h
  | k + 1, hk => by
    unfold growN
    split
    · exact Wf_growN h u k (by omega)
    · exact Wf_grow (Wf_growN h u k (by omega)) (by omega)
theorem Wf_show {E : Nat → Nat → Int32} {n i : Nat} (h : Wf E n) (hi : i < 8) : Wf (showS E i) n := by
  have h1 := (bd_iff (by decide)).mp (h.2.2.1 i hi).2.2.2.2.2
  have h2 := (bd_iff (by decide)).mp (h.2.2.1 i hi).2.2.1
  have a1 : (1 : Int32).toInt = 1 := by decide
  have a7 : (7 : Int32).toInt = 7 := by decide
  have a0 : (0 : Int32).toInt = 0 := by decide
  refine Wf_up4 (Wf_up7 h (bd_mn 999 (by decide) (by decide) (by rw [toInt_add (by omega) (by omega)]; omega))) ?_
  rw [bd_iff (by decide), toInt_mx, toInt_sub (by omega) (by omega)]
  omega
theorem Wf_showN {E : Nat → Nat → Int32} {n : Nat} (h : Wf E n) : ∀ k, k ≤ 8 → Wf (showN E k) n
  | 0, _ => h
  | k + 1, hk => by
    unfold showN
    split
    · exact Wf_show (Wf_showN h k (by omega)) (by omega)
    · exact Wf_showN h k (by omega)
theorem showN_9 (E : Nat → Nat → Int32) : ∀ k, showN E k 9 = E 9
  | 0 => rfl
  | k + 1 => by
    unfold showN
    split
    · exact showN_9 E k
    · exact showN_9 E k
theorem Wf_ageN {E : Nat → Nat → Int32} {n : Nat} (h : Wf E n) : ∀ k, k ≤ 8 → Wf (ageN E k) n
  | 0, _ => h
  | k + 1, hk => by
    have ih := Wf_ageN h k (by omega)
    have h1 := (bd_iff (by decide)).mp (ih.2.2.1 k (by omega)).2.2.2.2.1
    have a1 : (1 : Int32).toInt = 1 := by decide
    exact Wf_up6 ih (bd_mn 999 (by decide) (by decide) (by rw [toInt_add (by omega) (by omega)]; omega))
theorem ageN_9 (E : Nat → Nat → Int32) : ∀ k, ageN E k 9 = E 9
  | 0 => rfl
  | k + 1 => ageN_9 E k
theorem Wf_nacN {E : Nat → Nat → Int32} {n : Nat} (h : Wf E n) : ∀ k, k ≤ 6 → Wf (nacN E k) n
  | 0, _ => h
  | k + 1, hk => by
    have ih := Wf_nacN h k (by omega)
    have h1 := (bd_iff (by decide)).mp (ih.2.2.2.1 k (by omega)).1
    have h2 := (bd_iff (by decide)).mp ih.2.2.2.2.1
    exact Wf_up0 ih (bd_mn 999 (by decide) (by decide) (by rw [toInt_add (by omega) (by omega)]; omega))
theorem nacN_9 (E : Nat → Nat → Int32) : ∀ k, nacN E k 9 = E 9
  | 0 => rfl
  | k + 1 => nacN_9 E k
theorem yr0_9 (n : Nat) (u : Int32) (E : Nat → Nat → Int32) : yr0 n u E 9 = E 9 := by
  unfold yr0
  rw [nacN_9, ageN_9, showN_9, growN_9]
theorem Wf_yr0 {E : Nat → Nat → Int32} {n : Nat} (h : Wf E n) (u : Int32) : Wf (yr0 n u E) n := Wf_nacN (Wf_ageN (Wf_showN (Wf_growN h u n h.1) n h.1) n h.1) 6 (Nat.le_refl 6)
theorem Wf_year {E : Nat → Nat → Int32} {n : Nat} (h : Wf E n) (u : Int32) : Wf (yearS n u E) n := Wf_up9 (Wf_yr0 h u) (by decide)
theorem yearS_9 (n : Nat) (u : Int32) (E : Nat → Nat → Int32) : yearS n u E 9 = upd (E 9) 2 (mn 99999 (E 9 2 + 1)) := by
  show upd (yr0 n u E 9) 2 (mn 99999 (yr0 n u E 9 2 + 1)) = _
  rw [yr0_9]
theorem Wf_years {E : Nat → Nat → Int32} {n : Nat} (h : Wf E n) (u : Int32) : ∀ k, Wf (yearsS n u E k) n
  | 0 => h
  | k + 1 => Wf_year (Wf_years h u k) u
theorem yearsS_94 (n : Nat) (u : Int32) (E : Nat → Nat → Int32) : ∀ k, yearsS n u E k 9 4 = E 9 4
  | 0 => rfl
  | k + 1 => by
    show yearS n u (yearsS n u E k) 9 4 = E 9 4
    rw [yearS_9, upd_n _ _ (by decide)]
    exact yearsS_94 n u E k
theorem eW_row8 (cI : ClassId) (a : Nat → Nat) (E : Nat → Nat → Int32) {r : Nat} (h1 : 2 ≤ r) (h2 : r ≤ 7) : (eW cI a E)[r + 1]? = some (a (r + 1), .inl (cI, 8, .inl (E r))) := by
  rcases (show r = 2 ∨ r = 3 ∨ r = 4 ∨ r = 5 ∨ r = 6 ∨ r = 7 by omega) with rfl | rfl | rfl | rfl | rfl | rfl <;> rfl
theorem arrV_eq {c : ClassId} {n : Nat} {f g : Nat → Int32} (h : ∀ j, j < n → f j = g j) : arrV c n (fun j => Value.int (f j)) = arrV c n (fun j => Value.int (g j)) := by
  unfold arrV
  rw [show (fun j : Fin n => Value.int (f j.val)) = (fun j : Fin n => Value.int (g j.val)) from funext fun j => by rw [h j.val j.isLt]]
theorem va_P_row {D : va_G} {cl : List vw_C} {ws : va_W} {H : Heap} (hP : va_P D cl ws H) {q0 a n : Nat} {c : ClassId} {f g : Nat → Int32} (he : ws[q0]? = some (a, .inl (c, n, .inl f))) (hfg : ∀ j, j < n → f j = g j) : va_P D cl (ws.set q0 (a, .inl (c, n, .inl g))) H := by
  intro k q hk
  rw [List.getElem?_set] at hk
  split at hk
  · split at hk
    · cases hk
      have h1 := hP q0 _ he
      show H[a]? = some (arrV c n (fun j => .int (g j)))
      rw [← arrV_eq hfg]
      exact h1
    · cases hk
  · exact hP k q hk
section VU
variable {K : vK} {cc : ByteArray} {own : String} {tys : List (ClassId × FieldType)} {fr lo : Nat} {ws : va_W} {pc : Nat} {lv : List (Nat × Value)} {st : List Value} {q : List (Nat × Instr × Nat)}
/-- a row of numbers by another function of its places -/
theorem v_row {a n : Nat} {c : ClassId} {f : Nat → Int32} (q0 : Nat) (g : Nat → Int32) {ws' : va_W} (he : ws[q0]? = some (a, .inl (c, n, .inl f))) (hfg : ∀ j, j < n → f j = g j) (hw : ws.set q0 (a, .inl (c, n, .inl g)) = ws') (k : V K ws' pc lv st) : V K ws pc lv st := by
  subst hw
  exact fun H locs ls hP hD hS hl => k H locs ls (va_P_row hP he hfg) (hD.set he) hS hl
theorem v_copyR (h : vX K cc own tys fr lo) (P : vD cc q) (j : Nat) {idx : Nat} (w1 : Cond.methodLink own idx arraycopyName ∈ wsL_law) (w2 : Cond.native arraycopyName ∈ wsL_law) (w3 : Cond.static arraycopyName ∈ wsL_law) (w4 : Cond.initialized "java/lang/System" ∈ wsL_law) {cA : ClassId} {a0 a1 n0 n1 : Nat} {f g : Nat → Int32} {x y z : Int32} {ws' : va_W} (q0 q1 sp dp m : Nat) (g' : Nat → Int32) (d : q[j]? = some (pc, .invokestatic idx, 3)) (ht : tys[0]? = some (cA, .int)) (he0 : ws[q0]? = some (a0, .inl (cA, n0, .inl f))) (he1 : ws[q1]? = some (a1, .inl (cA, n1, .inl g))) (hx : x = nI sp) (hy : y = nI dp) (hz : z = nI m) (h4 : sp + m ≤ n0) (h5 : dp + m ≤ n1) (hn0 : Nat.blt n0 2147483648 = true) (hn1 : Nat.blt n1 2147483648 = true) (hg : ∀ j, j < n1 → va_cpy f g sp dp m j = g' j) (hw : ws.set q1 (a1, .inl (cA, n1, .inl g')) = ws') (hf : Nat.ble 1 fr = true) (hlo : Nat.ble ((st.map fun v => v.category).sum + (nativeFrameWords "java/lang/System" "arraycopy" 5 + 11)) lo = true) (k : V K ws' (pc + 3) lv st) : V K ws pc lv (.int z :: .int y :: .ref a1 :: .int x :: .ref a0 :: st) := by
  subst hx hy hz hw
  have b0 : n0 < 2147483648 := Nat.le_of_ble_eq_true hn0
  have b1 : n1 < 2147483648 := Nat.le_of_ble_eq_true hn1
  have e1 : (nI sp).toNatClampNeg = sp := nI_clamp (by omega)
  have e2 : (nI dp).toNatClampNeg = dp := nI_clamp (by omega)
  have e3 : (nI m).toNatClampNeg = m := nI_clamp (by omega)
  intro H locs ls hP hD hS hl
  refine va_copyi h.1 h.2.1 (h.2.2.1.trans hl.1.symm) h.2.2.2.1 (h.2.2.2.2.1 _ w1) (h.2.2.2.2.1 _ w2) (h.2.2.2.2.1 _ w3) (h.2.2.2.2.1 _ w4) h.2.2.2.2.2.1 hP hD hS q0 q1 0 0 he0 he1 ht ht rfl (nI_pos (by omega)) (nI_pos (by omega)) (nI_pos (by omega)) (by rw [e1, e3]; exact h4) (by rw [e2, e3]; exact h5) (fun _ _ => rfl) (by rw [h.2.2.2.2.2.2.2.2.1]; exact Nat.le_of_ble_eq_true hf) (by rw [h.2.2.2.2.2.2.2.2.2.1]; exact Nat.le_of_ble_eq_true hlo) (vD.at P d) (fun H1 locs1 hP1 hD1 hS1 => ?_)
  rw [e1, e2, e3] at hP1 hD1
  have hq : q1 < ws.length := (List.getElem?_eq_some_iff.mp he1).1
  have hset : (ws.set q1 (a1, .inl (cA, n1, .inl (va_cpy f g sp dp m))))[q1]? = some (a1, .inl (cA, n1, .inl (va_cpy f g sp dp m))) := by
    rw [List.getElem?_set, if_pos rfl, if_pos hq]
  have hP2 := va_P_row hP1 hset hg
  have hD2 := hD1.set (e := .inl (cA, n1, .inl g')) hset
  rw [List.set_set] at hP2 hD2
  exact k H1 locs1 ls hP2 hD2 hS1 hl
end VU
/-- rows of another estuary below k -/
def cpR (E G : Nat → Nat → Int32) (k : Nat) : Nat → Nat → Int32 := fun r => cond (Nat.blt r k) (G r) (E r)
theorem cpy0 {f g : Nat → Int32} {n j : Nat} (h : j < n) : va_cpy f g 0 0 n j = f j := by
  have e := pk_cpy_in (f := f) (g := g) (sp := 0) (dp := 0) (n := n) (j := j) (Nat.zero_le j) (by omega)
  rw [e]
  congr 1
  omega
