/-! ===== the class: operations ===== -/
theorem rowA_n : ∀ k, k ≤ 5 → rowA (nI k) = 3 + k := by decide
theorem rowA_ix {w : Int32} (e : w = nI (ix w)) (l : ix w ≤ 5) : rowA w = 3 + ix w := by
  have h := rowA_n (ix w) l
  rw [← e] at h
  exact h
theorem rowA_a {a : Nat → Nat} {b : Nat} {w : Int32} (e : w = nI (ix w)) (l : ix w ≤ 5) : sh a b (rowA w) = a (b + 3 + ix w) := by
  unfold sh
  rw [rowA_ix e l, Nat.add_assoc]
theorem cW_row0 {cI cS : ClassId} {a : Nat → Nat} {E T Kp P F : Nat → Nat → Int32} {S : Nat → Nat → Nat → Int32} {w : Nat} (hw : w < 6) : (cW cI cS a (E, T, Kp, P, S, F))[4 + w]? = some (a (4 + w), .inl (cI, 8, .inl (E (2 + w)))) := by
  rcases (show w = 0 ∨ w = 1 ∨ w = 2 ∨ w = 3 ∨ w = 4 ∨ w = 5 by omega) with rfl | rfl | rfl | rfl | rfl | rfl <;> rfl
theorem cW_rs0 {cI cS : ClassId} {a : Nat → Nat} {E T Kp P F : Nat → Nat → Int32} {S : Nat → Nat → Nat → Int32} {w i : Nat} {v : Int32} (hw : w < 6) : (cW cI cS a (E, T, Kp, P, S, F)).set (4 + w) (a (4 + w), .inl (cI, 8, .inl (upd (E (2 + w)) i v))) = cW cI cS a (up E (2 + w) i v, T, Kp, P, S, F) := by
  rcases (show w = 0 ∨ w = 1 ∨ w = 2 ∨ w = 3 ∨ w = 4 ∨ w = 5 by omega) with rfl | rfl | rfl | rfl | rfl | rfl <;> rfl
def b1 (x : Int32) : Int32 := x - ((x.toUInt32 >>> ((1 : Int32).toUInt32 &&& Int32.toUInt32 31)).toInt32 &&& 1431655765)
def b2 (x : Int32) : Int32 := (x &&& 858993459) + ((x.toUInt32 >>> ((2 : Int32).toUInt32 &&& Int32.toUInt32 31)).toInt32 &&& 858993459)
def b3 (x : Int32) : Int32 := (x + (x.toUInt32 >>> ((4 : Int32).toUInt32 &&& Int32.toUInt32 31)).toInt32) &&& 252645135
def b4 (x : Int32) : Int32 := x + (x.toUInt32 >>> ((8 : Int32).toUInt32 &&& Int32.toUInt32 31)).toInt32
def b5 (x : Int32) : Int32 := x + (x.toUInt32 >>> ((16 : Int32).toUInt32 &&& Int32.toUInt32 31)).toInt32
set_option maxRecDepth 20000 in
theorem bc_tab : ∀ x, x < 256 → b5 (b4 (b3 (b2 (b1 (nI x))))) &&& 63 = nI (popc x) := by decide +kernel
theorem bst_1 {f : Nat → Int32} : bstS f (0 + 1) = 0 := by
  unfold bstS
  split <;> rfl
theorem mst_1 {f : Nat → Int32} (h : ¬ f 0 < 0) : mstS f (0 + 1) = f 0 := by
  have e0 : (0 : Int32).toInt = 0 := by decide
  have e1 : (-1 : Int32).toInt = -1 := by decide
  rw [lt_i] at h
  show mx (-1) (f 0) = f 0
  apply Int32.toInt_inj.mp
  rw [toInt_mx]
  omega
theorem worthS_nn {E : Nat → Nat → Int32} {n i : Nat} (h : Wf E n) (hi : i < 8) : ¬ worthS E i < 0 := by
  obtain ⟨-, -, hw, hl, -, hs⟩ := h.2.2.1 i hi
  have w1 := (bd_iff (by decide)).mp hw
  have l1 := (bd_iff (by decide)).mp hl
  have e0 : (0 : Int32).toInt = 0 := by decide
  have e3 : (3 : Int32).toInt = 3 := by decide
  have d2 : 0 ≤ (E 5 i / 2).toInt := by
    obtain ⟨k, hk, e⟩ := hl
    have q : E 5 i / 2 = nI (k / 2) := by rw [e, show (2 : Int32) = nI 2 from rfl]; exact pk_div (by omega) (by decide) (by decide)
    rw [q, nI_toInt (by omega)]
    omega
  have m3 : (3 * E 5 i).toInt = 3 * (E 5 i).toInt := by rw [toInt_mul (by rw [e3]; omega) (by rw [e3]; omega), e3]
  rw [lt_i, e0]
  unfold worthS
  repeat' split
  all_goals first | (rw [toInt_mx]; omega) | (rw [toInt_add (by omega) (by omega)]; omega) | omega
theorem mst_t {f : Nat → Int32} {k : Nat} (h : mstS f k < f k) : f k = mstS f (k + 1) := by
  show f k = mx (mstS f k) (f k)
  rw [mx, if_pos h]
theorem mst_f {f : Nat → Int32} {k : Nat} (h : ¬ mstS f k < f k) : mstS f k = mstS f (k + 1) := by
  show mstS f k = mx (mstS f k) (f k)
  rw [mx, if_neg h]
theorem bst_t {f : Nat → Int32} {k : Nat} (h : mstS f k < f k) : k = bstS f (k + 1) := by rw [bstS, if_pos h]
theorem bst_f {f : Nat → Int32} {k : Nat} (h : ¬ mstS f k < f k) : bstS f k = bstS f (k + 1) := by rw [bstS, if_neg h]
