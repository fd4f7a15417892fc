/-! ===== the class: sheets in its world ===== -/
theorem st_s (Z : Nat → Nat → Nat → Int32) (c : Nat) (E : Nat → Nat → Int32) : st Z c E c = E := by
  unfold st
  rw [Nat.beq_refl]
  rfl
theorem st_n (Z : Nat → Nat → Nat → Int32) {c d : Nat} (E : Nat → Nat → Int32) (h : d ≠ c) : st Z c E d = Z d := by
  unfold st
  rw [beq_f h]
  rfl
theorem st_id (Z : Nat → Nat → Nat → Int32) (c : Nat) : st Z c (Z c) = Z := by
  funext d
  by_cases h : d = c
  · subst h; rw [st_s]
  · rw [st_n _ _ h]
theorem bec_11 (R : Nat → Nat → Int32) (bits m : Int32) : becR R bits m 1 1 = if bits = 0 then 0 else m := by
  unfold becR
  rw [zR_1 _ rfl]
  rfl
theorem cW_sn2 {cI cS : ClassId} {a : Nat → Nat} {E T Kp P F : Nat → Nat → Int32} {S : Nat → Nat → Nat → Int32} {t : Nat} (ht : t < 4) : (cW cI cS a (E, T, Kp, P, S, F))[38 + 2 * t]? = some (sh a (37 + 2 * t) 1, .inl (cI, 40, .inl (S t 0))) := by
  rcases (show t = 0 ∨ t = 1 ∨ t = 2 ∨ t = 3 by omega) with rfl | rfl | rfl | rfl <;> rfl
def cpyS (S : Nat → Nat → Nat → Int32) (t p u q c : Nat) : Nat → Nat → Nat → Int32 := st S u (rowP (S u) 0 (va_cpy (S t 0) (S u 0) p q c))
theorem cW_sw2 {cI cS : ClassId} {a : Nat → Nat} {E T Kp P F : Nat → Nat → Int32} {S : Nat → Nat → Nat → Int32} {t : Nat} {g : Nat → Int32} (ht : t < 4) : (cW cI cS a (E, T, Kp, P, S, F)).set (38 + 2 * t) (sh a (37 + 2 * t) 1, .inl (cI, 40, .inl g)) = cW cI cS a (E, T, Kp, P, st S t (rowP (S t) 0 g), F) := by
  rcases (show t = 0 ∨ t = 1 ∨ t = 2 ∨ t = 3 by omega) with rfl | rfl | rfl | rfl <;> rfl
/-- the sizes of the sheets -/
def WfS (S : Nat → Nat → Nat → Int32) : Prop := ∀ t, t < 4 → bd (S t 1 1) 40
theorem WfS.size {S : Nat → Nat → Nat → Int32} {t : Nat} (h : WfS S) (ht : t < 4) : S t 1 1 = nI (ix (S t 1 1)) := (bd_ix (h t ht) (by decide)).1
theorem WfS.sizeL {S : Nat → Nat → Nat → Int32} {t : Nat} (h : WfS S) (ht : t < 4) : ix (S t 1 1) ≤ 40 := (bd_ix (h t ht) (by decide)).2
theorem inS_t {x i : Int32} (hx : bd x 40) (h : inB i 0 (x - 1) = true) : i = nI (ix i) ∧ ix i < ix x := by
  obtain ⟨m, hm, rfl⟩ := hx
  have h3 : (nI m).toInt = m := nI_toInt (by omega)
  have e1 : (1 : Int32).toInt = 1 := by decide
  have e0 : (0 : Int32).toInt = 0 := by decide
  have hm2 : (nI m - 1).toInt = (m : Int) - 1 := by rw [toInt_sub (by omega) (by omega), e1, h3]
  simp only [inB, Bool.and_eq_true, Bool.not_eq_true', decide_eq_false_iff_not, lt_i] at h
  obtain ⟨k, hk, rfl⟩ := (bd_iff (m := 40) (by decide)).mpr (show 0 ≤ i.toInt ∧ i.toInt ≤ (40 : Nat) by omega)
  have ek : (nI k).toInt = k := nI_toInt (by omega)
  rw [ix_nI (by omega), ix_nI (by omega)]
  exact ⟨rfl, by omega⟩
theorem has_t {x p c : Int32} (hx : bd x 40) (h : hasB x p c = true) : p = nI (ix p) ∧ c = nI (ix c) ∧ ix p + ix c ≤ ix x := by
  unfold hasB at h
  repeat' split at h
  all_goals first | cases h | skip
  rename_i h1 h2 h3 h4
  exact cop_t hx (by decide) h1 h2 h4
theorem mn_nI {a b : Nat} (ha : a < 2 ^ 31) (hb : b < 2 ^ 31) : mn (nI a) (nI b) = nI (min a b) := by
  apply Int32.toInt_inj.mp
  rw [toInt_mn, nI_toInt ha, nI_toInt hb, nI_toInt (by omega)]
  omega
