/-! ===== the class: more of its operations ===== -/
theorem rowP_up (F : Nat → Nat → Int32) (g : Nat → Int32) (i : Nat) (v : Int32) : up (rowP F 1 g) 1 i v = rowP F 1 (upd g i v) := by
  funext r
  unfold up rowP
  cases hr : Nat.beq r 1 with
  | true =>
    have e := Nat.eq_of_beq_eq_true hr
    subst e
    rfl
  | false => rfl
theorem rowP_0 (F : Nat → Nat → Int32) : rowP F 1 (F 1) = F := by
  funext r
  unfold rowP
  cases hr : Nat.beq r 1 with
  | true =>
    have e := Nat.eq_of_beq_eq_true hr
    subst e
    rfl
  | false => rfl
theorem toInt_ab {x : Int32} (h : -1000000 ≤ x.toInt) : (ab x).toInt = x.toInt.natAbs := by
  have e0 : (0 : Int32).toInt = 0 := by decide
  have hl := Int32.toInt_lt x
  unfold ab
  split
  · rename_i h2
    have := Int32.le_iff_toInt_le.mp h2
    omega
  · rename_i h2
    have : ¬ (0 : Int32).toInt ≤ x.toInt := fun e => h2 (Int32.le_iff_toInt_le.mpr e)
    rw [toInt_sub (by omega) (by omega)]
    omega
theorem alk_iff {E : Nat → Nat → Int32} {n y i : Nat} {v : Int32} (h : Wf E n) (hy : y < 8) (hi : i < 8) (hv : inB v 0 999 = true) : alkB E y v i = !decide (v < ab (E 5 i - E 5 y)) := by
  have l1 := (bd_iff (by decide)).mp (h.2.2.1 i hi).2.2.2.1
  have l2 := (bd_iff (by decide)).mp (h.2.2.1 y hy).2.2.2.1
  have hd : (E 5 i - E 5 y).toInt = (E 5 i).toInt - (E 5 y).toInt := toInt_sub (by omega) (by omega)
  obtain ⟨ev, lv⟩ := inB_t 999 rfl (by decide) hv
  have e0 : (0 : Int32).toInt = 0 := by decide
  have tv : v.toInt = ix v := by
    have := nI_toInt (n := ix v) (by omega)
    rw [← ev] at this
    exact this
  have tn : (-v).toInt = - (ix v : Int) := by
    rw [← Int32.zero_sub, toInt_sub (by omega) (by omega)]
    omega
  have ta := toInt_ab (x := E 5 i - E 5 y) (by omega)
  unfold alkB inB
  by_cases c : v < ab (E 5 i - E 5 y)
  · rw [decide_eq_true c]
    rw [lt_i] at c
    by_cases c1 : E 5 i - E 5 y < -v
    · rw [decide_eq_true c1]; rfl
    · have c2 : v < E 5 i - E 5 y := by rw [lt_i] at c1 ⊢; omega
      rw [decide_eq_true c2, decide_eq_false c1]; rfl
  · rw [decide_eq_false c]
    rw [lt_i] at c
    have c1 : ¬ E 5 i - E 5 y < -v := by rw [lt_i]; omega
    have c2 : ¬ v < E 5 i - E 5 y := by rw [lt_i]; omega
    rw [decide_eq_false c1, decide_eq_false c2]; rfl
theorem alk_t {E : Nat → Nat → Int32} {n y i : Nat} {v : Int32} (h : Wf E n) (hy : y < 8) (hi : i < 8) (hv : inB v 0 999 = true) (c : ¬ v < ab (E 5 i - E 5 y)) : alkB E y v i = true := by rw [alk_iff h hy hi hv, decide_eq_false c]; rfl
theorem alk_f {E : Nat → Nat → Int32} {n y i : Nat} {v : Int32} (h : Wf E n) (hy : y < 8) (hi : i < 8) (hv : inB v 0 999 = true) (c : v < ab (E 5 i - E 5 y)) : alkB E y v i = false := by rw [alk_iff h hy hi hv, decide_eq_true c]; rfl
/-! what grows without some: the set lies in a place that the year doesn't touch -/
theorem up_comm (E : Nat → Nat → Int32) {r r' : Nat} (h : Nat.beq r r' = false) (i j : Nat) (v w : Int32) : up (up E r i v) r' j w = up (up E r' j w) r i v := by
  have hne : r ≠ r' := fun e => by rw [e, Nat.beq_refl] at h; cases h
  funext q
  by_cases h1 : q = r
  · subst h1
    rw [up_n _ _ _ _ (beq_f hne), up_s, up_s, up_n _ _ _ _ (beq_f hne)]
  · by_cases h2 : q = r'
    · subst h2
      rw [up_s, up_n _ _ _ _ (beq_f h1), up_n _ _ _ _ (beq_f h1), up_s]
    · rw [up_n _ _ _ _ (beq_f h2), up_n _ _ _ _ (beq_f h1), up_n _ _ _ _ (beq_f h1), up_n _ _ _ _ (beq_f h2)]
theorem up_comm2 (E : Nat → Nat → Int32) (r : Nat) {i j : Nat} (h : i ≠ j) (v w : Int32) : up (up E r i v) r j w = up (up E r j w) r i v := by
  funext q
  by_cases h1 : q = r
  · subst h1
    rw [up_s, up_s, up_s, up_s]
    funext k
    unfold upd
    by_cases a : k = i
    · subst a; simp [h]
    · by_cases b : k = j
      · subst b; simp [a]
      · simp [a, b]
  · rw [up_n _ _ _ _ (beq_f h1), up_n _ _ _ _ (beq_f h1), up_n _ _ _ _ (beq_f h1), up_n _ _ _ _ (beq_f h1)]
theorem grow_94 (E : Nat → Nat → Int32) (s : Int32) (i : Nat) : growS (up E 9 4 s) i = up (growS E i) 9 4 s := by
  show up (up (up E 9 4 s) 0 _ _) 5 i _ = up (up (up E 0 _ _) 5 i _) 9 4 s
  rw [up_comm E (r := 9) (r' := 0) rfl, up_comm _ (r := 9) (r' := 5) rfl]
  rfl
theorem growN_94 (u : Int32) (E : Nat → Nat → Int32) (s : Int32) : ∀ k, growN u (up E 9 4 s) k = up (growN u E k) 9 4 s
  | 0 => rfl
  | k + 1 => by
    unfold growN
    rw [growN_94 u E s k]
    show (if (toldS (growN u E k) k || upB u k) = true then up (growN u E k) 9 4 s else growS (up (growN u E k) 9 4 s) k) = _
    split
    · rfl
    · exact grow_94 _ _ _
theorem show_94 (E : Nat → Nat → Int32) (s : Int32) (i : Nat) : showS (up E 9 4 s) i = up (showS E i) 9 4 s := by
  show up (up (up E 9 4 s) 7 i _) 4 i _ = up (up (up E 7 i _) 4 i _) 9 4 s
  rw [up_comm E (r := 9) (r' := 7) rfl, up_comm _ (r := 9) (r' := 4) rfl]
  rfl
theorem ops_94 (E : Nat → Nat → Int32) (s : Int32) (i : Nat) : opsS (up E 9 4 s) i = opsS E i := by
  have h : (up E 9 4 s) 9 2 = E 9 2 := (congrFun (up_s _ _ _ _) 2).trans (upd_n _ _ (by decide))
  show (!toldS E i && (!hiddenS E i && opensS (up E 9 4 s) i)) = (!toldS E i && (!hiddenS E i && opensS E i))
  have h2 : opensS (up E 9 4 s) i = opensS E i := by
    unfold opensS
    rw [h]
    rfl
  rw [h2]
theorem showN_94 (E : Nat → Nat → Int32) (s : Int32) : ∀ k, showN (up E 9 4 s) k = up (showN E k) 9 4 s
  | 0 => rfl
  | k + 1 => by
    unfold showN
    rw [showN_94 E s k, ops_94]
    split
    · exact show_94 _ _ _
    · rfl
theorem ageN_94 (E : Nat → Nat → Int32) (s : Int32) : ∀ k, ageN (up E 9 4 s) k = up (ageN E k) 9 4 s
  | 0 => rfl
  | k + 1 => by
    show up (ageN (up E 9 4 s) k) 6 k (mn 999 (ageN (up E 9 4 s) k 6 k + 1)) = up (up (ageN E k) 6 k (mn 999 (ageN E k 6 k + 1))) 9 4 s
    rw [ageN_94 E s k, up_comm _ (r := 9) (r' := 6) rfl]
    rfl
theorem nacN_94 (E : Nat → Nat → Int32) (s : Int32) : ∀ k, nacN (up E 9 4 s) k = up (nacN E k) 9 4 s
  | 0 => rfl
  | k + 1 => by
    show up (nacN (up E 9 4 s) k) 0 k (mn 999 (nacN (up E 9 4 s) k 0 k + nacN (up E 9 4 s) k 9 1)) = up (up (nacN E k) 0 k (mn 999 (nacN E k 0 k + nacN E k 9 1))) 9 4 s
    rw [nacN_94 E s k, up_comm _ (r := 9) (r' := 0) rfl]
    have h : (up (nacN E k) 9 4 s) 9 1 = nacN E k 9 1 := (congrFun (up_s _ _ _ _) 1).trans (upd_n _ _ (by decide))
    rw [h]
    rfl
theorem year_94 (n : Nat) (u : Int32) (E : Nat → Nat → Int32) (s : Int32) : yearS n u (up E 9 4 s) = up (yearS n u E) 9 4 s := by
  have h0 : yr0 n u (up E 9 4 s) = up (yr0 n u E) 9 4 s := by
    unfold yr0
    rw [growN_94, showN_94, ageN_94, nacN_94]
  have h : (up (yr0 n u E) 9 4 s) 9 2 = yr0 n u E 9 2 := (congrFun (up_s _ _ _ _) 2).trans (upd_n _ _ (by decide))
  unfold yearS
  rw [h0, h, up_comm2 _ 9 (by decide : (4 : Nat) ≠ 2)]
theorem years_94 (n : Nat) (u : Int32) (E : Nat → Nat → Int32) (s : Int32) : ∀ k, yearsS n u (up E 9 4 s) k = up (yearsS n u E k) 9 4 s
  | 0 => rfl
  | k + 1 => by
    show yearS n u (yearsS n u (up E 9 4 s) k) = _
    rw [years_94 n u E s k, year_94]
    rfl
theorem kX0_passYearsU (l : Launch) (D : va_G) (cI cS : ClassId) (a : Nat → Nat) (E : Nat → Nat → Int32) (s : Int32) (n : Nat) (hW : Wf E n) (k : Nat) (hk : k ≤ 1000) : vDet l D (vT cI cS) yX0_passYears cX0_passYears 3 none 4 82 (eW cI a) [.ref (a 0), .int (nI k)] (up E 9 4 s) none (up (yearsS n s E k) 9 4 s) := by
  have e := kX0_passYears l D cI cS a (up E 9 4 s) n (Wf_up9 hW (by decide)) k hk
  have h : (up E 9 4 s) 9 4 = s := (congrFun (up_s _ _ _ _) 4).trans (upd_s _ _ _)
  rw [h, years_94] at e
  exact e
/-! the best set -/
def btS (r : Int32) : Int32 := if r < 0 then 0 else r
def fwS (r : Int32) : Nat := if r < 0 then 9 else popc (ix r)
theorem fwS_le (r : Int32) : fwS r ≤ 9 := by
  have := popc_le (ix r)
  unfold fwS
  split <;> omega
theorem rm_cl (P : Nat → Bool) (y : Nat) (r : Int32) (k : Nat) : rmT P y r k = ((!(upB (nI k) y)) && (decide (popc k < fwS r) && P k)) := by
  have := popc_le k
  unfold rmT fwS
  by_cases h : r < 0
  · rw [if_pos h, decide_eq_true h, decide_eq_true (by omega : popc k < 9)]; rfl
  · rw [if_neg h, decide_eq_false h]; rfl
theorem rm_no {r : Int32} (h : 8 < fwS r) : r < 0 := by
  unfold fwS at h
  split at h
  · assumption
  · have := popc_le (ix r); omega
theorem rm_yes {r : Int32} (h : ¬ 8 < fwS r) : ¬ r < 0 := by
  intro h2
  rw [fwS, if_pos h2] at h
  omega
theorem lt7 {x : Int32} : x < 7 ↔ ¬ 6 < x := by
  rw [lt_i, lt_i]
  have e5 : (6 : Int32).toInt = 6 := by decide
  have e6 : (7 : Int32).toInt = 7 := by decide
  omega
theorem stm_94 {n : Nat} {E : Nat → Nat → Int32} (h : E 9 4 = 0) : stmS n E 9 4 = 0 := by
  unfold stmS
  apply yearS_94
  have h1 : ∀ x y, (up (up E 9 3 x) 9 3 y) 9 4 = 0 := fun x y => (congrFun (up_s _ _ _ _) 4).trans ((upd_n _ _ (by decide)).trans ((congrFun (up_s _ _ _ _) 4).trans ((upd_n _ _ (by decide)).trans h)))
  split
  · rw [up_n _ 3 _ _ (r' := 9) rfl]; exact h1 (drwZ (E 9 3)) (drwZ (drwZ (E 9 3)))
  · exact h1 (drwZ (E 9 3)) (drwZ (drwZ (E 9 3)))
theorem stms_94 {n : Nat} {E : Nat → Nat → Int32} (h : E 9 4 = 0) : ∀ k, stmsS n E k 9 4 = 0
  | 0 => h
  | k + 1 => stm_94 (stms_94 h k)
def odC (o : Nat) : Int32 × Int32 := if rem (nI o) 2 = 0 then (if rem (nI o / 2) 2 = 0 then (if rem (nI o / 2 / 2) 2 = 0 then (nI o / 2 / 2 / 2, 1) else (nI o / 2 / 2, 2)) else (nI o / 2, 4)) else (nI o, 8)
theorem od_tab : ∀ o, o < 9 → ∀ k, k < 21 → pwL (odC o).1.toInt64 k = (rdL 62 (pwL (nI o).toInt64 k) (bel (pwL (nI o).toInt64 k) (pwL 8 k))).1 ∧ pwL (odC o).2.toInt64 k = (rdL 62 (pwL (nI o).toInt64 k) (bel (pwL (nI o).toInt64 k) (pwL 8 k))).2 := by decide +kernel
theorem z_n {E : Nat → Nat → Int32} {r i : Nat} {v : Int32} (hr : Nat.beq 9 r = false) (h : E 9 4 = 0) : up E r i v 9 4 = 0 := (congrFun (up_n _ _ _ _ hr) 4).trans h
theorem z_9 {E : Nat → Nat → Int32} {i : Nat} {v : Int32} (hi : 4 ≠ i) (h : E 9 4 = 0) : up E 9 i v 9 4 = 0 := (congrFun (up_s _ _ _ _) 4).trans ((upd_n _ _ hi).trans h)
