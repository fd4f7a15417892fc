/-! ===== the class's tokens ===== -/
theorem allN_f {p : Nat → Bool} {k : Nat} : ∀ {m : Nat}, k < m → p k = false → allN p m = false
  | 0, h, _ => absurd h (by omega)
  | m + 1, h, hp => by
    unfold allN
    by_cases e : k = m
    · subst e; rw [hp, Bool.and_false]
    · rw [allN_f (m := m) (by omega) hp, Bool.false_and]
theorem dg_lt {x : Int32} (h : dgB x = true) : ltB x = false := by
  unfold dgB inB at h
  unfold ltB inB
  simp only [Bool.and_eq_true, Bool.not_eq_true', decide_eq_false_iff_not, lt_i] at h
  have e1 : (57 : Int32).toInt = 57 := by decide
  have e2 : (97 : Int32).toInt = 97 := by decide
  have c : x < 97 := by rw [lt_i]; omega
  rw [decide_eq_true c]
  rfl
theorem tk_1 {T : Nat → Int32} {L f : Nat} (hf : f < L) (h : ltB (T f) = true) : tk T L f = 1 := by rw [tk, if_pos hf, if_pos h]
theorem tk_2 {T : Nat → Int32} {L f : Nat} (hf : f < L) (h : dgB (T f) = true) : tk T L f = 2 := by
  rw [tk, if_pos hf, if_neg (by rw [dg_lt h]; decide), if_pos h]
theorem en_ltB {T : Nat → Int32} {L f : Nat} (hf : f < L) (h : ltB (T f) = true) : en T L f = sc (fun i => ltB (T i)) L f := by rw [en, if_pos (tk_1 hf h)]
theorem en_dgB {T : Nat → Int32} {L f : Nat} (hf : f < L) (h : dgB (T f) = true) : en T L f = sc (fun i => dgB (T i)) L f := by rw [en, if_neg (by rw [tk_2 hf h]; decide), if_pos (tk_2 hf h)]
theorem tk_o {T : Nat → Int32} {L f : Nat} (hf : f < L) (h1 : ltB (T f) = false) (h2 : dgB (T f) = false) : tk T L f = 3 ∨ tk T L f = 4 := by
  rw [tk, if_pos hf, if_neg (by rw [h1]; decide), if_neg (by rw [h2]; decide)]
  split
  · exact Or.inl rfl
  · exact Or.inr rfl
theorem en_o {T : Nat → Int32} {L f : Nat} (hf : f < L) (h1 : ltB (T f) = false) (h2 : dgB (T f) = false) : en T L f = f + 1 := by
  have h := tk_o hf h1 h2
  rw [en, if_neg (by omega), if_neg (by omega), if_neg (by omega)]
theorem tk_nz {T : Nat → Int32} {L f : Nat} (hf : f < L) : ¬ tk T L f = 0 := by
  cases h1 : ltB (T f) with
  | true => rw [tk_1 hf h1]; decide
  | false =>
    cases h2 : dgB (T f) with
    | true => rw [tk_2 hf h2]; decide
    | false => have := tk_o hf h1 h2; omega
theorem sc_in (q : Nat → Bool) (L : Nat) : ∀ (m p : Nat), L ≤ p + m → ∀ i, p ≤ i → i < sc q L p → q i = true
  | 0, p, hm, i, h1, h2 => by rw [sc_L (by omega)] at h2; omega
  | m + 1, p, hm, i, h1, h2 => by
    by_cases hp : p < L
    · cases hq : q p with
      | false => rw [sc_f hq] at h2; omega
      | true =>
        by_cases e : i = p
        · subst e; exact hq
        · rw [sc_t hp hq] at h2
          exact sc_in q L m (p + 1) (by omega) i (by omega) h2
    · rw [sc_L (by omega)] at h2; omega
def nuC (T : Nat → Int32) (f : Nat) : Nat → Int32
  | 0 => 0
  | k + 1 => mn 1000 (nuC T f k * 10 + T (f + k) - 48)
def nvC (T : Nat → Int32) (L f : Nat) : Int32 := if tk T L f = 2 then nuC T f (en T L f - f) else 0
theorem nu_2 {T : Nat → Int32} {L f k : Nat} (hf : f < L) (h : k = 0 ∨ tk T L f = 2) (hd : dgB (T (f + k)) = true) : tk T L f = 2 := by
  rcases h with rfl | h
  · exact tk_2 hf hd
  · exact h
theorem nv_e {T : Nat → Int32} {L f k : Nat} (h : k = 0 ∨ tk T L f = 2) (hf : f < L) (he : f + k = en T L f) : nuC T f k = nvC T L f := by
  have hg : k = 0 → tk T L f = 2 := by
    intro hk
    subst hk
    have := en_gt (T := T) (L := L) (f := f) (tk_nz hf)
    omega
  have h2 : tk T L f = 2 := by
    rcases h with h | h
    · exact hg h
    · exact h
  rw [nvC, if_pos h2, ← he]
  congr 1
  omega
theorem nv_f {T : Nat → Int32} {L f k : Nat} (h : k = 0 ∨ tk T L f = 2) (hf : f < L) (he : f + k < en T L f) (hd : dgB (T (f + k)) = false) : nuC T f k = nvC T L f := by
  by_cases h2 : tk T L f = 2
  · exfalso
    have e : en T L f = sc (fun i => dgB (T i)) L f := by rw [en, if_neg (by omega), if_pos h2]
    rw [e] at he
    have := sc_in (fun i => dgB (T i)) L L f (by omega) (f + k) (by omega) he
    rw [show dgB (T (f + k)) = true from this] at hd
    cases hd
  · rcases h with rfl | h
    · rw [nvC, if_neg h2]; rfl
    · exact absurd h h2
theorem so_14 {T : Nat → Int32} {L f : Nat} (hf : f < L) (h : dgB (T f) = true) : so T L f = 14 := by
  rw [so, tk_2 hf h]
  rfl
theorem so_15 {T : Nat → Int32} {L f : Nat} (hf : f < L) (h : T f = 59) : so T L f = 15 := by
  have h1 : ltB (T f) = false := by rw [h]; decide
  have h2 : dgB (T f) = false := by rw [h]; decide
  have h3 : tk T L f = 3 := by rw [tk, if_pos hf, if_neg (by rw [h1]; decide), if_neg (by rw [h2]; decide), if_pos h]
  rw [so, h3]
  rfl
theorem tk_14 {T : Nat → Int32} {L f : Nat} (hf : f < L) (h1 : dgB (T f) = false) (h2 : ¬ T f = 59) : tk T L f = 1 ∨ tk T L f = 4 := by
  cases h : ltB (T f) with
  | true => exact Or.inl (tk_1 hf h)
  | false =>
    refine Or.inr ?_
    rw [tk, if_pos hf, if_neg (by rw [h]; decide), if_neg (by rw [h1]; decide), if_neg h2]
theorem so_w {T : Nat → Int32} {L f w : Nat} (hf : f < L) (h1 : dgB (T f) = false) (h2 : ¬ T f = 59) (hn : ∀ j, j < w → tx T j f (en T L f) = false) (hw : tx T w f (en T L f) = true) (hw2 : w < 14) : so T L f = w := by
  have h := tk_14 hf h1 h2
  have e : fstN (fun w => tx T w f (en T L f)) 14 = w := fstN_eq hn hw hw2
  rw [so, if_neg (by omega), if_neg (by omega), if_neg (by omega), e, if_pos hw2]
theorem so_17 {T : Nat → Int32} {L f : Nat} (hf : f < L) (h1 : dgB (T f) = false) (h2 : ¬ T f = 59) (hn : ∀ j, j < 14 → tx T j f (en T L f) = false) : so T L f = 17 := by
  have h := tk_14 hf h1 h2
  have e : fstN (fun w => tx T w f (en T L f)) 14 = 14 := fstN_no hn
  rw [so, if_neg (by omega), if_neg (by omega), if_neg (by omega), e]
  rfl
/-- whether the byte at p belongs to the token of the one ahead of it -/
def tgB (T : Nat → Int32) (L p : Nat) : Bool := if p < 1 ∨ L ≤ p then false else (ltB (T (p - 1)) && ltB (T p)) || (dgB (T (p - 1)) && dgB (T p))
theorem tg_s {T : Nat → Int32} {L p : Nat} (hp : p + 1 < L) : tgB T L (p + 1) = ((ltB (T p) && ltB (T (p + 1))) || (dgB (T p) && dgB (T (p + 1)))) := by
  rw [tgB, if_neg (by omega)]
  rfl
theorem lt_dg {x : Int32} (h : ltB x = true) : dgB x = false := by
  cases h2 : dgB x with
  | false => rfl
  | true =>
    rw [dg_lt h2] at h
    cases h
theorem sc_lt (T : Nat → Int32) (L : Nat) : ∀ (m p : Nat), L ≤ p + m → ltB (T p) = true → sc (fun i => ltB (T i)) L (p + 1) = sc (fun i => tgB T L i) L (p + 1)
  | 0, p, hm, h => by rw [sc_L (by omega), sc_L (by omega)]
  | m + 1, p, hm, h => by
    by_cases hp : p + 1 < L
    · have e : tgB T L (p + 1) = ltB (T (p + 1)) := by rw [tg_s hp, h, lt_dg h, Bool.true_and, Bool.false_and, Bool.or_false]
      cases hq : ltB (T (p + 1)) with
      | false => rw [sc_f (q := fun i => ltB (T i)) hq, sc_f (q := fun i => tgB T L i) (e.trans hq)]
      | true =>
        rw [sc_t (q := fun i => ltB (T i)) hp hq, sc_t (q := fun i => tgB T L i) hp (e.trans hq)]
        exact sc_lt T L m (p + 1) (by omega) hq
    · rw [sc_L (by omega), sc_L (by omega)]
theorem sc_dg (T : Nat → Int32) (L : Nat) : ∀ (m p : Nat), L ≤ p + m → dgB (T p) = true → sc (fun i => dgB (T i)) L (p + 1) = sc (fun i => tgB T L i) L (p + 1)
  | 0, p, hm, h => by rw [sc_L (by omega), sc_L (by omega)]
  | m + 1, p, hm, h => by
    by_cases hp : p + 1 < L
    · have e : tgB T L (p + 1) = dgB (T (p + 1)) := by rw [tg_s hp, h, dg_lt h, Bool.true_and, Bool.false_and, Bool.false_or]
      cases hq : dgB (T (p + 1)) with
      | false => rw [sc_f (q := fun i => dgB (T i)) hq, sc_f (q := fun i => tgB T L i) (e.trans hq)]
      | true =>
        rw [sc_t (q := fun i => dgB (T i)) hp hq, sc_t (q := fun i => tgB T L i) hp (e.trans hq)]
        exact sc_dg T L m (p + 1) (by omega) hq
    · rw [sc_L (by omega), sc_L (by omega)]
/-- a token's end, found byte by byte -/
theorem en_g {T : Nat → Int32} {L f : Nat} (hf : f < L) : en T L f = sc (fun i => tgB T L i) L (f + 1) := by
  cases h1 : ltB (T f) with
  | true =>
    rw [en_ltB hf h1, sc_t (q := fun i => ltB (T i)) hf h1]
    exact sc_lt T L L f (by omega) h1
  | false =>
    cases h2 : dgB (T f) with
    | true =>
      rw [en_dgB hf h2, sc_t (q := fun i => dgB (T i)) hf h2]
      exact sc_dg T L L f (by omega) h2
    | false =>
      rw [en_o hf h1 h2]
      by_cases hp : f + 1 < L
      · exact (sc_f (q := fun i => tgB T L i) ((tg_s hp).trans (by rw [h1, h2]; rfl))).symm
      · exact (sc_L (by omega)).symm
