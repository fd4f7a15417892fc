/-! ===== told layers, room ===== -/
def likB (f : Nat → Int32) (F : Nat → Nat → Int32) (y k : Nat) : Bool := decide (f k = -1) || decide (f k = F 5 y)
def likS (n : Nat) (E : Nat → Nat → Int32) (f : Nat → Int32) (y : Nat) : Nat → Bool
  | 0 => true
  | k + 1 => likS n E f y k && likB f (yearsS n 0 E k) y k
theorem likS_no {n : Nat} {E : Nat → Nat → Int32} {f : Nat → Int32} {y k : Nat} (h : likB f (yearsS n 0 E k) y k = false) : ∀ {m : Nat}, k < m → likS n E f y m = false
  | 0, hk => absurd hk (by omega)
  | m + 1, hk => by
    unfold likS
    by_cases e : k = m
    · subst e; rw [h, Bool.and_false]
    · rw [likS_no h (m := m) (by omega), Bool.false_and]
def cntU (P : Nat → Bool) : Nat → Nat
  | 0 => 0
  | v + 1 => if P (v + 1) = true then cntU P v + 1 else cntU P v
theorem cntU_le (P : Nat → Bool) : ∀ m, cntU P m ≤ m
  | 0 => Nat.le_refl 0
  | v + 1 => by
    have := cntU_le P v
    unfold cntU
    split <;> omega
theorem cntU_1 {P : Nat → Bool} {v : Nat} (h : P (v + 1) = true) : cntU P (v + 1) = cntU P v + 1 := by rw [cntU, if_pos h]
theorem cntU_0 {P : Nat → Bool} {v : Nat} (h : P (v + 1) = false) : cntU P (v + 1) = cntU P v := by rw [cntU, if_neg (by rw [h]; decide)]
def lfD (P : Nat → Bool) (x : Int32) : Nat → Int32
  | 0 => x
  | v + 1 => lfD P (if P (v + 1) = true then nI (v + 1) else x) v
theorem lfD_1 {P : Nat → Bool} {v : Nat} {x : Int32} (h : P (v + 1) = true) : lfD P x (v + 1) = lfD P (nI (v + 1)) v := by rw [lfD, if_pos h]
theorem lfD_0 {P : Nat → Bool} {v : Nat} {x : Int32} (h : P (v + 1) = false) : lfD P x (v + 1) = lfD P x v := by rw [lfD, if_neg (by rw [h]; decide)]
theorem lfD_eq (P : Nat → Bool) : ∀ (m : Nat) (x : Int32), lfD P x m = if fstN (fun k => P (k + 1)) m < m then nI (fstN (fun k => P (k + 1)) m + 1) else x
  | 0, x => rfl
  | m + 1, x => by
    rw [lfD, lfD_eq P m]
    have h := fstN_le (fun k => P (k + 1)) m
    by_cases h1 : fstN (fun k => P (k + 1)) m < m
    · have e : fstN (fun k => P (k + 1)) (m + 1) = fstN (fun k => P (k + 1)) m := by rw [fstN, if_pos h1]
      rw [if_pos h1, e, if_pos (by omega)]
    · by_cases h2 : P (m + 1) = true
      · have e : fstN (fun k => P (k + 1)) (m + 1) = m := by rw [fstN, if_neg h1, if_pos h2]
        rw [if_neg h1, if_pos h2, e, if_pos (by omega)]
      · have e : fstN (fun k => P (k + 1)) (m + 1) = m + 1 := by rw [fstN, if_neg h1, if_neg h2]
        rw [if_neg h1, if_neg h2, e, if_neg (by omega)]
theorem cntU_pos (P : Nat → Bool) : ∀ (m : Nat), 0 < cntU P m ↔ fstN (fun k => P (k + 1)) m < m
  | 0 => by show 0 < 0 ↔ 0 < 0; exact Iff.rfl
  | m + 1 => by
    have ih := cntU_pos P m
    have h := fstN_le (fun k => P (k + 1)) m
    by_cases h1 : fstN (fun k => P (k + 1)) m < m
    · have e : fstN (fun k => P (k + 1)) (m + 1) = fstN (fun k => P (k + 1)) m := by rw [fstN, if_pos h1]
      have h3 := ih.mpr h1
      rw [e, cntU]
      split <;> omega
    · by_cases h2 : P (m + 1) = true
      · have e : fstN (fun k => P (k + 1)) (m + 1) = m := by rw [fstN, if_neg h1, if_pos h2]
        rw [e, cntU, if_pos h2]
        omega
      · have e : fstN (fun k => P (k + 1)) (m + 1) = m + 1 := by rw [fstN, if_neg h1, if_neg h2]
        have h3 : ¬ 0 < cntU P m := fun h => h1 (ih.mp h)
        rw [e, cntU, if_neg h2]
        omega
theorem upQ_1 (Q : Nat → Nat → Int32) (x y z w : Int32) : up (up (up (up Q 6 2 x) 6 3 y) 6 2 z) 6 3 w = up (up Q 6 2 z) 6 3 w := by
  funext r
  unfold up
  cases hr : Nat.beq r 6 with
  | false => rfl
  | true =>
    have e := Nat.eq_of_beq_eq_true hr
    subst e
    funext j
    show upd (upd (upd (upd (Q 6) 2 x) 3 y) 2 z) 3 w j = upd (upd (Q 6) 2 z) 3 w j
    unfold upd
    by_cases h3 : j = 3 <;> by_cases h2 : j = 2 <;> simp [h2, h3]
theorem upQ_0 (Q : Nat → Nat → Int32) (x : Int32) : up Q 6 2 x = up (up Q 6 2 x) 6 3 (Q 6 3) := by
  have e : (up Q 6 2 x) 6 3 = Q 6 3 := by
    show upd (Q 6) 2 x 3 = Q 6 3
    exact upd_n _ _ (by decide)
  rw [← e, up_id]
def wfS (Q : Nat → Nat → Int32) (t y : Int32) (n : Nat) : Int32 := if wantS Q t = 0 then (if oyB y n = true then 0 else (-1000001)) else wantS Q t
theorem wf_t {Q : Nat → Nat → Int32} {t y : Int32} {n : Nat} (h : wfS Q t y n = 0) : inB t 0 3 = true ∧ (¬ Q 2 (ix t) < 0) ∧ oyB y n = true := by
  unfold wfS at h
  split at h
  · rename_i h1
    split at h
    · exact ⟨(want_t h1).1, (want_t h1).2, by assumption⟩
    · exact absurd h (by decide)
  · exact absurd h (by assumption)
theorem wf_f {Q : Nat → Nat → Int32} {t y : Int32} {n : Nat} (h : ¬ wfS Q t y n = 0) : (inB t 0 3 = false ∧ wfS Q t y n = -1000001) ∨ (inB t 0 3 = true ∧ Q 2 (ix t) < 0 ∧ wfS Q t y n = -1000006) ∨ (inB t 0 3 = true ∧ (¬ Q 2 (ix t) < 0) ∧ oyB y n = false ∧ wfS Q t y n = -1000001) := by
  by_cases h1 : wantS Q t = 0
  · obtain ⟨a, b⟩ := want_t h1
    refine Or.inr (Or.inr ⟨a, b, ?_, ?_⟩)
    · cases h2 : oyB y n with
      | false => rfl
      | true => exact absurd (by rw [wfS, if_pos h1, if_pos h2]) h
    · cases h2 : oyB y n with
      | false => rw [wfS, if_pos h1, h2]; rfl
      | true => exact absurd (by rw [wfS, if_pos h1, if_pos h2]) h
  · have e : wfS Q t y n = wantS Q t := by rw [wfS, if_neg h1]
    rcases want_f h1 with ⟨a, b⟩ | ⟨a, b, c⟩
    · exact Or.inl ⟨a, e.trans b⟩
    · exact Or.inr (Or.inl ⟨a, b, e.trans c⟩)
def rmT (P : Nat → Bool) (y : Nat) (r : Int32) (k : Nat) : Bool := (!(upB (nI k) y)) && ((decide (r < 0) || decide (popc k < popc (ix r))) && P k)
def rmS (P : Nat → Bool) (y : Nat) : Nat → Int32
  | 0 => -1
  | k + 1 => if rmT P y (rmS P y k) k = true then nI k else rmS P y k
theorem rmS_ix (P : Nat → Bool) (y : Nat) : ∀ k, k ≤ 256 → rmS P y k = -1 ∨ (∃ b, b < k ∧ rmS P y k = nI b)
  | 0, _ => Or.inl rfl
  | k + 1, hk => by
    unfold rmS
    split
    · exact Or.inr ⟨k, by omega, rfl⟩
    · rcases rmS_ix P y k (by omega) with h | ⟨b, hb, h⟩
      · exact Or.inl h
      · exact Or.inr ⟨b, by omega, h⟩
theorem rmS_nn {P : Nat → Bool} {y k : Nat} (hk : k ≤ 256) (h : ¬ rmS P y k < 0) : rmS P y k = nI (ix (rmS P y k)) ∧ ix (rmS P y k) < 256 := by
  rcases rmS_ix P y k hk with e | ⟨b, hb, e⟩
  · rw [e] at h; exact absurd (by decide) h
  · rw [e, ix_nI (by omega)]
    exact ⟨rfl, by omega⟩
theorem rmS_neg {P : Nat → Bool} {y k : Nat} (hk : k ≤ 256) (h : rmS P y k < 0) : rmS P y k = -1 := by
  rcases rmS_ix P y k hk with e | ⟨b, hb, e⟩
  · exact e
  · rw [e] at h; exact absurd h (nI_pos (by omega))
theorem sh_bit0 (u : Int32) {i : Nat} (hi : i < 32) : ((u >>> (nI i &&& 31)) &&& 1 = 0) ↔ upB u i = false := by
  have h := sh_bit u hi
  rw [bt1] at h
  cases hb : upB u i with
  | false => rw [hb] at h; constructor; (intro _; rfl); intro _; exact Classical.byContradiction (fun e => absurd (h.mp e) (by decide))
  | true => rw [hb] at h; constructor; (intro e; exact absurd e (h.mpr rfl)); intro e; cases e
theorem shl_n : ∀ n, n < 9 → (1 : Int32) <<< (nI n &&& 31) = nI (2 ^ n) := by decide
theorem pow_256 {n : Nat} (h : n ≤ 8) : 2 ^ n ≤ 256 := Nat.pow_le_pow_right (n := 2) (by decide) h
theorem qR_fnd {Q S : Nat → Nat → Int32} {x y : Int32} {w : Nat} (h : fndS (up (up Q 6 2 x) 6 3 y) w = S) : qR S (fndS Q w) := by
  subst h
  exact ⟨rfl, rfl, rfl, rfl, rfl, rfl, rfl⟩
theorem popc_le (x : Nat) : popc x ≤ 8 := by
  unfold popc
  omega
