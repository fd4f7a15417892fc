/-! ===== counts of sets; more of the reference ===== -/
def popc (x : Nat) : Nat := x % 2 + x / 2 % 2 + x / 4 % 2 + x / 8 % 2 + x / 16 % 2 + x / 32 % 2 + x / 64 % 2 + x / 128 % 2
set_option maxRecDepth 20000 in
theorem pop_tab : ∀ l, l < 256 → l ≠ 0 → nI l &&& (nI l - 1) = nI (l &&& (l - 1)) ∧ (l &&& (l - 1)) < l ∧ popc (l &&& (l - 1)) + 1 = popc l := by decide +kernel
def setN (p : Nat → Bool) : Nat → Nat
  | 0 => 0
  | k + 1 => if p k = true then setN p k + 2 ^ k else setN p k
set_option maxRecDepth 20000 in
theorem or_tab : ∀ k, k < 8 → ∀ a, a < 2 ^ k → nI a ||| (1 <<< (nI k &&& 31)) = nI (a + 2 ^ k) := by decide +kernel
theorem setN_lt (p : Nat → Bool) : ∀ k, setN p k < 2 ^ k
  | 0 => Nat.one_pos
  | k + 1 => by
    have := setN_lt p k
    unfold setN
    rw [Nat.pow_succ]
    split <;> omega
theorem setS_N (p : Nat → Bool) : ∀ k, k ≤ 8 → setS p k = nI (setN p k)
  | 0, _ => rfl
  | k + 1, h => by
    unfold setS setN
    rw [setS_N p k (by omega)]
    split
    · exact or_tab k (by omega) _ (setN_lt p k)
    · rfl
theorem setN_256 (p : Nat → Bool) {k : Nat} (h : k ≤ 8) : setN p k < 256 := Nat.lt_of_lt_of_le (setN_lt p k) (Nat.pow_le_pow_right (by decide) h)
theorem Wf.spot {E : Nat → Nat → Int32} {n k : Nat} (h : Wf E n) (hk : k < 10) : E 8 k < 0 ↔ E 8 k = -1 := by
  rcases h.2.2.2.2.2 k hk with e | ⟨j, hj, e⟩
  · rw [e]; decide
  · rw [e]
    have hn := h.1
    constructor
    · intro h2; exact absurd h2 (nI_pos (by omega))
    · intro h2
      exfalso
      have := congrArg Int32.toInt h2
      rw [nI_toInt (by omega)] at this
      have e1 : (-1 : Int32).toInt = -1 := by decide
      omega
def countS (E Q : Nat → Nat → Int32) (n : Nat) (w : Int32) : Int32 := if w = 0 then E 9 2 else if w = 1 then nI n else if w = 2 then nI (popc (setN (toldS E) n)) else if w = 3 then sumS (E 5) n else if w = 4 then sumS (E 7) n else if w = 5 then Q 6 1 else if w = 6 then E 9 3 else if w = 7 then cntS (fun k => !decide (E 8 k = -1)) 10 else (-1000001)
def sel8 (w : Int32) : Bool := if w = 0 then true else if w = 1 then true else if w = 2 then true else if w = 3 then true else if w = 4 then true else if w = 5 then true else if w = 6 then true else if w = 7 then true else false
theorem st_t {w : Int32} (h : inB w (-1) 6 = true) : w + 1 = nI (ix (w + 1)) ∧ ix (w + 1) < 8 := by
  simp only [inB, Bool.and_eq_true, Bool.not_eq_true', decide_eq_false_iff_not, lt_i] at h
  have e0 : (-1 : Int32).toInt = -1 := by decide
  have e1 : (1 : Int32).toInt = 1 := by decide
  have e6 : (6 : Int32).toInt = 6 := by decide
  have hb : bd (w + 1) 7 := (bd_iff (by decide)).mpr (by rw [toInt_add (by omega) (by omega)]; omega)
  have := bd_ix hb (by decide)
  exact ⟨this.1, by omega⟩
def underB (own kd : Int32) : Bool := decide (kd = 0) || (decide (own = kd) || ((decide (kd = 2) && (decide (own = 3) || decide (own = 4))) || ((decide (kd = 3) && decide (own = 4)) || (decide (kd = 1) && decide (own = 6)))))
theorem spot_ix {E : Nat → Nat → Int32} {n k : Nat} (h : Wf E n) (hk : k < 10) (h0 : ¬ E 8 k = -1) : E 8 k = nI (ix (E 8 k)) ∧ ix (E 8 k) < n := by
  rcases h.2.2.2.2.2 k hk with e | ⟨j, hj, e⟩
  · exact absurd e h0
  · rw [e, ix_nI (by have := h.1; omega)]
    exact ⟨rfl, hj⟩
def asS (E : Nat → Nat → Int32) (s : Nat) (kd : Int32) : Int32 := if E 8 s = -1 then (-1000006) else if underB (E 2 (ix (E 8 s))) kd = true then E 8 s else (-1000003)
def asF (E : Nat → Nat → Int32) (s : Nat) (kd : Int32) (Q : Nat → Nat → Int32) : Nat → Nat → Int32 := if E 8 s = -1 then fndS Q 5 else if underB (E 2 (ix (E 8 s))) kd = true then Q else fndS Q 2
/-- the reference's sheets and tape are as they may be -/
def WfQ (Q : Nat → Nat → Int32) : Prop := (∀ t, t < 4 → (Q 2 t = -1 ∨ Q 2 t = 8 ∨ Q 2 t = 16 ∨ Q 2 t = 32) ∧ bd (Q 3 t) 40) ∧ bd (Q 6 1) 120 ∧ (∀ i, i < 120 → bd (Q 1 i) 255) ∧ (Q 6 0 = 0 ∨ Q 6 0 = 1)
theorem WfQ.size {Q : Nat → Nat → Int32} {t : Nat} (h : WfQ Q) (ht : t < 4) : Q 3 t = nI (ix (Q 3 t)) := (bd_ix (h.1 t ht).2 (by decide)).1
theorem WfQ.sizeL {Q : Nat → Nat → Int32} {t : Nat} (h : WfQ Q) (ht : t < 4) : ix (Q 3 t) ≤ 40 := (bd_ix (h.1 t ht).2 (by decide)).2
def wantS (Q : Nat → Nat → Int32) (t : Int32) : Int32 := if inB t 0 3 = true then (if Q 2 (ix t) < 0 then (-1000006) else 0) else (-1000001)
theorem want_t {Q : Nat → Nat → Int32} {t : Int32} (h : wantS Q t = 0) : inB t 0 3 = true ∧ ¬ Q 2 (ix t) < 0 := by
  unfold wantS at h
  split at h
  · rename_i h1
    split at h
    · exact absurd h (by decide)
    · rename_i h2; exact ⟨h1, h2⟩
  · exact absurd h (by decide)
theorem want_f {Q : Nat → Nat → Int32} {t : Int32} (h : ¬ wantS Q t = 0) : (inB t 0 3 = false ∧ wantS Q t = -1000001) ∨ (inB t 0 3 = true ∧ Q 2 (ix t) < 0 ∧ wantS Q t = -1000006) := by
  unfold wantS at h ⊢
  cases h1 : inB t 0 3 with
  | false => exact Or.inl ⟨rfl, rfl⟩
  | true =>
    rw [h1] at h
    by_cases h2 : Q 2 (ix t) < 0
    · exact Or.inr ⟨rfl, h2, by rw [if_pos rfl, if_pos h2]⟩
    · exact absurd (by rw [if_pos rfl, if_neg h2]) h
def ldE (E : Nat → Nat → Int32) (f : Nat → Int32) : Nat → Nat → Nat → Int32
  | 0 => E
  | k + 1 => up (ldE E f k) 0 k (f k)
theorem ldE_9 (E : Nat → Nat → Int32) (f : Nat → Int32) : ∀ k, ldE E f k 9 = E 9
  | 0 => rfl
  | k + 1 => ldE_9 E f k
theorem oyB_nI {k n : Nat} (hk : k < 2 ^ 31) (hn : n < 2 ^ 31) : oyB (nI k) n = decide (k < n) := by
  unfold oyB
  have h1 : ¬ nI k < 0 := nI_pos hk
  have h2 : (nI k < nI n) ↔ k < n := nI_ltI hk hn
  simp only [h1, h2, decide_false, Bool.not_false, Bool.true_and]
def numS (Q : Nat → Nat → Int32) (t : Nat) : Nat → Int32 := fun j => Q 4 (40 * t + j)
