theorem sk_t {T : Nat → Int32} {L i : Nat} (h : byS T L i = 32) : i < L ∧ sk T L i = sk T L (i + 1) := by
  unfold byS at h
  split at h
  · exact ⟨by assumption, sc_t (by assumption) (decide_eq_true h)⟩
  · exact absurd h (by decide)
theorem sk_f {T : Nat → Int32} {L i : Nat} (h : ¬ byS T L i = 32) : sk T L i = i := by
  unfold byS at h
  split at h
  · exact sc_f (decide_eq_false h)
  · exact sc_L (by omega)
theorem lt_t {T : Nat → Int32} {L i : Nat} (h : ltB (byS T L i) = true) : i < L ∧ sc (fun i => ltB (T i)) L i = sc (fun i => ltB (T i)) L (i + 1) := by
  unfold byS at h
  split at h
  · exact ⟨by assumption, sc_t (by assumption) h⟩
  · exact absurd h (by decide)
theorem lt_f {T : Nat → Int32} {L i : Nat} (h : ltB (byS T L i) = false) : sc (fun i => ltB (T i)) L i = i := by
  unfold byS at h
  split at h
  · exact sc_f h
  · exact sc_L (by omega)
theorem dg_t {T : Nat → Int32} {L i : Nat} (h : dgB (byS T L i) = true) : i < L ∧ sc (fun i => dgB (T i)) L i = sc (fun i => dgB (T i)) L (i + 1) := by
  unfold byS at h
  split at h
  · exact ⟨by assumption, sc_t (by assumption) h⟩
  · exact absurd h (by decide)
theorem dg_f {T : Nat → Int32} {L i : Nat} (h : dgB (byS T L i) = false) : sc (fun i => dgB (T i)) L i = i := by
  unfold byS at h
  split at h
  · exact sc_f h
  · exact sc_L (by omega)
theorem by_0 {T : Nat → Int32} {L f : Nat} (hT : ∀ i, i < 120 → bd (T i) 255) (hL : L ≤ 120) (h : byS T L f < 0) : tk T L f = 0 := by
  unfold byS at h
  split at h
  · have hb := (bd_iff (by decide)).mp (hT f (by omega))
    have e0 : (0 : Int32).toInt = 0 := by decide
    rw [lt_i] at h
    omega
  · rw [tk, if_neg (by omega)]
theorem by_1 {T : Nat → Int32} {L f : Nat} (h : ¬ byS T L f < 0) : f < L ∧ byS T L f = T f := by
  unfold byS at h ⊢
  split at h
  · exact ⟨by assumption, if_pos (by assumption)⟩
  · exact absurd (by decide) h
theorem tk_le (T : Nat → Int32) (L f : Nat) : tk T L f ≤ 4 := by
  unfold tk
  repeat' split
  all_goals omega
theorem en_ge (T : Nat → Int32) (L f : Nat) : f ≤ en T L f := by
  unfold en
  have h1 := sc_ge (fun i => ltB (T i)) L f
  have h2 := sc_ge (fun i => dgB (T i)) L f
  repeat' split
  all_goals omega
theorem tk_L {T : Nat → Int32} {L f : Nat} (h : ¬ tk T L f = 0) : f < L := by
  unfold tk at h
  split at h
  · assumption
  · exact absurd rfl h
theorem en_le {T : Nat → Int32} {L f : Nat} (hf : f ≤ L) : en T L f ≤ L := by
  unfold en
  have h1 := sc_le (fun i => ltB (T i)) hf
  have h2 := sc_le (fun i => dgB (T i)) hf
  split
  · exact h1
  · split
    · exact h2
    · split
      · exact hf
      · have := tk_L (by assumption : ¬ tk T L f = 0); omega
theorem nx_le {T : Nat → Int32} {L f : Nat} (hf : f ≤ L) : nx T L f ≤ L := sc_le _ (en_le hf)
theorem nx_ge (T : Nat → Int32) (L f : Nat) : f ≤ nx T L f := Nat.le_trans (en_ge T L f) (sc_ge _ _ _)
theorem en_gt {T : Nat → Int32} {L f : Nat} (h : ¬ tk T L f = 0) : f < en T L f := by
  have hl := tk_L h
  unfold en
  by_cases h1 : tk T L f = 1
  · rw [if_pos h1]
    have hb : ltB (T f) = true := by
      unfold tk at h1
      rw [if_pos hl] at h1
      split at h1
      · assumption
      · split at h1
        · cases h1
        · split at h1 <;> cases h1
    rw [sc_t (q := fun i => ltB (T i)) hl hb]
    exact sc_ge _ _ _
  · rw [if_neg h1]
    by_cases h2 : tk T L f = 2
    · rw [if_pos h2]
      have hb : dgB (T f) = true := by
        unfold tk at h2
        rw [if_pos hl] at h2
        split at h2
        · cases h2
        · split at h2
          · assumption
          · split at h2 <;> cases h2
      rw [sc_t (q := fun i => dgB (T i)) hl hb]
      exact sc_ge _ _ _
    · rw [if_neg h2, if_neg h]
      omega
theorem nx_gt {T : Nat → Int32} {L f : Nat} (h : ¬ tk T L f = 0) : f < nx T L f := Nat.lt_of_lt_of_le (en_gt h) (sc_ge _ _ _)
theorem tkF_j {Q : Nat → Nat → Int32} {L f e j : Nat} {v fa : Int32} (h1 : tk (Q 1) L f = j) (h2 : en (Q 1) L f = e) (h3 : nmV (Q 1) L f = v) : tkQ Q (nI j) (nI f) (nI e) v fa = tkF Q L f fa := by
  rw [tkF, h1, h2, h3]
def wd (T : Nat → Int32) (L f k : Nat) : Bool := decide (tk T L f = 1) && decide (en T L f - f = k)
def h3 (T : Nat → Int32) (L f i : Nat) (x y z : Int32) : Bool := decide (byS T L (f + i) = x) && (decide (byS T L (f + i + 1) = y) && decide (byS T L (f + i + 2) = z))
def w4 (T : Nat → Int32) (L f : Nat) (x y z w : Int32) : Bool := wd T L f 4 && (h3 T L f 0 x y z && h3 T L f 1 y z w)
def w5 (T : Nat → Int32) (L f : Nat) (x y z w v : Int32) : Bool := wd T L f 5 && (h3 T L f 0 x y z && h3 T L f 2 z w v)
def w6 (T : Nat → Int32) (L f : Nat) (x y z w v u : Int32) : Bool := wd T L f 6 && (h3 T L f 0 x y z && h3 T L f 3 w v u)
