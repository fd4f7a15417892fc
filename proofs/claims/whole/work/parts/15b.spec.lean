/-! ===== sheets of the reference ===== -/
def bitB (x : Int32) : Bool := if x = 0 then true else if x = 8 then true else if x = 16 then true else if x = 32 then true else false
def zS (Q : Nat → Nat → Int32) (t : Nat) : Nat → Nat → Nat → Int32
  | 0 => Q
  | k + 1 => up (zS Q t k) 4 (40 * t + k) 0
theorem zS_n (Q : Nat → Nat → Int32) (t : Nat) {r : Nat} (hr : Nat.beq r 4 = false) : ∀ k, zS Q t k r = Q r
  | 0 => rfl
  | k + 1 => by
    show up (zS Q t k) 4 (40 * t + k) 0 r = Q r
    rw [up_n _ _ _ _ hr, zS_n Q t hr k]
def shtQ (Q : Nat → Nat → Int32) (t : Nat) (bits m : Int32) : Nat → Nat → Int32 := zS (up (up Q 2 t (if bits = 0 then -1 else bits)) 3 t (if bits = 0 then 0 else m)) t 40
def cutS (bits v : Int32) : Int32 := if bits = 8 then v.toInt8.toInt32 else if bits = 16 then v.toInt16.toInt32 else v
theorem inQ_t {Q : Nat → Nat → Int32} (hQ : WfQ Q) {t : Nat} (ht : t < 4) {i : Int32} (h : inB i 0 (Q 3 t - 1) = true) : i = nI (ix i) ∧ ix i < ix (Q 3 t) := by
  have hs := hQ.size ht
  have hl := hQ.sizeL ht
  have h3 : (Q 3 t).toInt = ix (Q 3 t) := by
    have := nI_toInt (n := ix (Q 3 t)) (by omega)
    rw [← hs] at this
    exact this
  have e1 : (1 : Int32).toInt = 1 := by decide
  have e0 : (0 : Int32).toInt = 0 := by decide
  have hm : (Q 3 t - 1).toInt = (Q 3 t).toInt - 1 := by rw [toInt_sub (by omega) (by omega), e1]
  simp only [inB, Bool.and_eq_true, Bool.not_eq_true', decide_eq_false_iff_not, lt_i] at h
  obtain ⟨k, hk, rfl⟩ := (bd_iff (m := 40) (by decide)).mpr (show 0 ≤ i.toInt ∧ i.toInt ≤ (40 : Nat) by omega)
  have ek : (nI k).toInt = k := nI_toInt (by omega)
  rw [ix_nI (by omega)]
  exact ⟨rfl, by omega⟩
def copB (Q : Nat → Nat → Int32) (t : Nat) (p : Int32) (u : Nat) (q c : Int32) : Bool := if p < 0 then false else if q < 0 then false else if c < 0 then false else if Q 3 t - p < c then false else if Q 3 u - q < c then false else true
theorem cop_t {x p c : Int32} {m : Nat} (hx : bd x m) (hm : m ≤ 40) (h1 : ¬ p < 0) (h2 : ¬ c < 0) (h3 : ¬ x - p < c) : p = nI (ix p) ∧ c = nI (ix c) ∧ ix p + ix c ≤ ix x := by
  have hx' := (bd_iff (by omega)).mp hx
  have e0 : (0 : Int32).toInt = 0 := by decide
  have lp := Int32.toInt_lt p
  rw [lt_i, e0] at h1 h2
  rw [lt_i, toInt_sub (by omega) (by omega)] at h3
  obtain ⟨k, hk, rfl⟩ := (bd_iff (m := 40) (by decide)).mpr (show 0 ≤ p.toInt ∧ p.toInt ≤ (40 : Nat) by omega)
  obtain ⟨j, hj, rfl⟩ := (bd_iff (m := 40) (by decide)).mpr (show 0 ≤ c.toInt ∧ c.toInt ≤ (40 : Nat) by omega)
  obtain ⟨i, hi, rfl⟩ := hx
  have e1 : (nI k).toInt = k := nI_toInt (by omega)
  have e2 : (nI j).toInt = j := nI_toInt (by omega)
  have e3 : (nI i).toInt = i := nI_toInt (by omega)
  rw [ix_nI (by omega), ix_nI (by omega), ix_nI (by omega)]
  exact ⟨rfl, rfl, by omega⟩
def mvR (f : Nat → Int32) (a b lo hi : Nat) : Nat → Int32 := fun j => if b + lo ≤ j ∧ j < b + hi then f (a + (j - b)) else f j
def mvQ (Q : Nat → Nat → Int32) (a b lo hi : Nat) : Nat → Nat → Int32 := fun r => cond (Nat.beq r 4) (mvR (Q 4) a b lo hi) (Q r)
theorem mvQ_0 (Q : Nat → Nat → Int32) (a b lo : Nat) : mvQ Q a b lo lo = Q := by
  funext r
  unfold mvQ
  cases h : Nat.beq r 4 with
  | false => rfl
  | true =>
    have e := Nat.eq_of_beq_eq_true h
    subst e
    funext j
    show mvR (Q 4) a b lo lo j = Q 4 j
    unfold mvR
    rw [if_neg (by omega)]
theorem mvQ_up (Q : Nat → Nat → Int32) (a b lo hi : Nat) (j : Nat) (v : Int32) (lo' hi' : Nat) (h : upd (mvR (Q 4) a b lo hi) j v = mvR (Q 4) a b lo' hi') : up (mvQ Q a b lo hi) 4 j v = mvQ Q a b lo' hi' := by
  funext r
  unfold up mvQ
  cases hr : Nat.beq r 4 with
  | true =>
    have e := Nat.eq_of_beq_eq_true hr
    subst e
    exact h
  | false => rfl
theorem mvR_f (f : Nat → Int32) {a b : Nat} (h : b ≤ a) (k : Nat) : upd (mvR f a b 0 k) (b + k) (mvR f a b 0 k (a + k)) = mvR f a b 0 (k + 1) := by
  funext j
  unfold upd mvR
  by_cases e : j = b + k
  · subst e
    rw [if_pos rfl, if_neg (by omega), if_pos (by omega)]
    congr 1
    omega
  · rw [if_neg e]
    by_cases h2 : b + 0 ≤ j ∧ j < b + k
    · rw [if_pos h2, if_pos (by omega)]
    · rw [if_neg h2, if_neg (by omega)]
theorem mvR_b (f : Nat → Int32) {a b : Nat} (h : a < b) (i n : Nat) (hi : i + 1 ≤ n) : upd (mvR f a b (i + 1) n) (b + i) (mvR f a b (i + 1) n (a + i)) = mvR f a b i n := by
  funext j
  unfold upd mvR
  by_cases e : j = b + i
  · subst e
    rw [if_pos rfl, if_neg (by omega), if_pos (by omega)]
    congr 1
    omega
  · rw [if_neg e]
    by_cases h2 : b + (i + 1) ≤ j ∧ j < b + n
    · rw [if_pos h2, if_pos (by omega)]
    · rw [if_neg h2, if_neg (by omega)]
theorem nI_sub1 {c k : Nat} (h : k < c) (hc : c < 2 ^ 31) : nI c - 1 - nI k = nI (c - 1 - k) := by
  have e1 : (1 : Int32).toInt = 1 := by decide
  have a := nI_toInt (n := c) (by omega)
  have b := nI_toInt (n := k) (by omega)
  have d := nI_toInt (n := c - 1 - k) (by omega)
  apply Int32.toInt_inj.mp
  have s1 : (nI c - 1).toInt = (c : Int) - 1 := by rw [toInt_sub (by omega) (by omega)]; omega
  rw [toInt_sub (by omega) (by omega)]
  omega
