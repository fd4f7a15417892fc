/-! ===== rows in order ===== -/
def rowQ (Q : Nat → Nat → Int32) (g : Nat → Int32) : Nat → Nat → Int32 := fun r => cond (Nat.beq r 5) g (Q r)
theorem rowQ_up (Q : Nat → Nat → Int32) (g : Nat → Int32) (i : Nat) (v : Int32) : up (rowQ Q g) 5 i v = rowQ Q (upd g i v) := by
  funext r
  unfold up rowQ
  cases hr : Nat.beq r 5 with
  | true =>
    have e := Nat.eq_of_beq_eq_true hr
    subst e
    rfl
  | false => rfl
theorem rowQ_0 (Q : Nat → Nat → Int32) : rowQ Q (Q 5) = Q := by
  funext r
  unfold rowQ
  cases hr : Nat.beq r 5 with
  | true =>
    have e := Nat.eq_of_beq_eq_true hr
    subst e
    rfl
  | false => rfl
/-- v comes into the row of the first k, which is in order -/
def insL (g : Nat → Int32) (v : Int32) : Nat → Nat → Int32
  | 0 => upd g 0 v
  | k + 1 => if v < g k then insL (upd g (k + 1) (g k)) v k else upd g (k + 1) v
def lineS (f g : Nat → Int32) : Nat → Nat → Int32
  | 0 => g
  | k + 1 => insL (lineS f g k) (f k) k
theorem insL_c {v : Int32} : ∀ {k : Nat} {g g' : Nat → Int32} {m : Nat}, k ≤ m → (∀ j, j ≤ m → j ≠ k → g j = g' j) → ∀ j, j ≤ m → insL g v k j = insL g' v k j
  | 0, g, g', m, hm, h, j, hj => by
    show upd g 0 v j = upd g' 0 v j
    unfold upd
    split
    · rfl
    · exact h j hj (by assumption)
  | k + 1, g, g', m, hm, h, j, hj => by
    have e := h k (by omega) (by omega)
    unfold insL
    rw [e]
    split
    · refine insL_c (k := k) (m := m) (by omega) ?_ j hj
      intro i hi hk
      unfold upd
      split
      · rfl
      · exact h i hi (by assumption)
    · unfold upd
      split
      · rfl
      · exact h j hj (by assumption)
theorem insL_o {v : Int32} : ∀ {k : Nat} {g : Nat → Int32} {j : Nat}, k < j → insL g v k j = g j
  | 0, g, j, hj => upd_n _ _ (by omega)
  | k + 1, g, j, hj => by
    unfold insL
    split
    · rw [insL_o (by omega)]
      exact upd_n _ _ (by omega)
    · exact upd_n _ _ (by omega)
theorem lineS_c {f g g' : Nat → Int32} : ∀ {n : Nat}, ∀ j, j < n → lineS f g n j = lineS f g' n j
  | 0, j, hj => absurd hj (by omega)
  | n + 1, j, hj => by
    unfold lineS
    exact insL_c (m := n) (Nat.le_refl n) (fun i hi hne => lineS_c i (by omega)) j (by omega)
def srt (E : Nat → Nat → Int32) (n : Nat) : Nat → Int32 := lineS (E 5) (fun _ => 0) n
def strN (g : Nat → Int32) (v : Int32) : Nat → Int32
  | 0 => 0
  | k + 1 => if 0 < k then (if v < g k - g (k - 1) then 1 else strN g v k + 1) else 1
def strM (g : Nat → Int32) (v : Int32) : Nat → Int32
  | 0 => 0
  | k + 1 => mx (strM g v k) (strN g v (k + 1))
def mxS (g : Nat → Int32) : Nat → Int32
  | 0 => 0
  | k + 1 => mx (mxS g k) (g (k + 1) - g k)
def prF (g : Nat → Int32) (v : Int32) (n : Nat) : Nat → Nat → Nat
  | 0, _ => 0
  | m + 1, k => if k < n then (if v < g k - g (k - 1) then prF g v n m (k + 1) else prF g v n m (k + 2) + 1) else 0
theorem nI_p1 {k : Nat} (h : 0 < k) : nI k - 1 = nI (k - 1) := by
  obtain ⟨j, rfl⟩ : ∃ j, k = j + 1 := ⟨k - 1, by omega⟩
  exact nI_pred j
def alkB (E : Nat → Nat → Int32) (y : Nat) (v : Int32) (i : Nat) : Bool := inB (E 5 i - E 5 y) (-v) v
theorem qR_row {Q S : Nat → Nat → Int32} {g : Nat → Int32} (h : rowQ Q g = S) : qR S Q := by
  subst h
  exact ⟨rfl, rfl, rfl, rfl, rfl, rfl, rfl⟩
theorem prF_1 {g : Nat → Int32} {v : Int32} {n m k : Nat} (h : k < n) (h2 : v < g k - g (k - 1)) : prF g v n (m + 1) k = prF g v n m (k + 1) := by
  rw [prF, if_pos h, if_pos h2]
theorem prF_2 {g : Nat → Int32} {v : Int32} {n m k : Nat} (h : k < n) (h2 : ¬ v < g k - g (k - 1)) : prF g v n (m + 1) k = prF g v n m (k + 2) + 1 := by
  rw [prF, if_pos h, if_neg h2]
theorem prF_0 {g : Nat → Int32} {v : Int32} {n m k : Nat} (h : ¬ k < n) : prF g v n (m + 1) k = 0 := by
  rw [prF, if_neg h]
