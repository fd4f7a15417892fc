/-! ===== tokens and items ===== -/
def scF (q : Nat → Bool) : Nat → Nat → Nat
  | 0, p => p
  | m + 1, p => if q p = true then scF q m (p + 1) else p
/-- the first place from p on, below L, that isn't of q; or L -/
def sc (q : Nat → Bool) (L p : Nat) : Nat := scF q (L - p) p
theorem sc_t {q : Nat → Bool} {L p : Nat} (h : p < L) (hq : q p = true) : sc q L p = sc q L (p + 1) := by
  unfold sc
  rw [show L - p = (L - (p + 1)) + 1 by omega, scF, if_pos hq]
theorem sc_f {q : Nat → Bool} {L p : Nat} (hq : q p = false) : sc q L p = p := by
  unfold sc
  cases L - p with
  | zero => rfl
  | succ m => rw [scF, if_neg (by rw [hq]; decide)]
theorem sc_L {q : Nat → Bool} {L p : Nat} (h : L ≤ p) : sc q L p = p := by
  unfold sc
  rw [show L - p = 0 by omega]
  rfl
theorem scF_ge (q : Nat → Bool) : ∀ m p, p ≤ scF q m p ∧ scF q m p ≤ p + m
  | 0, p => ⟨Nat.le_refl p, Nat.le_refl p⟩
  | m + 1, p => by
    have := scF_ge q m (p + 1)
    unfold scF
    split <;> omega
theorem sc_ge (q : Nat → Bool) (L p : Nat) : p ≤ sc q L p := (scF_ge q _ p).1
theorem sc_le (q : Nat → Bool) {L p : Nat} (h : p ≤ L) : sc q L p ≤ L := by
  have := (scF_ge q (L - p) p).2
  unfold sc
  omega
def byS (T : Nat → Int32) (L i : Nat) : Int32 := if i < L then T i else -1
def ltB (x : Int32) : Bool := inB x 97 122
def dgB (x : Int32) : Bool := inB x 48 57
def sk (T : Nat → Int32) (L p : Nat) : Nat := sc (fun i => decide (T i = 32)) L p
def tk (T : Nat → Int32) (L f : Nat) : Nat := if f < L then (if ltB (T f) = true then 1 else if dgB (T f) = true then 2 else if T f = 59 then 3 else 4) else 0
def en (T : Nat → Int32) (L f : Nat) : Nat := if tk T L f = 1 then sc (fun i => ltB (T i)) L f else if tk T L f = 2 then sc (fun i => dgB (T i)) L f else if tk T L f = 0 then f else f + 1
def nx (T : Nat → Int32) (L f : Nat) : Nat := sk T L (en T L f)
def vaS (T : Nat → Int32) (f : Nat) : Nat → Int32
  | 0 => 0
  | k + 1 => if 999 < vaS T f k then vaS T f k else 10 * vaS T f k + T (f + k) - 48
def nmV (T : Nat → Int32) (L f : Nat) : Int32 := if tk T L f = 2 then vaS T f (en T L f - f) else 0
def tkQ (Q : Nat → Nat → Int32) (a b c d e : Int32) : Nat → Nat → Int32 := fun r => cond (Nat.beq r 6) (fun j => cond (Nat.beq j 4) a (cond (Nat.beq j 5) b (cond (Nat.beq j 6) c (cond (Nat.beq j 7) d (cond (Nat.beq j 8) e (Q 6 j)))))) (Q r)
theorem tkQ_id (Q : Nat → Nat → Int32) : tkQ Q (Q 6 4) (Q 6 5) (Q 6 6) (Q 6 7) (Q 6 8) = Q := by
  funext r
  unfold tkQ
  cases hr : Nat.beq r 6 with
  | false => rfl
  | true =>
    have e := Nat.eq_of_beq_eq_true hr
    subst e
    funext j
    show (cond (Nat.beq j 4) (Q 6 4) (cond (Nat.beq j 5) (Q 6 5) (cond (Nat.beq j 6) (Q 6 6) (cond (Nat.beq j 7) (Q 6 7) (cond (Nat.beq j 8) (Q 6 8) (Q 6 j)))))) = Q 6 j
    cases h4 : Nat.beq j 4 with
    | true => rw [Nat.eq_of_beq_eq_true h4]; rfl
    | false =>
    cases h5 : Nat.beq j 5 with
    | true => rw [Nat.eq_of_beq_eq_true h5]; rfl
    | false =>
    cases h6 : Nat.beq j 6 with
    | true => rw [Nat.eq_of_beq_eq_true h6]; rfl
    | false =>
    cases h7 : Nat.beq j 7 with
    | true => rw [Nat.eq_of_beq_eq_true h7]; rfl
    | false =>
    cases h8 : Nat.beq j 8 with
    | true => rw [Nat.eq_of_beq_eq_true h8]; rfl
    | false => rfl
theorem tkQ_u {Q : Nat → Nat → Int32} {a b c d e x : Int32} {i : Nat} {a' b' c' d' e' : Int32} (h : ∀ j, upd (tkQ Q a b c d e 6) i x j = tkQ Q a' b' c' d' e' 6 j) : up (tkQ Q a b c d e) 6 i x = tkQ Q a' b' c' d' e' := by
  funext r
  unfold up
  cases hr : Nat.beq r 6 with
  | false => unfold tkQ; rw [hr]; rfl
  | true =>
    have e := Nat.eq_of_beq_eq_true hr
    subst e
    funext j
    exact h j
theorem beq_e {j k : Nat} (h : j = k) : Nat.beq j k = true := by subst h; exact Nat.beq_refl j
theorem tkQ_4 {Q : Nat → Nat → Int32} {a b c d e x : Int32} : up (tkQ Q a b c d e) 6 4 x = tkQ Q x b c d e := tkQ_u (fun j => by
  unfold upd
  by_cases h : j = 4
  · subst h; rfl
  · rw [if_neg h]; unfold tkQ; show cond (Nat.beq j 4) a _ = cond (Nat.beq j 4) x _; rw [beq_f h]; rfl)
theorem tkQ_5 {Q : Nat → Nat → Int32} {a b c d e x : Int32} : up (tkQ Q a b c d e) 6 5 x = tkQ Q a x c d e := tkQ_u (fun j => by
  unfold upd
  by_cases h : j = 5
  · subst h; rfl
  · rw [if_neg h]; unfold tkQ; show cond (Nat.beq j 4) a (cond (Nat.beq j 5) b _) = cond (Nat.beq j 4) a (cond (Nat.beq j 5) x _); rw [beq_f h]; rfl)
theorem tkQ_6 {Q : Nat → Nat → Int32} {a b c d e x : Int32} : up (tkQ Q a b c d e) 6 6 x = tkQ Q a b x d e := tkQ_u (fun j => by
  unfold upd
  by_cases h : j = 6
  · subst h; rfl
  · rw [if_neg h]; unfold tkQ; show cond (Nat.beq j 4) a (cond (Nat.beq j 5) b (cond (Nat.beq j 6) c _)) = cond (Nat.beq j 4) a (cond (Nat.beq j 5) b (cond (Nat.beq j 6) x _)); rw [beq_f h]; rfl)
theorem tkQ_7 {Q : Nat → Nat → Int32} {a b c d e x : Int32} : up (tkQ Q a b c d e) 6 7 x = tkQ Q a b c x e := tkQ_u (fun j => by
  unfold upd
  by_cases h : j = 7
  · subst h; rfl
  · rw [if_neg h]; unfold tkQ; show cond (Nat.beq j 4) a (cond (Nat.beq j 5) b (cond (Nat.beq j 6) c (cond (Nat.beq j 7) d _))) = cond (Nat.beq j 4) a (cond (Nat.beq j 5) b (cond (Nat.beq j 6) c (cond (Nat.beq j 7) x _))); rw [beq_f h]; rfl)
theorem tkQ_8 {Q : Nat → Nat → Int32} {a b c d e x : Int32} : up (tkQ Q a b c d e) 6 8 x = tkQ Q a b c d x := tkQ_u (fun j => by
  unfold upd
  by_cases h : j = 8
  · subst h; rfl
  · rw [if_neg h]; unfold tkQ; show cond (Nat.beq j 4) a (cond (Nat.beq j 5) b (cond (Nat.beq j 6) c (cond (Nat.beq j 7) d (cond (Nat.beq j 8) e _)))) = cond (Nat.beq j 4) a (cond (Nat.beq j 5) b (cond (Nat.beq j 6) c (cond (Nat.beq j 7) d (cond (Nat.beq j 8) x _)))); rw [beq_f h]; rfl)
theorem tkQ_tkQ {Q : Nat → Nat → Int32} {a b c d e a' b' c' d' e' : Int32} : tkQ (tkQ Q a b c d e) a' b' c' d' e' = tkQ Q a' b' c' d' e' := by
  funext r
  show cond (Nat.beq r 6) _ (tkQ Q a b c d e r) = cond (Nat.beq r 6) _ (Q r)
  cases hr : Nat.beq r 6 with
  | false => unfold tkQ; rw [hr]; rfl
  | true =>
    funext j
    show cond (Nat.beq j 4) a' (cond (Nat.beq j 5) b' (cond (Nat.beq j 6) c' (cond (Nat.beq j 7) d' (cond (Nat.beq j 8) e' (tkQ Q a b c d e 6 j))))) = cond (Nat.beq j 4) a' (cond (Nat.beq j 5) b' (cond (Nat.beq j 6) c' (cond (Nat.beq j 7) d' (cond (Nat.beq j 8) e' (Q 6 j)))))
    show cond (Nat.beq j 4) a' (cond (Nat.beq j 5) b' (cond (Nat.beq j 6) c' (cond (Nat.beq j 7) d' (cond (Nat.beq j 8) e' (cond (Nat.beq j 4) a (cond (Nat.beq j 5) b (cond (Nat.beq j 6) c (cond (Nat.beq j 7) d (cond (Nat.beq j 8) e (Q 6 j)))))))))) = _
    cases Nat.beq j 4 <;> cases Nat.beq j 5 <;> cases Nat.beq j 6 <;> cases Nat.beq j 7 <;> cases Nat.beq j 8 <;> rfl
/-- the reference at the token at f -/
def tkF (Q : Nat → Nat → Int32) (L f : Nat) (fa : Int32) : Nat → Nat → Int32 := tkQ Q (nI (tk (Q 1) L f)) (nI f) (nI (en (Q 1) L f)) (nmV (Q 1) L f) fa
theorem tkF_tkF {Q : Nat → Nat → Int32} {L f g : Nat} {fa fb : Int32} : tkF (tkF Q L f fa) L g fb = tkF Q L g fb := tkQ_tkQ
theorem mW_t4 {cI : ClassId} {b : Nat → Nat} {E Kp Bf As Q : Nat → Nat → Int32} {v p q r s t : Int32} : (mW cI b (E, Kp, Bf, As, tkQ Q p q r s t)).set 0 (b 0, .inr (4, (mF b (tkQ Q p q r s t)).set 14 (.int v))) = mW cI b (E, Kp, Bf, As, tkQ Q v q r s t) := mW_p4.trans (by rw [tkQ_4])
theorem mW_t5 {cI : ClassId} {b : Nat → Nat} {E Kp Bf As Q : Nat → Nat → Int32} {v p q r s t : Int32} : (mW cI b (E, Kp, Bf, As, tkQ Q p q r s t)).set 0 (b 0, .inr (4, (mF b (tkQ Q p q r s t)).set 15 (.int v))) = mW cI b (E, Kp, Bf, As, tkQ Q p v r s t) := mW_p5.trans (by rw [tkQ_5])
theorem mW_t6 {cI : ClassId} {b : Nat → Nat} {E Kp Bf As Q : Nat → Nat → Int32} {v p q r s t : Int32} : (mW cI b (E, Kp, Bf, As, tkQ Q p q r s t)).set 0 (b 0, .inr (4, (mF b (tkQ Q p q r s t)).set 16 (.int v))) = mW cI b (E, Kp, Bf, As, tkQ Q p q v s t) := mW_p6.trans (by rw [tkQ_6])
theorem mW_t7 {cI : ClassId} {b : Nat → Nat} {E Kp Bf As Q : Nat → Nat → Int32} {v p q r s t : Int32} : (mW cI b (E, Kp, Bf, As, tkQ Q p q r s t)).set 0 (b 0, .inr (4, (mF b (tkQ Q p q r s t)).set 17 (.int v))) = mW cI b (E, Kp, Bf, As, tkQ Q p q r v t) := mW_p7.trans (by rw [tkQ_7])
theorem mW_t8 {cI : ClassId} {b : Nat → Nat} {E Kp Bf As Q : Nat → Nat → Int32} {v p q r s t : Int32} : (mW cI b (E, Kp, Bf, As, tkQ Q p q r s t)).set 0 (b 0, .inr (4, (mF b (tkQ Q p q r s t)).set 18 (.int v))) = mW cI b (E, Kp, Bf, As, tkQ Q p q r s v) := mW_p8.trans (by rw [tkQ_8])
