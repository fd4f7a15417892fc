/-! ===== firsts, bests ===== -/
def fstN (p : Nat → Bool) : Nat → Nat
  | 0 => 0
  | m + 1 => if fstN p m < m then fstN p m else if p m = true then m else m + 1
theorem fstN_le (p : Nat → Bool) : ∀ m, fstN p m ≤ m
  | 0 => Nat.le_refl 0
  | m + 1 => by
    have := fstN_le p m
    unfold fstN
    split
    · omega
    · split <;> omega
theorem fstN_no {p : Nat → Bool} : ∀ {m : Nat}, (∀ j, j < m → p j = false) → fstN p m = m
  | 0, _ => rfl
  | m + 1, h => by
    have e := fstN_no (p := p) (m := m) (fun j hj => h j (by omega))
    unfold fstN
    rw [e, if_neg (by omega), h m (by omega)]
    rfl
theorem fstN_eq {p : Nat → Bool} {k : Nat} (h1 : ∀ j, j < k → p j = false) (h2 : p k = true) : ∀ {m : Nat}, k < m → fstN p m = k
  | 0, h => absurd h (by omega)
  | m + 1, h => by
    unfold fstN
    by_cases hk : k = m
    · subst hk
      rw [fstN_no h1, if_neg (by omega), if_pos h2]
    · rw [fstN_eq h1 h2 (m := m) (by omega), if_pos (by omega)]
def mstS (f : Nat → Int32) : Nat → Int32
  | 0 => -1
  | k + 1 => mx (mstS f k) (f k)
def bstS (f : Nat → Int32) : Nat → Nat
  | 0 => 0
  | k + 1 => if mstS f k < f k then k else bstS f k
theorem bstS_le (f : Nat → Int32) : ∀ k, bstS f k ≤ k
  | 0 => Nat.le_refl 0
  | k + 1 => by
    have := bstS_le f k
    unfold bstS
    split <;> omega
theorem up_up (E : Nat → Nat → Int32) (r i : Nat) (v w : Int32) : up (up E r i v) r i w = up E r i w := by
  funext r'
  unfold up
  cases h : Nat.beq r' r with
  | false => rfl
  | true =>
    show upd (cond (Nat.beq r r) (upd (E r) i v) (E r)) i w = upd (E r) i w
    rw [Nat.beq_refl]
    exact upd_upd (E r) i v w
theorem up_bk (E : Nat → Nat → Int32) (r i : Nat) (v : Int32) : up (up E r i v) r i (E r i) = E := by rw [up_up, up_id]
def mRel (r : Option Value) (E Kp Bf Q : Nat → Nat → Int32) : Option Value → mS → Prop := fun v u => v = r ∧ ∃ X : Nat → Nat → Int32, u = (E, Kp, Bf, X, Q)
theorem Wf_upk {E : Nat → Nat → Int32} {n : Nat} (h : Wf E n) {y k : Nat} (hk : k ≤ 6) : Wf (up E 2 y (nI k)) n := Wf_up2 h ⟨k, hk, rfl⟩
theorem Wf_upb {E : Nat → Nat → Int32} {n : Nat} (h : Wf E n) {y k : Nat} (hk : k ≤ 5) : Wf (up E 3 y (nI k)) n := Wf_up3 h ⟨k, hk, rfl⟩
theorem Wf_upw {E : Nat → Nat → Int32} {n : Nat} (h : Wf E n) {y k : Nat} (hk : k ≤ 99) : Wf (up E 4 y (nI k)) n := Wf_up4 h ⟨k, hk, rfl⟩
section VN
variable {K : vK} {cc : ByteArray} {own : String} {tys : List (ClassId × FieldType)} {fr lo : Nat} {ws : va_W} {pc : Nat} {lv : List (Nat × Value)} {st : List Value} {q : List (Nat × Instr × Nat)}
theorem nI_z {a : Nat} (ha : a < 2147483648) : nI a = 0 ↔ a = 0 := by
  rw [show (0 : Int32) = nI 0 from rfl]
  exact nI_eq ha (by decide)
theorem nI_p {a : Nat} (ha : a < 2147483648) : 0 < nI a ↔ 0 < a := by
  rw [show (0 : Int32) = nI 0 from rfl]
  exact nI_ltI (by decide) ha
theorem v_nif_eq (h : vX K cc own tys fr lo) (P : vD cc q) (j : Nat) {a : Nat} {off : Int} {tgt : Nat} (d : q[j]? = some (pc, .ifCond .eq off, 3)) (ht : (pc : Int) + off = (tgt : Int)) (ha : a < 2147483648) (kt : a = 0 → V K ws tgt lv st) (kf : a ≠ 0 → V K ws (pc + 3) lv st) : V K ws pc lv (.int (nI a) :: st) := v_if_eq h P j d ht (fun c => kt ((nI_z ha).mp c)) (fun c => kf (fun e => c ((nI_z ha).mpr e)))
theorem v_nif_ne (h : vX K cc own tys fr lo) (P : vD cc q) (j : Nat) {a : Nat} {off : Int} {tgt : Nat} (d : q[j]? = some (pc, .ifCond .ne off, 3)) (ht : (pc : Int) + off = (tgt : Int)) (ha : a < 2147483648) (kt : a ≠ 0 → V K ws tgt lv st) (kf : a = 0 → V K ws (pc + 3) lv st) : V K ws pc lv (.int (nI a) :: st) := v_if_ne h P j d ht (fun c => kt (fun e => c ((nI_z ha).mpr e))) (fun c => kf ((nI_z ha).mp c))
theorem v_nif_le (h : vX K cc own tys fr lo) (P : vD cc q) (j : Nat) {a : Nat} {off : Int} {tgt : Nat} (d : q[j]? = some (pc, .ifCond .le off, 3)) (ht : (pc : Int) + off = (tgt : Int)) (ha : a < 2147483648) (kt : a = 0 → V K ws tgt lv st) (kf : 0 < a → V K ws (pc + 3) lv st) : V K ws pc lv (.int (nI a) :: st) := v_if_le2 h P j d ht (fun c => kt (Nat.eq_zero_of_not_pos (fun e => c ((nI_p ha).mpr e)))) (fun c => kf ((nI_p ha).mp c))
theorem v_nif_gt (h : vX K cc own tys fr lo) (P : vD cc q) (j : Nat) {a : Nat} {off : Int} {tgt : Nat} (d : q[j]? = some (pc, .ifCond .gt off, 3)) (ht : (pc : Int) + off = (tgt : Int)) (ha : a < 2147483648) (kt : 0 < a → V K ws tgt lv st) (kf : a = 0 → V K ws (pc + 3) lv st) : V K ws pc lv (.int (nI a) :: st) := v_if_gt h P j d ht (fun c => kt ((nI_p ha).mp c)) (fun c => kf (Nat.eq_zero_of_not_pos (fun e => c ((nI_p ha).mpr e))))
theorem v_nif_ge (h : vX K cc own tys fr lo) (P : vD cc q) (j : Nat) {a : Nat} {off : Int} {tgt : Nat} (d : q[j]? = some (pc, .ifCond .ge off, 3)) (ht : (pc : Int) + off = (tgt : Int)) (ha : a < 2147483648) (kt : V K ws tgt lv st) : V K ws pc lv (.int (nI a) :: st) := v_if_ge2 h P j d ht (fun _ => kt) (fun c => absurd c (nI_pos ha))
theorem v_nif_lt (h : vX K cc own tys fr lo) (P : vD cc q) (j : Nat) {a : Nat} {off : Int} {tgt : Nat} (d : q[j]? = some (pc, .ifCond .lt off, 3)) (ht : (pc : Int) + off = (tgt : Int)) (ha : a < 2147483648) (kf : V K ws (pc + 3) lv st) : V K ws pc lv (.int (nI a) :: st) := v_if_lt h P j d ht (fun c => absurd c (nI_pos ha)) (fun _ => kf)
end VN
def lstN (p : Nat → Bool) : Nat → Nat
  | 0 => 0
  | v + 1 => if p (v + 1) = true then v + 1 else lstN p v
theorem lstN_le (p : Nat → Bool) : ∀ v, lstN p v ≤ v
  | 0 => Nat.le_refl 0
  | v + 1 => by
    have := lstN_le p v
    unfold lstN
    split <;> omega
