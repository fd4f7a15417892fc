def faN (b : Bool) (f : Nat) (fa : Int32) : Int32 := if b = true then fa else nI f
def nmOK (T : Nat → Int32) (L f m : Nat) : Bool := decide (tk T L f = 2) && inB (nmV T L f) 0 (nI m)
def pB (c : Bool) (T : Nat → Int32) (L f m : Nat) : Bool := if c = true then nmOK T L (nx T L f) m else true
def pE (c : Bool) (T : Nat → Int32) (L f m : Nat) (E : Nat → Nat → Int32) (r i : Nat) : Nat → Nat → Int32 := if c = true then (if nmOK T L (nx T L f) m = true then up E r i (nmV T L (nx T L f)) else E) else E
def pF (c : Bool) (T : Nat → Int32) (L f m : Nat) : Nat := if c = true then (if nmOK T L (nx T L f) m = true then nx T L (nx T L f) else nx T L f) else f
def pA (c : Bool) (T : Nat → Int32) (L f m : Nat) (fa : Int32) : Int32 := if c = true then faN (nmOK T L (nx T L f) m) (nx T L f) fa else fa
theorem pF_le (c : Bool) (T : Nat → Int32) {L f : Nat} (m : Nat) (h : f ≤ L) : pF c T L f m ≤ L := by
  unfold pF
  split
  · split
    · exact nx_le (nx_le h)
    · exact nx_le h
  · exact h
theorem pF_ge (c : Bool) (T : Nat → Int32) (L f m : Nat) : f ≤ pF c T L f m := by
  have h1 := nx_ge T L f
  have h2 := nx_ge T L (nx T L f)
  unfold pF
  split
  · split <;> omega
  · omega
theorem pA_t {c : Bool} {T : Nat → Int32} {L f m : Nat} {fa : Int32} (h : pB c T L f m = true) : pA c T L f m fa = fa := by
  unfold pB at h
  unfold pA
  split
  · rename_i hc
    rw [if_pos hc] at h
    rw [h]
    rfl
  · rfl
theorem pA_f {c : Bool} {T : Nat → Int32} {L f m : Nat} {fa : Int32} (h : pB c T L f m = false) : pA c T L f m fa = nI (pF c T L f m) := by
  unfold pB at h
  unfold pA pF
  split
  · rename_i hc
    rw [if_pos hc] at h
    rw [h]
    rfl
  · rename_i hc
    rw [if_neg hc] at h
    cases h
/-- the words -/
def wl (w : Nat) : Nat := ([6, 5, 4, 4, 4, 4, 8, 3, 5, 2, 6, 6, 5, 4] : List Nat).getD w 0
def wc (w : Nat) : List Int32 := ([[111, 121, 115, 116, 101, 114], [98, 108, 97, 99, 107], [115, 101, 101, 100], [112, 111, 111, 114], [109, 111, 111, 110], [100, 101, 97, 114], [109, 105, 110, 105, 115, 116, 101, 114], [98, 101, 100], [99, 111, 109, 101, 115], [105, 110], [119, 101, 105, 103, 104, 115], [108, 97, 121, 101, 114, 115], [110, 97, 99, 114, 101], [99, 111, 108, 100]] : List (List Int32)).getD w []
def ch (w i : Nat) : Int32 := (wc w).getD i 0
def allN (p : Nat → Bool) : Nat → Bool
  | 0 => true
  | k + 1 => allN p k && p k
theorem allN_t {p : Nat → Bool} : ∀ {m : Nat}, allN p m = true ↔ ∀ j, j < m → p j = true
  | 0 => ⟨fun _ j hj => absurd hj (by omega), fun _ => rfl⟩
  | m + 1 => by
    unfold allN
    rw [Bool.and_eq_true, allN_t (m := m)]
    constructor
    · intro h j hj
      by_cases e : j = m
      · subst e; exact h.2
      · exact h.1 j (by omega)
    · intro h
      exact ⟨fun j hj => h j (by omega), h m (by omega)⟩
/-- the text between two places is the word w -/
def tx (T : Nat → Int32) (w f e : Nat) : Bool := decide (e - f = wl w) && allN (fun i => decide (T (f + i) = ch w i)) (wl w)
theorem ch_dif : ∀ w, w < 14 → ∀ v, v < 14 → wl w = wl v → (∀ i, i < wl w → ch w i = ch v i) → w = v := by
  have e : ∀ w, w < 14 → ∀ v, v < 14 → wl w = wl v → allN (fun i => decide (ch w i = ch v i)) (wl w) = true → w = v := by decide +kernel
  intro w hw v hv h1 h2
  exact e w hw v hv h1 (allN_t.mpr (fun j hj => decide_eq_true (h2 j hj)))
theorem tx_one {T : Nat → Int32} {f e w v : Nat} (hw : w < 14) (hv : v < 14) (h1 : tx T w f e = true) (h2 : tx T v f e = true) : w = v := by
  unfold tx at h1 h2
  rw [Bool.and_eq_true, decide_eq_true_eq, allN_t] at h1 h2
  refine ch_dif w hw v hv (by omega) (fun i hi => ?_)
  have a := of_decide_eq_true (h1.2 i hi)
  have b := of_decide_eq_true (h2.2 i (by omega))
  rw [← a, ← b]
/-- which sort of token stands at f -/
def so (T : Nat → Int32) (L f : Nat) : Nat := if tk T L f = 0 then 16 else if tk T L f = 2 then 14 else if tk T L f = 3 then 15 else if fstN (fun w => tx T w f (en T L f)) 14 < 14 then fstN (fun w => tx T w f (en T L f)) 14 else 17
theorem fstN_t {p : Nat → Bool} : ∀ {m : Nat}, fstN p m < m → p (fstN p m) = true
  | 0, h => absurd h (by omega)
  | m + 1, h => by
    unfold fstN at h ⊢
    split
    · exact fstN_t (by assumption)
    · split
      · assumption
      · rename_i h1 h2
        rw [if_neg h1, if_neg h2] at h
        omega
theorem fstN_lt {p : Nat → Bool} {k m : Nat} (hk : k < m) (h : p k = true) : fstN p m < m := by
  rcases Nat.lt_or_ge (fstN p m) m with h1 | h1
  · exact h1
  · have h2 : ∀ m', fstN p m' = m' → ∀ j, j < m' → p j = false := by
      intro m'
      induction m' with
      | zero => intro _ j hj; exact absurd hj (by omega)
      | succ q ih =>
        intro e j hj
        unfold fstN at e
        split at e
        · omega
        · split at e
          · omega
          · rename_i h3 h4
            have h5 := fstN_le p q
            by_cases ej : j = q
            · subst ej; exact Bool.eq_false_iff.mpr h4
            · exact ih (by omega) j (by omega)
    have h3 := fstN_le p m
    rw [h2 m (by omega) k hk] at h
    cases h
theorem wl_2 : ∀ w, w < 14 → 2 ≤ wl w ∧ wl w ≤ 8 := by decide
theorem tx_so {T : Nat → Int32} {L f w : Nat} (hw : w < 14) : (decide (tk T L f = 1) && tx T w f (en T L f)) = decide (so T L f = w) := by
  have htl := tk_le T L f
  have e4 : tk T L f = 4 → tx T w f (en T L f) = false := by
    intro h4
    have : en T L f = f + 1 := by unfold en; rw [h4]; rfl
    rw [this, tx, decide_eq_false (by have := (wl_2 w hw).1; omega)]
    rfl
  unfold so
  by_cases h0 : tk T L f = 0
  · rw [if_pos h0, h0, decide_eq_false (by omega : ¬ 16 = w)]; rfl
  rw [if_neg h0]
  by_cases h2 : tk T L f = 2
  · rw [if_pos h2, h2, decide_eq_false (by omega : ¬ 14 = w)]; rfl
  rw [if_neg h2]
  by_cases h3 : tk T L f = 3
  · rw [if_pos h3, h3, decide_eq_false (by omega : ¬ 15 = w)]; rfl
  rw [if_neg h3]
  have key : tx T w f (en T L f) = decide ((if fstN (fun w => tx T w f (en T L f)) 14 < 14 then fstN (fun w => tx T w f (en T L f)) 14 else 17) = w) := by
    cases ht : tx T w f (en T L f) with
    | true =>
      have h1 := fstN_lt (p := fun w => tx T w f (en T L f)) hw ht
      rw [if_pos h1]
      have h5 := fstN_t h1
      exact (decide_eq_true (tx_one h1 hw h5 ht)).symm
    | false =>
      by_cases h1 : fstN (fun w => tx T w f (en T L f)) 14 < 14
      · rw [if_pos h1]
        have h5 := fstN_t h1
        refine (decide_eq_false ?_).symm
        intro e
        rw [e] at h5
        rw [show tx T w f (en T L f) = true from h5] at ht
        cases ht
      · rw [if_neg h1, decide_eq_false (by omega)]
  rw [← key]
  by_cases h1 : tk T L f = 1
  · rw [h1]; rfl
  · rw [e4 (by omega), Bool.and_false]
theorem by_T {T : Nat → Int32} {L i : Nat} (h : i < L) : byS T L i = T i := if_pos h
theorem w4_tx {T : Nat → Int32} {L f w : Nat} (hf : f ≤ L) (hl : wl w = 4) : w4 T L f (ch w 0) (ch w 1) (ch w 2) (ch w 3) = (decide (tk T L f = 1) && tx T w f (en T L f)) := by
  have he := en_le (T := T) hf
  unfold w4 wd tx h3
  rw [hl]
  by_cases h4 : en T L f - f = 4
  · have t0 : byS T L f = T f := by_T (by omega)
    have t1 : byS T L (f + 1) = T (f + 1) := by_T (by omega)
    have t2 : byS T L (f + 2) = T (f + 2) := by_T (by omega)
    have t3 : byS T L (f + 3) = T (f + 3) := by_T (by omega)
    simp only [allN, Nat.add_zero, Nat.add_assoc, Nat.reduceAdd, t0, t1, t2, t3]
    generalize decide (T f = ch w 0) = b0
    generalize decide (T (f + 1) = ch w 1) = b1
    generalize decide (T (f + 2) = ch w 2) = b2
    generalize decide (T (f + 3) = ch w 3) = b3
    generalize decide (tk T L f = 1) = c1
    generalize decide (en T L f - f = 4) = c2
    revert b0 b1 b2 b3 c1 c2
    decide
  · rw [decide_eq_false h4]; simp
theorem w5_tx {T : Nat → Int32} {L f w : Nat} (hf : f ≤ L) (hl : wl w = 5) : w5 T L f (ch w 0) (ch w 1) (ch w 2) (ch w 3) (ch w 4) = (decide (tk T L f = 1) && tx T w f (en T L f)) := by
  have he := en_le (T := T) hf
  unfold w5 wd tx h3
  rw [hl]
  by_cases h4 : en T L f - f = 5
  · have t0 : byS T L f = T f := by_T (by omega)
    have t1 : byS T L (f + 1) = T (f + 1) := by_T (by omega)
    have t2 : byS T L (f + 2) = T (f + 2) := by_T (by omega)
    have t3 : byS T L (f + 3) = T (f + 3) := by_T (by omega)
    have t4 : byS T L (f + 4) = T (f + 4) := by_T (by omega)
    simp only [allN, Nat.add_zero, Nat.add_assoc, Nat.reduceAdd, t0, t1, t2, t3, t4]
    generalize decide (T f = ch w 0) = b0
    generalize decide (T (f + 1) = ch w 1) = b1
    generalize decide (T (f + 2) = ch w 2) = b2
    generalize decide (T (f + 3) = ch w 3) = b3
    generalize decide (T (f + 4) = ch w 4) = b4
    generalize decide (tk T L f = 1) = c1
    generalize decide (en T L f - f = 5) = c2
    revert b0 b1 b2 b3 b4 c1 c2
    decide
  · rw [decide_eq_false h4]; simp
theorem w6_tx {T : Nat → Int32} {L f w : Nat} (hf : f ≤ L) (hl : wl w = 6) : w6 T L f (ch w 0) (ch w 1) (ch w 2) (ch w 3) (ch w 4) (ch w 5) = (decide (tk T L f = 1) && tx T w f (en T L f)) := by
  have he := en_le (T := T) hf
  unfold w6 wd tx h3
  rw [hl]
  by_cases h4 : en T L f - f = 6
  · have t0 : byS T L f = T f := by_T (by omega)
    have t1 : byS T L (f + 1) = T (f + 1) := by_T (by omega)
    have t2 : byS T L (f + 2) = T (f + 2) := by_T (by omega)
    have t3 : byS T L (f + 3) = T (f + 3) := by_T (by omega)
    have t4 : byS T L (f + 4) = T (f + 4) := by_T (by omega)
    have t5 : byS T L (f + 5) = T (f + 5) := by_T (by omega)
    simp only [allN, Nat.add_zero, Nat.add_assoc, Nat.reduceAdd, t0, t1, t2, t3, t4, t5]
    generalize decide (T f = ch w 0) = b0
    generalize decide (T (f + 1) = ch w 1) = b1
    generalize decide (T (f + 2) = ch w 2) = b2
    generalize decide (T (f + 3) = ch w 3) = b3
    generalize decide (T (f + 4) = ch w 4) = b4
    generalize decide (T (f + 5) = ch w 5) = b5
    generalize decide (tk T L f = 1) = c1
    generalize decide (en T L f - f = 6) = c2
    revert b0 b1 b2 b3 b4 b5 c1 c2
    decide
  · rw [decide_eq_false h4]; simp
theorem word_0 {T : Nat → Int32} {L f : Nat} (hf : f ≤ L) : w6 T L f 111 121 115 116 101 114 = decide (so T L f = 0) := (w6_tx (w := 0) hf rfl).trans (tx_so (by decide))
theorem word_1 {T : Nat → Int32} {L f : Nat} (hf : f ≤ L) : w5 T L f 98 108 97 99 107 = decide (so T L f = 1) := (w5_tx (w := 1) hf rfl).trans (tx_so (by decide))
theorem word_2 {T : Nat → Int32} {L f : Nat} (hf : f ≤ L) : w4 T L f 115 101 101 100 = decide (so T L f = 2) := (w4_tx (w := 2) hf rfl).trans (tx_so (by decide))
theorem word_3 {T : Nat → Int32} {L f : Nat} (hf : f ≤ L) : w4 T L f 112 111 111 114 = decide (so T L f = 3) := (w4_tx (w := 3) hf rfl).trans (tx_so (by decide))
theorem word_4 {T : Nat → Int32} {L f : Nat} (hf : f ≤ L) : w4 T L f 109 111 111 110 = decide (so T L f = 4) := (w4_tx (w := 4) hf rfl).trans (tx_so (by decide))
theorem word_5 {T : Nat → Int32} {L f : Nat} (hf : f ≤ L) : w4 T L f 100 101 97 114 = decide (so T L f = 5) := (w4_tx (w := 5) hf rfl).trans (tx_so (by decide))
theorem word_8 {T : Nat → Int32} {L f : Nat} (hf : f ≤ L) : w5 T L f 99 111 109 101 115 = decide (so T L f = 8) := (w5_tx (w := 8) hf rfl).trans (tx_so (by decide))
theorem word_10 {T : Nat → Int32} {L f : Nat} (hf : f ≤ L) : w6 T L f 119 101 105 103 104 115 = decide (so T L f = 10) := (w6_tx (w := 10) hf rfl).trans (tx_so (by decide))
theorem word_11 {T : Nat → Int32} {L f : Nat} (hf : f ≤ L) : w6 T L f 108 97 121 101 114 115 = decide (so T L f = 11) := (w6_tx (w := 11) hf rfl).trans (tx_so (by decide))
theorem word_12 {T : Nat → Int32} {L f : Nat} (hf : f ≤ L) : w5 T L f 110 97 99 114 101 = decide (so T L f = 12) := (w5_tx (w := 12) hf rfl).trans (tx_so (by decide))
theorem word_13 {T : Nat → Int32} {L f : Nat} (hf : f ≤ L) : w4 T L f 99 111 108 100 = decide (so T L f = 13) := (w4_tx (w := 13) hf rfl).trans (tx_so (by decide))
theorem word_6 {T : Nat → Int32} {L f : Nat} (hf : f ≤ L) : (wd T L f 8 && (h3 T L f 0 109 105 110 && (h3 T L f 3 105 115 116 && h3 T L f 5 116 101 114))) = decide (so T L f = 6) := by
  refine Eq.trans ?_ (tx_so (by decide))
  have he := en_le (T := T) hf
  unfold wd tx h3
  rw [show wl 6 = 8 from rfl]
  by_cases h4 : en T L f - f = 8
  · have t0 : byS T L f = T f := by_T (by omega)
    have t1 : byS T L (f + 1) = T (f + 1) := by_T (by omega)
    have t2 : byS T L (f + 2) = T (f + 2) := by_T (by omega)
    have t3 : byS T L (f + 3) = T (f + 3) := by_T (by omega)
    have t4 : byS T L (f + 4) = T (f + 4) := by_T (by omega)
    have t5 : byS T L (f + 5) = T (f + 5) := by_T (by omega)
    have t6 : byS T L (f + 6) = T (f + 6) := by_T (by omega)
    have t7 : byS T L (f + 7) = T (f + 7) := by_T (by omega)
    simp only [allN, Nat.add_zero, Nat.add_assoc, Nat.reduceAdd, t0, t1, t2, t3, t4, t5, t6, t7, show ch 6 0 = 109 from rfl, show ch 6 1 = 105 from rfl, show ch 6 2 = 110 from rfl, show ch 6 3 = 105 from rfl, show ch 6 4 = 115 from rfl, show ch 6 5 = 116 from rfl, show ch 6 6 = 101 from rfl, show ch 6 7 = 114 from rfl]
    generalize decide (T f = 109) = b0
    generalize decide (T (f + 1) = 105) = b1
    generalize decide (T (f + 2) = 110) = b2
    generalize decide (T (f + 3) = 105) = b3
    generalize decide (T (f + 4) = 115) = b4
    generalize decide (T (f + 5) = 116) = b5
    generalize decide (T (f + 6) = 101) = b6
    generalize decide (T (f + 7) = 114) = b7
    generalize decide (tk T L f = 1) = c1
    generalize decide (en T L f - f = 8) = c2
    cases b0 <;> cases b1 <;> cases b2 <;> cases b3 <;> cases b4 <;> cases b5 <;> cases b6 <;> cases b7 <;> cases c1 <;> cases c2 <;> rfl
  · rw [decide_eq_false h4]; simp
theorem word_7 {T : Nat → Int32} {L f : Nat} (hf : f ≤ L) : (wd T L f 3 && h3 T L f 0 98 101 100) = decide (so T L f = 7) := by
  refine Eq.trans ?_ (tx_so (by decide))
  have he := en_le (T := T) hf
  unfold wd tx h3
  rw [show wl 7 = 3 from rfl]
  by_cases h4 : en T L f - f = 3
  · have t0 : byS T L f = T f := by_T (by omega)
    have t1 : byS T L (f + 1) = T (f + 1) := by_T (by omega)
    have t2 : byS T L (f + 2) = T (f + 2) := by_T (by omega)
    simp only [allN, Nat.add_zero, Nat.add_assoc, Nat.reduceAdd, t0, t1, t2, show ch 7 0 = 98 from rfl, show ch 7 1 = 101 from rfl, show ch 7 2 = 100 from rfl]
    generalize decide (T f = 98) = b0
    generalize decide (T (f + 1) = 101) = b1
    generalize decide (T (f + 2) = 100) = b2
    generalize decide (tk T L f = 1) = c1
    generalize decide (en T L f - f = 3) = c2
    cases b0 <;> cases b1 <;> cases b2 <;> cases c1 <;> cases c2 <;> rfl
  · rw [decide_eq_false h4]; simp
theorem word_9 {T : Nat → Int32} {L f : Nat} (hf : f ≤ L) : (wd T L f 2 && (decide (byS T L f = 105) && decide (byS T L (f + 1) = 110))) = decide (so T L f = 9) := by
  refine Eq.trans ?_ (tx_so (by decide))
  have he := en_le (T := T) hf
  unfold wd tx
  rw [show wl 9 = 2 from rfl]
  by_cases h4 : en T L f - f = 2
  · have t0 : byS T L f = T f := by_T (by omega)
    have t1 : byS T L (f + 1) = T (f + 1) := by_T (by omega)
    simp only [allN, Nat.add_zero, Nat.add_assoc, Nat.reduceAdd, t0, t1, show ch 9 0 = 105 from rfl, show ch 9 1 = 110 from rfl]
    generalize decide (T f = 105) = b0
    generalize decide (T (f + 1) = 110) = b1
    generalize decide (tk T L f = 1) = c1
    generalize decide (en T L f - f = 2) = c2
    cases b0 <;> cases b1 <;> cases c1 <;> cases c2 <;> rfl
  · rw [decide_eq_false h4]; simp
-- m8_tx
def kdS (T : Nat → Int32) (L f : Nat) : Int32 := if so T L f < 7 then nI (so T L f) else -1
theorem kd_k {T : Nat → Int32} {L f k : Nat} (hk : k < 7) (h : so T L f = k) : nI k = kdS T L f := by
  rw [kdS, h, if_pos hk]
abbrev TR := Except Nat ((Nat → Nat → Int32) × Nat × Nat)
def oyS (T : Nat → Int32) (L : Nat) (E : Nat → Nat → Int32) (n : Nat) (kd : Int32) (f : Nat) : TR :=
  if n = 8 then .error f else
  if pB (decide (so T L (nx T L f) = 9)) T L (nx T L f) 5 = true then
    if pB (decide (so T L (pF (decide (so T L (nx T L f) = 9)) T L (nx T L f) 5) = 10)) T L (pF (decide (so T L (nx T L f) = 9)) T L (nx T L f) 5) 99 = true then
      if pB (decide (so T L (pF (decide (so T L (pF (decide (so T L (nx T L f) = 9)) T L (nx T L f) 5) = 10)) T L (pF (decide (so T L (nx T L f) = 9)) T L (nx T L f) 5) 99) = 11)) T L (pF (decide (so T L (pF (decide (so T L (nx T L f) = 9)) T L (nx T L f) 5) = 10)) T L (pF (decide (so T L (nx T L f) = 9)) T L (nx T L f) 5) 99) 999 = true then
        .ok (pE (decide (so T L (pF (decide (so T L (pF (decide (so T L (nx T L f) = 9)) T L (nx T L f) 5) = 10)) T L (pF (decide (so T L (nx T L f) = 9)) T L (nx T L f) 5) 99) = 11)) T L (pF (decide (so T L (pF (decide (so T L (nx T L f) = 9)) T L (nx T L f) 5) = 10)) T L (pF (decide (so T L (nx T L f) = 9)) T L (nx T L f) 5) 99) 999 (pE (decide (so T L (pF (decide (so T L (nx T L f) = 9)) T L (nx T L f) 5) = 10)) T L (pF (decide (so T L (nx T L f) = 9)) T L (nx T L f) 5) 99 (pE (decide (so T L (nx T L f) = 9)) T L (nx T L f) 5 (newS E n kd 0) 3 n) 4 n) 5 n, n + 1, pF (decide (so T L (pF (decide (so T L (pF (decide (so T L (nx T L f) = 9)) T L (nx T L f) 5) = 10)) T L (pF (decide (so T L (nx T L f) = 9)) T L (nx T L f) 5) 99) = 11)) T L (pF (decide (so T L (pF (decide (so T L (nx T L f) = 9)) T L (nx T L f) 5) = 10)) T L (pF (decide (so T L (nx T L f) = 9)) T L (nx T L f) 5) 99) 999)
      else .error (pF (decide (so T L (pF (decide (so T L (pF (decide (so T L (nx T L f) = 9)) T L (nx T L f) 5) = 10)) T L (pF (decide (so T L (nx T L f) = 9)) T L (nx T L f) 5) 99) = 11)) T L (pF (decide (so T L (pF (decide (so T L (nx T L f) = 9)) T L (nx T L f) 5) = 10)) T L (pF (decide (so T L (nx T L f) = 9)) T L (nx T L f) 5) 99) 999)
    else .error (pF (decide (so T L (pF (decide (so T L (nx T L f) = 9)) T L (nx T L f) 5) = 10)) T L (pF (decide (so T L (nx T L f) = 9)) T L (nx T L f) 5) 99)
  else .error (pF (decide (so T L (nx T L f) = 9)) T L (nx T L f) 5)
def bedS (T : Nat → Int32) (L : Nat) (E : Nat → Nat → Int32) (n f : Nat) : TR :=
  if nmOK T L (nx T L f) 5 = true then
    if pB (decide (so T L (nx T L (nx T L f)) = 12)) T L (nx T L (nx T L f)) 999 = true then
      if pB (decide (so T L (pF (decide (so T L (nx T L (nx T L f)) = 12)) T L (nx T L (nx T L f)) 999) = 13)) T L (pF (decide (so T L (nx T L (nx T L f)) = 12)) T L (nx T L (nx T L f)) 999) 9 = true then
        .ok (pE (decide (so T L (pF (decide (so T L (nx T L (nx T L f)) = 12)) T L (nx T L (nx T L f)) 999) = 13)) T L (pF (decide (so T L (nx T L (nx T L f)) = 12)) T L (nx T L (nx T L f)) 999) 9 (pE (decide (so T L (nx T L (nx T L f)) = 12)) T L (nx T L (nx T L f)) 999 E 0 (ix (nmV T L (nx T L f)))) 1 (ix (nmV T L (nx T L f))), n, pF (decide (so T L (pF (decide (so T L (nx T L (nx T L f)) = 12)) T L (nx T L (nx T L f)) 999) = 13)) T L (pF (decide (so T L (nx T L (nx T L f)) = 12)) T L (nx T L (nx T L f)) 999) 9)
      else .error (pF (decide (so T L (pF (decide (so T L (nx T L (nx T L f)) = 12)) T L (nx T L (nx T L f)) 999) = 13)) T L (pF (decide (so T L (nx T L (nx T L f)) = 12)) T L (nx T L (nx T L f)) 999) 9)
    else .error (pF (decide (so T L (nx T L (nx T L f)) = 12)) T L (nx T L (nx T L f)) 999)
  else .error (nx T L f)
def comS (T : Nat → Int32) (L : Nat) (E : Nat → Nat → Int32) (n f : Nat) : TR := if pB true T L f 99 = true then .ok (pE true T L f 99 E 9 1, n, pF true T L f 99) else .error (pF true T L f 99)
def itS (T : Nat → Int32) (L : Nat) (E : Nat → Nat → Int32) (n f : Nat) : TR := if so T L f < 7 then oyS T L E n (nI (so T L f)) f else if so T L f = 7 then bedS T L E n f else if so T L f = 8 then comS T L E n f else .error f
def itP (Kp Bf As Q : Nat → Nat → Int32) (L : Nat) (fa : Int32) (r : TR) : Option Value → mS → Prop := fun v u =>
  (∃ E' n' f', r = .ok (E', n', f') ∧ v = some (.int 1) ∧ u = (E', Kp, Bf, As, tkF Q L f' fa)) ∨ (∃ p E' f', r = .error p ∧ v = some (.int 0) ∧ u = (E', Kp, Bf, As, tkF Q L f' (nI p)))
theorem kd_t {T : Nat → Int32} {L f : Nat} (h : ¬ kdS T L f < 0) : so T L f < 7 ∧ kdS T L f = nI (so T L f) := by
  unfold kdS at h ⊢
  split at h
  · exact ⟨by assumption, if_pos (by assumption)⟩
  · exact absurd (by decide) h
theorem kd_f {T : Nat → Int32} {L f : Nat} (h : kdS T L f < 0) : ¬ so T L f < 7 := by
  unfold kdS at h
  split at h
  · exact absurd h (nI_pos (by omega))
  · assumption
