/-! ===== the class and the reference beside each other ===== -/
def iE (t : Nat) (E : Nat → Nat → Int32) : Prop := ∃ n, Wf E n ∧ E 9 4 = 0 ∧ bd (E 9 2) (60 * t)
def iK (t : Nat) (Kp F K2 Q : Nat → Nat → Int32) : Prop := Q 6 0 = F 2 0 ∧ (Q 6 0 = 0 ∨ Q 6 0 = 1) ∧ (¬ Q 6 0 = 0 → Kp = K2 ∧ iE t K2)
def iT (P Q : Nat → Nat → Int32) : Prop := P 0 = Q 1 ∧ P 4 0 = Q 6 1 ∧ bd (Q 6 1) 120 ∧ ∀ i, i < 120 → bd (Q 1 i) 255
def iB (x y : Int32) : Prop := (x = -1 ∧ y = 0) ∨ (x = y ∧ (x = 8 ∨ x = 16 ∨ x = 32))
def iS (S : Nat → Nat → Nat → Int32) (Q : Nat → Nat → Int32) : Prop := ∀ s, s < 4 → iB (Q 2 s) (S s 1 0) ∧ bd (Q 3 s) 40 ∧ S s 1 1 = Q 3 s ∧ ∀ i, i < 40 → S s 0 i = Q 4 (40 * s + i)
def iF (F Q : Nat → Nat → Int32) : Prop := (∀ w, w < 7 → Q 0 (w + 1) = F 0 w) ∧ Q 0 0 = sumS (F 0) 7
def lInvA (t : Nat) (E Kp P : Nat → Nat → Int32) (S : Nat → Nat → Nat → Int32) (F K2 Q : Nat → Nat → Int32) : Prop := iE t E ∧ iK t Kp F K2 Q ∧ iT P Q ∧ iS S Q ∧ iF F Q
theorem iE.mono {t u : Nat} {E : Nat → Nat → Int32} (h : iE t E) (hu : t ≤ u) : iE u E := by
  obtain ⟨n, a, b, c⟩ := h
  exact ⟨n, a, b, bd_le c (by omega)⟩
theorem iK.mono {t u : Nat} {Kp F K2 Q : Nat → Nat → Int32} (h : iK t Kp F K2 Q) (hu : t ≤ u) : iK u Kp F K2 Q := ⟨h.1, h.2.1, fun z => ⟨(h.2.2 z).1, (h.2.2 z).2.mono hu⟩⟩
theorem iWQ {t : Nat} {E Kp P : Nat → Nat → Int32} {S : Nat → Nat → Nat → Int32} {F K2 Q : Nat → Nat → Int32} (h : lInvA t E Kp P S F K2 Q) : WfQ Q := by
  obtain ⟨-, hK, hT, hS, -⟩ := h
  refine ⟨fun s hs => ⟨?_, (hS s hs).2.1⟩, hT.2.2.1, hT.2.2.2, hK.2.1⟩
  rcases (hS s hs).1 with ⟨e, -⟩ | ⟨-, e⟩
  · exact Or.inl e
  · exact Or.inr e
theorem iWS {t : Nat} {E Kp P : Nat → Nat → Int32} {S : Nat → Nat → Nat → Int32} {F K2 Q : Nat → Nat → Int32} (h : lInvA t E Kp P S F K2 Q) : WfS S := fun s hs => by
  rw [(h.2.2.2.1 s hs).2.2.1]
  exact (h.2.2.2.1 s hs).2.1
theorem iWP {t : Nat} {E Kp P : Nat → Nat → Int32} {S : Nat → Nat → Nat → Int32} {F K2 Q : Nat → Nat → Int32} (h : lInvA t E Kp P S F K2 Q) : bd (P 4 0) 120 := by
  rw [h.2.2.1.2.1]
  exact h.2.2.1.2.2.1
theorem iS.none {S : Nat → Nat → Nat → Int32} {Q : Nat → Nat → Int32} (h : iS S Q) {s : Nat} (hs : s < 4) : (Q 2 s < 0) = (S s 1 0 = 0) := by
  apply propext
  rcases (h s hs).1 with ⟨e1, e2⟩ | ⟨e1, e2⟩
  · rw [e1, e2]; decide
  · rw [← e1]
    rcases e2 with e | e | e <;> rw [e] <;> decide
theorem iS.bits {S : Nat → Nat → Nat → Int32} {Q : Nat → Nat → Int32} (h : iS S Q) {s : Nat} (hs : s < 4) (h0 : ¬ S s 1 0 = 0) : Q 2 s = S s 1 0 := by
  rcases (h s hs).1 with ⟨e1, e2⟩ | ⟨e1, e2⟩
  · exact absurd e2 h0
  · exact e1
theorem iS.size {S : Nat → Nat → Nat → Int32} {Q : Nat → Nat → Int32} (h : iS S Q) {s : Nat} (hs : s < 4) : Q 3 s = S s 1 1 := (h s hs).2.2.1.symm
theorem iS.num {S : Nat → Nat → Nat → Int32} {Q : Nat → Nat → Int32} (h : iS S Q) {s j : Nat} (hs : s < 4) (hj : j < 40) : numS Q s j = S s 0 j := ((h s hs).2.2.2 j hj).symm
theorem iS.sizeL {S : Nat → Nat → Nat → Int32} {Q : Nat → Nat → Int32} (h : iS S Q) {s : Nat} (hs : s < 4) : ix (S s 1 1) ≤ 40 := by
  rw [← h.size hs]
  exact (bd_ix (h s hs).2.1 (by decide)).2
theorem sum_upd (f : Nat → Int32) (w : Nat) : ∀ k, sumS (upd f w (f w + 1)) k = if w < k then sumS f k + 1 else sumS f k
  | 0 => rfl
  | k + 1 => by
    show sumS (upd f w (f w + 1)) k + upd f w (f w + 1) k = _
    rw [sum_upd f w k]
    by_cases h1 : w < k
    · rw [if_pos h1, if_pos (by omega), upd_n f _ (by omega : k ≠ w)]
      show sumS f k + 1 + f k = sumS f k + f k + 1
      rw [Int32.add_assoc, Int32.add_comm 1, ← Int32.add_assoc]
    · by_cases h2 : w = k
      · subst h2
        rw [if_neg h1, if_pos (by omega), upd_s]
        show sumS f w + (f w + 1) = sumS f w + f w + 1
        rw [Int32.add_assoc]
      · rw [if_neg h1, if_neg (by omega), upd_n f _ (by omega : k ≠ w)]
        rfl
theorem inv_0 {t : Nat} {E Kp P : Nat → Nat → Int32} {S : Nat → Nat → Nat → Int32} {F K2 Q : Nat → Nat → Int32} (h : lInvA t E Kp P S F K2 Q) : lInvA (t + 1) E Kp P S F K2 Q := ⟨h.1.mono (by omega), h.2.1.mono (by omega), h.2.2⟩
theorem inv_E {t : Nat} {E Kp P E1 : Nat → Nat → Int32} {S : Nat → Nat → Nat → Int32} {F K2 Q : Nat → Nat → Int32} (h : lInvA t E Kp P S F K2 Q) (hE : iE (t + 1) E1) : lInvA (t + 1) E1 Kp P S F K2 Q := ⟨hE, h.2.1.mono (by omega), h.2.2⟩
theorem inv_S {t : Nat} {E Kp P : Nat → Nat → Int32} {S S1 : Nat → Nat → Nat → Int32} {F K2 Q Q1 : Nat → Nat → Int32} (h : lInvA t E Kp P S F K2 Q) (e0 : Q1 0 = Q 0) (e1 : Q1 1 = Q 1) (e6 : Q1 6 = Q 6) (hS : iS S1 Q1) : lInvA (t + 1) E Kp P S1 F K2 Q1 := by
  refine ⟨h.1.mono (by omega), ?_, ?_, hS, ?_⟩
  · unfold iK
    rw [e6]
    exact h.2.1.mono (by omega)
  · unfold iT
    rw [e1, e6]
    exact h.2.2.1
  · unfold iF
    rw [e0]
    exact h.2.2.2.2
theorem inv_f (w : Nat) (hw : w < 7) {t : Nat} {E Kp P : Nat → Nat → Int32} {S : Nat → Nat → Nat → Int32} {F K2 Q : Nat → Nat → Int32} (h : lInvA t E Kp P S F K2 Q) : lInvA (t + 1) E Kp P S (fndC F w) K2 (fndS Q w) := by
  refine ⟨h.1.mono (by omega), h.2.1.mono (by omega), h.2.2.1, h.2.2.2.1, ?_⟩
  obtain ⟨h1, h2⟩ := h.2.2.2.2
  have e0 : fndS Q w 0 = upd (upd (Q 0) 0 (Q 0 0 + 1)) (w + 1) (Q 0 (w + 1) + 1) := by
    unfold fndS
    rw [up_s, up_s]
  have e1 : fndC F w 0 = upd (F 0) w (F 0 w + 1) := by
    unfold fndC
    rw [up_s]
  refine ⟨fun v hv => ?_, ?_⟩
  · rw [e0, e1]
    by_cases e : v = w
    · subst e
      rw [upd_s, upd_s, h1 v hv]
    · rw [upd_n _ _ (by omega : v + 1 ≠ w + 1), upd_n _ _ (by omega : v + 1 ≠ 0), upd_n _ _ e, h1 v hv]
  · rw [e0, e1, sum_upd, if_pos hw, upd_n _ _ (by omega : 0 ≠ w + 1), upd_s, h2]
/-! equal questions -/
theorem fst_cg {p q : Nat → Bool} : ∀ {m : Nat}, (∀ j, j < m → p j = q j) → fstN p m = fstN q m
  | 0, _ => rfl
  | m + 1, h => by
    unfold fstN
    rw [fst_cg (m := m) (fun j hj => h j (by omega)), h m (by omega)]
theorem fst_first {p : Nat → Bool} : ∀ {m j : Nat}, j < fstN p m → p j = false
  | 0, _, h => absurd h (Nat.not_lt_zero _)
  | m + 1, j, h => by
    unfold fstN at h
    split at h
    · exact fst_first h
    · have h0 := fstN_le p m
      split at h
      · exact fst_first (m := m) (by omega)
      · rename_i h1 h2
        by_cases e : j = m
        · subst e
          cases h3 : p j with
          | false => rfl
          | true => exact absurd h3 h2
        · exact fst_first (m := m) (by omega)
theorem lik_cg {n : Nat} {E : Nat → Nat → Int32} {f g : Nat → Int32} {y : Nat} : ∀ {z : Nat}, (∀ j, j < z → f j = g j) → likS n E f y z = likS n E g y z
  | 0, _ => rfl
  | z + 1, h => by
    show (likS n E f y z && likB f (yearsS n 0 E z) y z) = (likS n E g y z && likB g (yearsS n 0 E z) y z)
    rw [lik_cg (fun j hj => h j (by omega))]
    unfold likB
    rw [h z (by omega)]
theorem ld_cg {E : Nat → Nat → Int32} {f g : Nat → Int32} : ∀ {k : Nat}, (∀ j, j < k → f j = g j) → ldE E f k = ldE E g k
  | 0, _ => rfl
  | k + 1, h => by
    show up (ldE E f k) 0 k (f k) = up (ldE E g k) 0 k (g k)
    rw [ld_cg (fun j hj => h j (by omega)), h k (by omega)]
theorem Wf_ld {E : Nat → Nat → Int32} {n : Nat} {f : Nat → Int32} (h : Wf E n) : ∀ {k : Nat}, (∀ j, j < k → bd (f j) 999) → Wf (ldE E f k) n
  | 0, _ => h
  | k + 1, hk => Wf_up0 (Wf_ld h (fun j hj => hk j (by omega))) (hk k (by omega))
/-! sheets -/
theorem rowP_s (R : Nat → Nat → Int32) (g : Nat → Int32) : rowP R 0 g 0 = g := rfl
theorem rowP_1 (R : Nat → Nat → Int32) (g : Nat → Int32) : rowP R 0 g 1 = R 1 := rfl
theorem becR_s (R : Nat → Nat → Int32) (b m : Int32) : (becR R b m 1 0 = b ∧ becR R b m 1 1 = if b = 0 then 0 else m) ∧ ∀ i, i < 40 → becR R b m 0 i = 0 := by
  refine ⟨?_, fun i hi => zR_0 _ 40 i hi⟩
  unfold becR
  rw [zR_1 _ rfl 40]
  exact ⟨rfl, rfl⟩
theorem zS_4 (Q : Nat → Nat → Int32) (t : Nat) : ∀ k j, zS Q t k 4 j = if 40 * t ≤ j ∧ j < 40 * t + k then 0 else Q 4 j
  | 0, j => by rw [if_neg (by omega)]; rfl
  | k + 1, j => by
    show up (zS Q t k) 4 (40 * t + k) 0 4 j = _
    rw [up_s]
    by_cases e : j = 40 * t + k
    · subst e
      rw [upd_s, if_pos (by omega)]
    · rw [upd_n _ _ e, zS_4 Q t k j]
      by_cases h : 40 * t ≤ j ∧ j < 40 * t + k
      · rw [if_pos h, if_pos (by omega)]
      · rw [if_neg h, if_neg (by omega)]
theorem iS_sheet {S : Nat → Nat → Nat → Int32} {Q : Nat → Nat → Int32} (h : iS S Q) {t : Nat} (ht : t < 4) {bits z : Int32} (hb : bitB bits = true) (h1 : ¬ z < 0) (h2 : ¬ 40 < z) : iS (st S t (becR (S t) bits z)) (shtQ Q t bits z) := by
  have hz : bd z 40 := (bd_iff (by decide)).mpr (by
    rw [lt_i] at h1 h2
    rw [show (0 : Int32).toInt = 0 by decide] at h1
    rw [show (40 : Int32).toInt = 40 by decide] at h2
    omega)
  intro s hs
  have e2 : shtQ Q t bits z 2 = upd (Q 2) t (if bits = 0 then -1 else bits) := by
    unfold shtQ
    rw [zS_n _ _ rfl 40, up_n _ _ _ _ rfl, up_s]
  have e3 : shtQ Q t bits z 3 = upd (Q 3) t (if bits = 0 then 0 else z) := by
    unfold shtQ
    rw [zS_n _ _ rfl 40, up_s, up_n _ _ _ _ rfl]
  have e4 : ∀ j, shtQ Q t bits z 4 j = if 40 * t ≤ j ∧ j < 40 * t + 40 then 0 else Q 4 j := fun j => by
    unfold shtQ
    rw [zS_4]
    rfl
  rw [e2, e3]
  by_cases e : s = t
  · subst e
    obtain ⟨⟨b1, b2⟩, b3⟩ := becR_s (S s) bits z
    rw [st_s, upd_s, upd_s, b1, b2]
    refine ⟨?_, ?_, rfl, fun i hi => ?_⟩
    · unfold iB
      unfold bitB at hb
      by_cases q0 : bits = 0
      · exact Or.inl ⟨if_pos q0, q0⟩
      · rw [if_neg q0] at hb ⊢
        refine Or.inr ⟨rfl, ?_⟩
        by_cases q1 : bits = 8
        · exact Or.inl q1
        · rw [if_neg q1] at hb
          by_cases q2 : bits = 16
          · exact Or.inr (Or.inl q2)
          · rw [if_neg q2] at hb
            by_cases q3 : bits = 32
            · exact Or.inr (Or.inr q3)
            · rw [if_neg q3] at hb
              cases hb
    · split
      · exact ⟨0, by omega, rfl⟩
      · exact hz
    · rw [b3 i hi, e4, if_pos (by omega)]
  · rw [st_n S _ e, upd_n _ _ e, upd_n _ _ e]
    obtain ⟨a1, a2, a3, a4⟩ := h s hs
    refine ⟨a1, a2, a3, fun i hi => ?_⟩
    rw [e4, if_neg (by omega)]
    exact a4 i hi
theorem iS_write {S : Nat → Nat → Nat → Int32} {Q : Nat → Nat → Int32} (h : iS S Q) {t : Nat} (ht : t < 4) (h0 : ¬ S t 1 0 = 0) {i : Nat} (hi : i < 40) {v : Int32} : iS (st S t (up (S t) 0 i (cutS (S t 1 0) v))) (up Q 4 (40 * t + i) (cutS (Q 2 t) v)) := by
  intro s hs
  obtain ⟨a1, a2, a3, a4⟩ := h s hs
  rw [up_n _ _ _ _ (show Nat.beq 2 4 = false from rfl), up_n _ _ _ _ (show Nat.beq 3 4 = false from rfl), up_s]
  by_cases e : s = t
  · subst e
    rw [st_s, up_n _ _ _ _ (show Nat.beq 1 0 = false from rfl), up_s, h.bits hs h0]
    rw [h.bits hs h0] at a1
    refine ⟨a1, a2, a3, fun j hj => ?_⟩
    by_cases e : j = i
    · subst e
      rw [upd_s, upd_s]
    · rw [upd_n _ _ e, upd_n _ _ (by omega : 40 * s + j ≠ 40 * s + i)]
      exact a4 j hj
  · rw [st_n S _ e]
    refine ⟨a1, a2, a3, fun j hj => ?_⟩
    rw [upd_n _ _ (by omega : 40 * s + j ≠ 40 * t + i)]
    exact a4 j hj
theorem has_eq {z p c : Int32} (hz : bd z 40) : hasB z p c = (if p < 0 then false else if c < 0 then false else if z - p < c then false else true) := by
  unfold hasB
  by_cases h1 : p < 0
  · rw [if_pos h1, if_pos h1]
  · rw [if_neg h1, if_neg h1]
    by_cases h2 : c < 0
    · rw [if_pos h2, if_pos h2]
    · rw [if_neg h2, if_neg h2]
      by_cases h3 : z < p
      · rw [if_pos h3, if_pos]
        have hz' := (bd_iff (by decide)).mp hz
        have lp := Int32.toInt_lt p
        rw [lt_i] at h1 h2 h3 ⊢
        rw [show (0 : Int32).toInt = 0 by decide] at h1 h2
        rw [toInt_sub (by omega) (by omega)]
        omega
      · rw [if_neg h3]
theorem cop_eq {S : Nat → Nat → Nat → Int32} {Q : Nat → Nat → Int32} (h : iS S Q) {t u : Nat} (ht : t < 4) (hu : u < 4) (p q c : Int32) : copB Q t p u q c = (hasB (S t 1 1) p c && hasB (S u 1 1) q c) := by
  have b1 := (h t ht).2.1
  have b2 := (h u hu).2.1
  rw [← h.size ht, ← h.size hu, has_eq b1, has_eq b2]
  unfold copB
  by_cases h1 : p < 0
  · rw [if_pos h1, if_pos h1]; rfl
  · rw [if_neg h1, if_neg h1]
    by_cases h2 : q < 0
    · rw [if_pos h2, if_pos h2, Bool.and_false]
    · rw [if_neg h2, if_neg h2]
      by_cases h3 : c < 0
      · rw [if_pos h3, if_pos h3]; rfl
      · rw [if_neg h3, if_neg h3, if_neg h3]
        by_cases h4 : Q 3 t - p < c
        · rw [if_pos h4, if_pos h4]; rfl
        · rw [if_neg h4, if_neg h4]; rfl
theorem iS_copy {S : Nat → Nat → Nat → Int32} {Q : Nat → Nat → Int32} (h : iS S Q) {t u : Nat} (ht : t < 4) (hu : u < 4) {p q c : Nat} (hp : p + c ≤ 40) (hq : q + c ≤ 40) : iS (cpyS S t p u q c) (mvQ Q (40 * t + p) (40 * u + q) 0 c) := by
  intro s hs
  obtain ⟨a1, a2, a3, a4⟩ := h s hs
  have e4 : ∀ j, mvQ Q (40 * t + p) (40 * u + q) 0 c 4 j = if 40 * u + q + 0 ≤ j ∧ j < 40 * u + q + c then Q 4 (40 * t + p + (j - (40 * u + q))) else Q 4 j := fun _ => rfl
  show iB (Q 2 s) _ ∧ bd (Q 3 s) 40 ∧ _ = Q 3 s ∧ _
  unfold cpyS
  by_cases e : s = u
  · subst e
    rw [st_s, rowP_s, rowP_1]
    refine ⟨a1, a2, a3, fun j hj => ?_⟩
    rw [e4]
    show (if q ≤ j ∧ j < q + c then S t 0 (p + (j - q)) else S s 0 j) = _
    by_cases h1 : q ≤ j ∧ j < q + c
    · rw [if_pos h1, if_pos (by omega), (h t ht).2.2.2 _ (by omega : p + (j - q) < 40)]
      congr 1
      omega
    · rw [if_neg h1, if_neg (by omega)]
      exact a4 j hj
  · rw [st_n S _ e]
    refine ⟨a1, a2, a3, fun j hj => ?_⟩
    rw [e4, if_neg (by omega)]
    exact a4 j hj
/-! the tape -/
theorem byt_bd (v : Int32) (i : Nat) : bd (bytS v i) 255 := by
  refine ⟨(bytS v i).toBitVec.toNat, ?_, ?_⟩
  · unfold bytS
    rw [Int32.toBitVec_and, BitVec.toNat_and]
    exact Nat.and_le_right
  · show bytS v i = Int32.ofNat _
    exact (Int32.ofBitVec_toBitVec _).symm.trans (congrArg Int32.ofBitVec (BitVec.ofNat_toNat _ _ ▸ (BitVec.setWidth_eq _).symm))
theorem iT_feed (v : Int32) : ∀ (i t : Nat) (P Q : Nat → Nat → Int32), (P 0 = Q 1 ∧ P 4 0 = Q 6 1 ∧ bd (Q 6 1) 120 ∧ ∀ j, j < 120 → bd (Q 1 j) 255) → t + i ≤ 120 → iT (fdC v i t P) (fdS v i t Q) ∧ (fdS v i t Q 0 = Q 0 ∧ fdS v i t Q 2 = Q 2 ∧ fdS v i t Q 3 = Q 3 ∧ fdS v i t Q 4 = Q 4 ∧ fdS v i t Q 6 0 = Q 6 0)
  | 0, _, _, _, h, _ => ⟨h, rfl, rfl, rfl, rfl, rfl⟩
  | i + 1, t, P, Q, h, hi => by
    obtain ⟨h1, h2, h3, h4⟩ := h
    obtain ⟨a, b0, b2, b3, b4, b6⟩ := iT_feed v i (t + 1) (up (up P 0 t (bytS v i)) 4 0 (nI (t + 1))) (up (up Q 1 t (bytS v i)) 6 1 (nI (t + 1))) ⟨by
      show up P 0 t (bytS v i) 0 = up Q 1 t (bytS v i) 1
      rw [up_s, up_s, h1], rfl, ⟨t + 1, by omega, rfl⟩, fun j hj => by
      show bd (up Q 1 t (bytS v i) 1 j) 255
      rw [up_s]
      exact bd_upd (h4 j hj) (byt_bd v i)⟩ (by omega)
    exact ⟨a, b0, b2, b3, b4, b6⟩
/-! texts keep the year and the turn -/
def k9 (E1 E : Nat → Nat → Int32) : Prop := E1 9 2 = E 9 2 ∧ E1 9 4 = E 9 4
theorem k9.tr {A B C : Nat → Nat → Int32} (h : k9 A B) (g : k9 B C) : k9 A C := ⟨h.1.trans g.1, h.2.trans g.2⟩
theorem pE_9 {c : Bool} {T : Nat → Int32} {L f m r i : Nat} {E : Nat → Nat → Int32} (hu : ∀ v, k9 (up E r i v) E) : k9 (pE c T L f m E r i) E := by
  unfold pE
  split
  · split
    · exact hu _
    · exact ⟨rfl, rfl⟩
  · exact ⟨rfl, rfl⟩
theorem new_9 (E : Nat → Nat → Int32) (n : Nat) (k b : Int32) : k9 (newS E n k b) E := ⟨rfl, rfl⟩
theorem oy_9 {T : Nat → Int32} {L n f n' f' : Nat} {E E' : Nat → Nat → Int32} {kd : Int32} (e : oyS T L E n kd f = .ok (E', n', f')) : k9 E' E := by
  unfold oyS at e
  split at e
  · cases e
  · split at e
    · split at e
      · split at e
        · injection e with e
          injection e with e1 e2
          subst e1
          exact (pE_9 (fun v => ⟨rfl, rfl⟩)).tr ((pE_9 (fun v => ⟨rfl, rfl⟩)).tr ((pE_9 (fun v => ⟨rfl, rfl⟩)).tr (new_9 _ _ _ _)))
        · cases e
      · cases e
    · cases e
theorem bed_9 {T : Nat → Int32} {L n f n' f' : Nat} {E E' : Nat → Nat → Int32} (e : bedS T L E n f = .ok (E', n', f')) : k9 E' E := by
  unfold bedS at e
  split at e
  · split at e
    · split at e
      · injection e with e
        injection e with e1 e2
        subst e1
        exact (pE_9 (fun v => ⟨rfl, rfl⟩)).tr (pE_9 (fun v => ⟨rfl, rfl⟩))
      · cases e
    · cases e
  · cases e
theorem com_9 {T : Nat → Int32} {L n f n' f' : Nat} {E E' : Nat → Nat → Int32} (e : comS T L E n f = .ok (E', n', f')) : k9 E' E := by
  unfold comS at e
  split at e
  · injection e with e
    injection e with e1 e2
    subst e1
    exact pE_9 (fun v => ⟨rfl, rfl⟩)
  · cases e
theorem it_9 {T : Nat → Int32} {L n f n' f' : Nat} {E E' : Nat → Nat → Int32} (e : itS T L E n f = .ok (E', n', f')) : k9 E' E := by
  unfold itS at e
  split at e
  · exact oy_9 e
  · split at e
    · exact bed_9 e
    · split at e
      · exact com_9 e
      · cases e
theorem con_9 {T : Nat → Int32} {L : Nat} : ∀ {m n f it n' it' : Nat} {E E' : Nat → Nat → Int32}, conS T L m E n f it = .ok (E', n', it') → k9 E' E
  | 0, _, _, _, _, _, _, _, e => by cases e
  | m + 1, n, f, it, n', it', E, E', e => by
    unfold conS at e
    split at e
    · split at e
      · cases e
      · rename_i h2
        exact (con_9 e).tr (it_9 h2)
    · split at e
      · injection e with e
        injection e with e1 e2
        subst e1
        exact ⟨rfl, rfl⟩
      · cases e
theorem iE_text {t n : Nat} {E : Nat → Nat → Int32} (h : Wf E n) (h4 : E 9 4 = 0) (h2 : bd (E 9 2) (60 * t)) (T : Nat → Int32) (L : Nat) : iE (t + 1) (txE (textS T L E n) E) := by
  cases e : textS T L E n with
  | error p => exact ⟨n, h, h4, bd_le h2 (by omega)⟩
  | ok r =>
    obtain ⟨E1, n1, it⟩ := r
    have hk : k9 E1 E := by
      unfold textS at e
      split at e
      · cases e
      · rename_i q
        exact (con_9 e).tr (it_9 q)
    exact ⟨n1, text_ok h e, hk.2.trans h4, by
      show bd (E1 9 2) _
      rw [hk.1]
      exact bd_le h2 (by omega)⟩
/-! the year's growth -/
theorem iE_up {t n1 : Nat} {E E1 : Nat → Nat → Int32} (h : Wf E1 n1) (h4 : E 9 4 = 0) (h2 : bd (E 9 2) (60 * t)) (hk : k9 E1 E) : iE (t + 1) E1 := ⟨n1, h, hk.2.trans h4, by rw [hk.1]; exact bd_le h2 (by omega)⟩
