/-! ===== texts ===== -/
theorem pE_wf {c : Bool} {T : Nat → Int32} {L f m n r i : Nat} {E : Nat → Nat → Int32} (hm : m < 1000) (h : Wf E n) (hu : ∀ v, bd v m → Wf (up E r i v) n) : Wf (pE c T L f m E r i) n := by
  unfold pE
  split
  · split
    · rename_i h2
      unfold nmOK at h2
      have h3 := (Bool.and_eq_true_iff.mp h2).2
      have h4 := inB_t m rfl (by omega) h3
      exact hu _ ⟨_, h4.2, h4.1⟩
    · exact h
  · exact h
theorem Wf_new {E : Nat → Nat → Int32} {n : Nat} {k b : Int32} (h : Wf E n) (hn : n < 8) (hk : bd k 6) (hb : bd b 5) : Wf (newS E n k b) (n + 1) := by
  have h0 : Wf (up E 9 0 (nI (n + 1))) (n + 1) := by
    refine ⟨by omega, rfl, h.2.2.1, h.2.2.2.1, h.2.2.2.2.1, ?_⟩
    intro k hk
    rcases h.2.2.2.2.2 k hk with e | ⟨j, hj, e⟩
    · exact Or.inl e
    · exact Or.inr ⟨j, by omega, e⟩
  unfold newS clearS
  exact Wf_up4 (Wf_up3 (Wf_up2 (Wf_up7 (Wf_up6 (Wf_up5 (Wf_up4 h0 ⟨0, by omega, rfl⟩) ⟨0, by omega, rfl⟩) ⟨0, by omega, rfl⟩) ⟨0, by omega, rfl⟩) hk) hb) ⟨10, by omega, rfl⟩
theorem oy_ok {T : Nat → Int32} {L n f n' f' : Nat} {E E' : Nat → Nat → Int32} {kd : Int32} (h : Wf E n) (hk : bd kd 6) (hf : f ≤ L) (e : oyS T L E n kd f = .ok (E', n', f')) : Wf E' n' ∧ f ≤ f' ∧ f' ≤ L := by
  unfold oyS at e
  split at e
  · cases e
  · rename_i h8
    have hn8 := h.1
    split at e
    · split at e
      · split at e
        · injection e with e
          injection e with e1 e2
          injection e2 with e2 e3
          subst e1 e2 e3
          refine ⟨?_, ?_, pF_le _ _ _ (pF_le _ _ _ (pF_le _ _ _ (nx_le hf)))⟩
          · have w0 := Wf_new (b := 0) h (by omega) hk ⟨0, by omega, rfl⟩
            have w1 := pE_wf (c := decide (so T L (nx T L f) = 9)) (T := T) (L := L) (f := nx T L f) (m := 5) (i := n) (by decide) w0 (fun v hv => Wf_up3 w0 hv)
            have w2 := pE_wf (c := decide (so T L (pF (decide (so T L (nx T L f) = 9)) T L (nx T L f) 5) = 10)) (T := T) (L := L) (f := pF (decide (so T L (nx T L f) = 9)) T L (nx T L f) 5) (m := 99) (i := n) (by decide) w1 (fun v hv => Wf_up4 w1 hv)
            exact pE_wf (by decide) w2 (fun v hv => Wf_up5 w2 hv)
          · exact Nat.le_trans (nx_ge T L f) (Nat.le_trans (pF_ge _ _ _ _ _) (Nat.le_trans (pF_ge _ _ _ _ _) (pF_ge _ _ _ _ _)))
        · cases e
      · cases e
    · cases e
theorem bed_ok {T : Nat → Int32} {L n f n' f' : Nat} {E E' : Nat → Nat → Int32} (h : Wf E n) (hf : f ≤ L) (e : bedS T L E n f = .ok (E', n', f')) : Wf E' n' ∧ f ≤ f' ∧ f' ≤ L := by
  unfold bedS at e
  split at e
  · split at e
    · split at e
      · injection e with e
        injection e with e1 e2
        injection e2 with e2 e3
        subst e1 e2 e3
        refine ⟨?_, ?_, pF_le _ _ _ (pF_le _ _ _ (nx_le (nx_le hf)))⟩
        · have w1 := pE_wf (c := decide (so T L (nx T L (nx T L f)) = 12)) (T := T) (L := L) (f := nx T L (nx T L f)) (m := 999) (i := ix (nmV T L (nx T L f))) (by decide) h (fun v hv => Wf_up0 h hv)
          exact pE_wf (by decide) w1 (fun v hv => Wf_up1 w1 hv)
        · exact Nat.le_trans (Nat.le_trans (nx_ge T L f) (nx_ge T L _)) (Nat.le_trans (pF_ge _ _ _ _ _) (pF_ge _ _ _ _ _))
      · cases e
    · cases e
  · cases e
theorem com_ok {T : Nat → Int32} {L n f n' f' : Nat} {E E' : Nat → Nat → Int32} (h : Wf E n) (hf : f ≤ L) (e : comS T L E n f = .ok (E', n', f')) : Wf E' n' ∧ f ≤ f' ∧ f' ≤ L := by
  unfold comS at e
  split at e
  · injection e with e
    injection e with e1 e2
    injection e2 with e2 e3
    subst e1 e2 e3
    exact ⟨pE_wf (by decide) h (fun v hv => Wf_up91 h hv), pF_ge _ _ _ _ _, pF_le _ _ _ hf⟩
  · cases e
theorem it_ok {T : Nat → Int32} {L n f n' f' : Nat} {E E' : Nat → Nat → Int32} (h : Wf E n) (hf : f ≤ L) (e : itS T L E n f = .ok (E', n', f')) : Wf E' n' ∧ f ≤ f' ∧ f' ≤ L := by
  unfold itS at e
  split at e
  · exact oy_ok h ⟨so T L f, by omega, rfl⟩ hf e
  · split at e
    · exact bed_ok h hf e
    · split at e
      · exact com_ok h hf e
      · cases e
def conS (T : Nat → Int32) (L : Nat) : Nat → (Nat → Nat → Int32) → Nat → Nat → Nat → TR
  | 0, _, _, _, _ => .error 0
  | m + 1, E, n, f, it => if tk T L f = 3 then (match itS T L E n (nx T L f) with | .error p => .error p | .ok (E', n', f') => conS T L m E' n' f' (it + 1)) else if tk T L f = 0 then .ok (E, n, it) else .error f
def textS (T : Nat → Int32) (L : Nat) (E : Nat → Nat → Int32) (n : Nat) : TR := match itS T L E n (sk T L 0) with | .error p => .error p | .ok (E', n', f') => conS T L (L + 1) E' n' f' 1
def txA (r : TR) : Int32 := match r with | .error p => -1 - nI p | .ok (_, _, it) => nI it
def txE (r : TR) (E : Nat → Nat → Int32) : Nat → Nat → Int32 := match r with | .error _ => E | .ok (E', _, _) => E'
theorem tkF_0 {Q : Nat → Nat → Int32} {L f : Nat} {fa : Int32} : tkF (up Q 6 6 0) L f fa = tkF Q L f fa := by
  have e : up Q 6 6 0 = tkQ Q (Q 6 4) (Q 6 5) 0 (Q 6 7) (Q 6 8) := by
    rw [← tkQ_6 (c := Q 6 6), tkQ_id]
  rw [e]
  exact tkQ_tkQ
theorem con_ok {T : Nat → Int32} {L : Nat} : ∀ {m n f it n' it' : Nat} {E E' : Nat → Nat → Int32}, Wf E n → f ≤ L → conS T L m E n f it = .ok (E', n', it') → Wf E' n'
  | 0, _, _, _, _, _, _, _, _, _, e => by cases e
  | m + 1, n, f, it, n', it', E, E', h, hf, e => by
    unfold conS at e
    split at e
    · split at e
      · cases e
      · rename_i E2 n2 f2 h2
        have h3 := it_ok h (nx_le hf) h2
        exact con_ok h3.1 h3.2.2 e
    · split at e
      · injection e with e
        injection e with e1 e2
        injection e2 with e2 e3
        subst e1 e2 e3
        exact h
      · cases e
theorem text_ok {T : Nat → Int32} {L n n' it : Nat} {E E' : Nat → Nat → Int32} (h : Wf E n) (e : textS T L E n = .ok (E', n', it)) : Wf E' n' := by
  unfold textS at e
  have h0 : sk T L 0 ≤ L := sc_le _ (by omega)
  split at e
  · cases e
  · rename_i E2 n2 f2 h2
    have h3 := it_ok h h0 h2
    exact con_ok h3.1 h3.2.2 e
