/-! ===== the law ===== -/
section VLW
variable {K : vK} {cc : ByteArray} {own : String} {tys : List (ClassId × FieldType)} {fr lo : Nat} {ws : va_W} {pc : Nat} {lv : List (Nat × Value)} {st : List Value} {q : List (Nat × Instr × Nat)}
theorem v_sld (h : vX K cc own tys fr lo) (P : vD cc q) (j : Nat) {b L : Nat} {xs : Nat → Int32} {x : Int32} (X : va_X b L xs K.2.1.1 K.2.1.1.heap) (hb : b < K.2.1.1.heap.size) (hA : ¬ K.2.2.1.2.1 b) (i : Nat) (d : q[j]? = some (pc, .iaload, 1)) (hx : x = nI i) (hi : i < L) (hL : L ≤ 3072) (k : V K ws (pc + 1) lv (.int (xs i) :: st)) : V K ws pc lv (.int x :: .ref b :: st) := by
  subst hx
  exact fun H locs ls hP hD hS hl => va_sld h.1 h.2.1 X hb hA hS (vp_in_nI hi (by omega)) (vD.at P d) (by rw [nI_clamp (by omega)]; exact k H locs ls hP hD hS hl)
theorem v_slen (h : vX K cc own tys fr lo) (P : vD cc q) (j : Nat) {b L : Nat} {xs : Nat → Int32} (X : va_X b L xs K.2.1.1 K.2.1.1.heap) (hb : b < K.2.1.1.heap.size) (hA : ¬ K.2.2.1.2.1 b) (d : q[j]? = some (pc, .arraylength, 1)) (k : V K ws (pc + 1) lv (.int (nI L) :: st)) : V K ws pc lv (.ref b :: st) := fun H locs ls hP hD hS hl => va_slen h.1 h.2.1 X hb hA hS (vD.at P d) (k H locs ls hP hD hS hl)
end VLW
def lW (cI cS : ClassId) (a b : Nat → Nat) (u : kS × mS) : va_W := cW cI cS a u.1 ++ mW cI b u.2
theorem emb_lc {cI cS : ClassId} {a b : Nat → Nat} {u : kS} {w : mS} : vEmb (cW cI cS a) u (lW cI cS a b (u, w)) (fun u => lW cI cS a b (u, w)) := vEmb_of (wr := mW cI b w) (List.range' 0 47) (List.range' 47 11) (List.range' 11 47 ++ List.range' 0 11) rfl rfl rfl rfl (by decide) rfl (fun _ => rfl)
theorem emb_lm {cI cS : ClassId} {a b : Nat → Nat} {u : kS} {w : mS} : vEmb (mW cI b) w (lW cI cS a b (u, w)) (fun w => lW cI cS a b (u, w)) := vEmb_of (wr := cW cI cS a u) (List.range' 47 11) (List.range' 0 47) (List.range' 0 58) rfl rfl rfl rfl (by decide) rfl (fun _ => rfl)
/-- what ties the two worlds, t operations in -/
def lInv (t : Nat) (u : kS) (w : mS) : Prop := u.1 = w.1 ∧ lInvA t u.1 u.2.2.1 u.2.2.2.1 u.2.2.2.2.1 u.2.2.2.2.2 w.2.1 w.2.2.2.2
theorem lInv_of {t : Nat} {r s v v' : Option Value} {E1 Kp1 P1 F1 K1 Q1 : Nat → Nat → Int32} {S1 : Nat → Nat → Nat → Int32} {u : kS} {w : mS} (hc : cPost r E1 Kp1 P1 S1 F1 v u) (hm : mPost s E1 K1 Q1 v' w) (hI : lInvA t E1 Kp1 P1 S1 F1 K1 Q1) : lInv t u w := by
  obtain ⟨-, c1, c2, c3, c4, c5⟩ := hc
  obtain ⟨-, m1, m2, q0, q1, q2, q3, q4, q5, q6⟩ := hm
  obtain ⟨hE, hK, hT, hS, hF⟩ := hI
  refine ⟨c1.trans m1.symm, ?_, ?_, ?_, ?_, ?_⟩
  · rw [c1]; exact hE
  · unfold iK
    rw [c2, m2, q5, c5.2]
    exact hK
  · unfold iT
    rw [c3.1, c3.2, q1, q6]
    exact hT
  · unfold iS
    rw [c4, q2, q3, q4]
    exact hS
  · unfold iF
    rw [c5.1, q0]
    exact hF
def lH (K : vK) (b0 L : Nat) (xs : Nat → Int32) (cI cS : ClassId) (x : xS) : Prop := vX K cL_law RL (vT cI cS) 13 482 ∧ K.2.2.1.2.2.2 = 4 ∧ va_X b0 L xs K.2.1.1 K.2.1.1.heap ∧ b0 < K.2.1.1.heap.size ∧ (¬ K.2.2.1.2.1 b0) ∧ exA x K.2.2.1.2.1 K.2.1.1
abbrev lLv (a b : Nat → Nat) (b0 t : Nat) : List (Nat × Value) := [(3, .int (nI (6 * t))), (2, .ref (b 0)), (1, .ref (a 0)), (0, .ref b0)]
theorem ix6_1 (t : Nat) : nI (6 * t) + 1 = nI (6 * t + 1) := nI_add _ 1
theorem ix6_2 (t : Nat) : nI (6 * t) + 2 = nI (6 * t + 2) := nI_add _ 2
theorem ix6_3 (t : Nat) : nI (6 * t) + 3 = nI (6 * t + 3) := nI_add _ 3
theorem ix6_4 (t : Nat) : nI (6 * t) + 4 = nI (6 * t + 4) := nI_add _ 4
theorem ix6_5 (t : Nat) : nI (6 * t) + 5 = nI (6 * t + 5) := nI_add _ 5
