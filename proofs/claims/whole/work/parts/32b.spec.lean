/-! ===== the class: text, kinds ===== -/
theorem tx_neg {p : Nat} (h : p ≤ 1000) : (-1 : Int32) - nI p < 0 := by
  have e0 : (0 : Int32).toInt = 0 := by decide
  have e1 : (-1 : Int32).toInt = -1 := by decide
  have ep : (nI p).toInt = p := nI_toInt (by omega)
  rw [lt_i, toInt_sub (by omega) (by omega)]
  omega
def asC (E : Nat → Nat → Int32) (s : Nat) (kd : Int32) (F : Nat → Nat → Int32) : Nat → Nat → Int32 := if E 8 s = -1 then fndC F 5 else if underB (E 2 (ix (E 8 s))) kd = true then F else fndC F 2
theorem spot_no {E : Nat → Nat → Int32} {n k : Nat} (h : Wf E n) (hk : k < 10) (hb : oyB (E 8 k) n = false) : E 8 k = -1 := by
  rcases h.2.2.2.2.2 k hk with e | ⟨j, hj, e⟩
  · exact e
  · have hn := h.1
    rw [e, oyB_nI (by omega) (by omega), decide_eq_true hj] at hb
    cases hb
theorem kd_ix {E : Nat → Nat → Int32} {n i : Nat} (h : Wf E n) (hi : i < 8) : E 2 i = nI (ix (E 2 i)) ∧ ix (E 2 i) ≤ 6 := bd_ix (h.2.2.1 i hi).1 (by decide)
