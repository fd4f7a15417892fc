/-! ===== the class: told layers, bytes ===== -/
def cRel (r : Option Value) (E Kp P : Nat → Nat → Int32) (S : Nat → Nat → Nat → Int32) (F : Nat → Nat → Int32) : Option Value → kS → Prop := fun v u => v = r ∧ ∃ X : Nat → Nat → Int32, u = (E, X, Kp, P, S, F)
theorem yr_pred {n : Nat} {T : Nat → Nat → Int32} {i : Nat} (h : 0 < i) : yearS n 0 (yearsS n 0 T (i - 1)) = yearsS n 0 T i := by
  obtain ⟨j, rfl⟩ : ∃ j, i = j + 1 := ⟨i - 1, by omega⟩
  rfl
def fotS (S : Nat → Nat → Nat → Int32) (s y : Int32) (n : Nat) : Int32 := if inB s 0 3 = true then (if S (ix s) 1 0 = 0 then 5 else if oyB y n = true then (-1) else 0) else 0
theorem fot_c (S : Nat → Nat → Nat → Int32) (t y : Int32) (n : Nat) : (inB t 0 3 = false ∧ fotS S t y n = 0) ∨ (inB t 0 3 = true ∧ S (ix t) 1 0 = 0 ∧ fotS S t y n = 5) ∨ (inB t 0 3 = true ∧ (¬ S (ix t) 1 0 = 0) ∧ oyB y n = false ∧ fotS S t y n = 0) ∨ (inB t 0 3 = true ∧ (¬ S (ix t) 1 0 = 0) ∧ oyB y n = true ∧ fotS S t y n = -1) := by
  unfold fotS
  cases h1 : inB t 0 3 with
  | false => exact Or.inl ⟨rfl, rfl⟩
  | true =>
    by_cases h2 : S (ix t) 1 0 = 0
    · exact Or.inr (Or.inl ⟨rfl, h2, by rw [if_pos rfl, if_pos h2]⟩)
    · cases h3 : oyB y n with
      | false => exact Or.inr (Or.inr (Or.inl ⟨rfl, h2, rfl, by rw [if_pos rfl, if_neg h2]; rfl⟩))
      | true => exact Or.inr (Or.inr (Or.inr ⟨rfl, h2, rfl, by rw [if_pos rfl, if_neg h2]; rfl⟩))
theorem bytU_B (x : BitVec 32) (s : Nat) (h : s + 8 ≤ 32) : (x >>> s) &&& 255#32 = (x.sshiftRight s) &&& 255#32 := by
  apply BitVec.eq_of_getLsbD_eq
  intro i hi
  rw [BitVec.getLsbD_and, BitVec.getLsbD_and, BitVec.getLsbD_ushiftRight, BitVec.getLsbD_sshiftRight]
  by_cases h8 : i < 8
  · rw [if_pos (by omega : s + i < 32), decide_eq_false (by omega : ¬ 32 ≤ i)]
    rfl
  · have e : (255#32).getLsbD i = false := by
      have : ∀ i, i < 32 → ¬ i < 8 → (255#32).getLsbD i = false := by decide
      exact this i hi h8
    rw [e, Bool.and_false, Bool.and_false]
theorem bytU (v : Int32) (i : Nat) (hi : i < 4) : (v.toUInt32 >>> (((8 : Int32) * nI i).toUInt32 &&& Int32.toUInt32 31)).toInt32 &&& 255 = bytS v i := by
  have hu : ∀ i, i < 4 → (((8 : Int32) * nI i).toUInt32 &&& Int32.toUInt32 31).toBitVec = BitVec.ofNat 32 (8 * i) := by decide
  have hs : ∀ i, i < 4 → ((((8 : Int32) * nI i) &&& 31).toBitVec.smod 32).toNat = 8 * i := by decide +kernel
  unfold bytS
  apply Int32.toBitVec_inj.mp
  rw [Int32.toBitVec_and, Int32.toBitVec_and, Int32.toBitVec_shiftRight]
  show (v.toUInt32 >>> (((8 : Int32) * nI i).toUInt32 &&& Int32.toUInt32 31)).toBitVec &&& 255#32 = v.toBitVec.sshiftRight' ((((8 : Int32) * nI i) &&& 31).toBitVec.smod 32) &&& 255#32
  rw [UInt32.toBitVec_shiftRight, hu i hi, BitVec.sshiftRight', hs i hi, ← bytU_B v.toBitVec (8 * i) (by omega)]
  congr 1
  show v.toBitVec >>> ((BitVec.ofNat 32 (8 * i)) % 32#32) = v.toBitVec >>> (8 * i)
  have e : ((BitVec.ofNat 32 (8 * i)) % 32#32).toNat = 8 * i := by
    have : ∀ i, i < 4 → ((BitVec.ofNat 32 (8 * i)) % 32#32).toNat = 8 * i := by decide
    exact this i hi
  rw [BitVec.ushiftRight_eq', e]
def fdC (v : Int32) : Nat → Nat → (Nat → Nat → Int32) → Nat → Nat → Int32
  | 0, _, P => P
  | i + 1, t, P => fdC v i (t + 1) (up (up P 0 t (bytS v i)) 4 0 (nI (t + 1)))
