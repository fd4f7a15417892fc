/-! ===== storms, odds, bytes ===== -/
def drwZ (z : Int32) : Int32 := z * 1103515245 + 12345
def drwV (x : Int32) : Int32 := (x.toUInt32 >>> (Int32.toUInt32 8 &&& Int32.toUInt32 31)).toInt32
theorem drwV_n (x : Int32) : ∃ a, a < 2 ^ 24 ∧ drwV x = nI a := by
  refine ⟨(x.toUInt32 >>> (Int32.toUInt32 8 &&& Int32.toUInt32 31)).toNat, ?_, ?_⟩
  · rw [show (Int32.toUInt32 8 &&& Int32.toUInt32 31) = 8 by decide, UInt32.toNat_shiftRight]
    have h := x.toUInt32.toNat_lt
    rw [show (8 : UInt32).toNat % 32 = 8 by decide, Nat.shiftRight_eq_div_pow]
    omega
  · apply Int32.toBitVec_inj.mp
    show _ = BitVec.ofNat 32 _
    rw [← UInt32.toNat_toBitVec, BitVec.ofNat_toNat]
    rfl
theorem drw_bd (x : Int32) (d : Nat) (h0 : 0 < d) (hd : d < 100) : bd (rem (drwV x) (nI d)) (d - 1) := by
  obtain ⟨a, ha, e⟩ := drwV_n x
  rw [e]
  refine ⟨a % d, ?_, ?_⟩
  · have := Nat.mod_lt a h0; omega
  · have h := pk_rem (a := a) (d := d) (by omega) h0 (by omega)
    rw [← h]
    rfl
def stmS (n : Nat) (E : Nat → Nat → Int32) : Nat → Nat → Int32 :=
  yearS n 0 (if oyB (rem (drwV (drwZ (E 9 3))) 8) n = true then up (up (up E 9 3 (drwZ (E 9 3))) 9 3 (drwZ (drwZ (E 9 3)))) 3 (ix (rem (drwV (drwZ (E 9 3))) 8)) (rem (drwV (drwZ (drwZ (E 9 3)))) 6) else up (up E 9 3 (drwZ (E 9 3))) 9 3 (drwZ (drwZ (E 9 3))))
def stmsS (n : Nat) (E : Nat → Nat → Int32) : Nat → Nat → Nat → Int32
  | 0 => E
  | k + 1 => stmS n (stmsS n E k)
theorem Wf_stm {E : Nat → Nat → Int32} {n : Nat} (h : Wf E n) : Wf (stmS n E) n := by
  unfold stmS
  apply Wf_year
  split
  · exact Wf_up3 (Wf_up9 (Wf_up9 h (by decide)) (by decide)) (drw_bd _ 6 (by decide) (by decide))
  · exact Wf_up9 (Wf_up9 h (by decide)) (by decide)
theorem Wf_stms {E : Nat → Nat → Int32} {n : Nat} (h : Wf E n) : ∀ k, Wf (stmsS n E k) n
  | 0 => h
  | k + 1 => Wf_stm (Wf_stms h k)
theorem stm_bd {E : Nat → Nat → Int32} {n m : Nat} (h : bd (E 9 2) m) (hm : m + 1 ≤ 99999) : bd (stmS n E 9 2) (m + 1) := by
  unfold stmS
  apply yearS_bd _ hm
  split
  · exact h
  · exact h
theorem stms_bd {E : Nat → Nat → Int32} {n m : Nat} (h : bd (E 9 2) m) : ∀ k, m + k ≤ 99999 → bd (stmsS n E k 9 2) (m + k)
  | 0, _ => h
  | k + 1, hk => stm_bd (stms_bd h k (by omega)) (by omega)
def pwL (x : Int64) : Nat → Int64
  | 0 => 1
  | k + 1 => pwL x k * x
def evL (x : Int64) : Bool := decide (lg_cmp (x - x / 2 * 2) 0 = 0)
def fnL : Nat → Int64 → Int64 → Bool
  | 0, _, _ => false
  | m + 1, a, b => if (evL a && evL b) = true then fnL m (a / 2) (b / 2) else true
def rdL : Nat → Int64 → Int64 → Int64 × Int64
  | 0, a, b => (a, b)
  | m + 1, a, b => if (evL a && evL b) = true then rdL m (a / 2) (b / 2) else (a, b)
def bel (a b : Int64) : Int64 := if lg_cmp a 0 = 0 then 1 else b
theorem fn_tab : ∀ o, o < 9 → ∀ k, k < 21 → fnL 62 (pwL (nI o).toInt64 k) (bel (pwL (nI o).toInt64 k) (pwL 8 k)) = true := by decide +kernel
def odS (o k : Nat) (w : Int32) : Int64 := if w = 0 then (rdL 62 (pwL (nI o).toInt64 k) (bel (pwL (nI o).toInt64 k) (pwL 8 k))).1 else (rdL 62 (pwL (nI o).toInt64 k) (bel (pwL (nI o).toInt64 k) (pwL 8 k))).2
theorem rdL_1 {m : Nat} {a b : Int64} (h : evL a = true) (h2 : evL b = true) : rdL (m + 1) a b = rdL m (a / 2) (b / 2) := by
  rw [rdL, h, h2]
  rfl
theorem fnL_1 {m : Nat} {a b : Int64} (h : evL a = true) (h2 : evL b = true) (hf : fnL (m + 1) a b = true) : fnL m (a / 2) (b / 2) = true := by
  rw [fnL, h, h2] at hf
  exact hf
theorem rdL_0 {m : Nat} {a b : Int64} (h : (evL a && evL b) = false) : rdL (m + 1) a b = (a, b) := by
  rw [rdL, h]
  rfl
theorem popc_up : ∀ k, k < 8 → ∀ a, a < 2 ^ k → popc (a + 2 ^ k) = popc a + 1 := by decide +kernel
theorem popc_set (p : Nat → Bool) : ∀ k, k ≤ 8 → popc (setN p k) ≤ k
  | 0, _ => (by decide : popc 0 ≤ 0)
  | k + 1, h => by
    have ih := popc_set p k (by omega)
    unfold setN
    split
    · rw [popc_up k (by omega) _ (setN_lt p k)]
      omega
    · omega
theorem nI_sb {a b : Nat} (h : b ≤ a) : nI a - nI b = nI (a - b) := by
  have e := nI_add (a - b) b
  rw [Nat.sub_add_cancel h] at e
  rw [← e]
  exact Int32.add_sub_cancel _ _
def bytS (v : Int32) (i : Nat) : Int32 := (v >>> (((8 : Int32) * nI i) &&& 31)) &&& 255
def fdS (v : Int32) : Nat → Nat → (Nat → Nat → Int32) → Nat → Nat → Int32
  | 0, _, Q => Q
  | i + 1, t, Q => fdS v i (t + 1) (up (up Q 1 t (bytS v i)) 6 1 (nI (t + 1)))
theorem WfQ.taped {Q : Nat → Nat → Int32} (h : WfQ Q) : Q 6 1 = nI (ix (Q 6 1)) := (bd_ix h.2.1 (by decide)).1
theorem WfQ.tapedL {Q : Nat → Nat → Int32} (h : WfQ Q) : ix (Q 6 1) ≤ 120 := (bd_ix h.2.1 (by decide)).2
