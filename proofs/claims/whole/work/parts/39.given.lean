/-! ===== what the Statement gives of the start ===== -/
def flS : List Jvm.Cond := flatC (Jvm.Cond.and given_1 narrow_1)
def tmS (i : Nat) : Term := .string RX2 (strI i)
def vlS (i : Nat) : Term := .field (tmS i) "java/lang/String" "value" "[B"
def memC (l : List Jvm.Cond) (c : Jvm.Cond) : Bool := l.any (fun d => decide (d = c))
theorem memC_t {l : List Jvm.Cond} {c : Jvm.Cond} (h : memC l c = true) : c ∈ l := by
  unfold memC at h
  obtain ⟨d, hd, e⟩ := List.any_eq_true.mp h
  have e := of_decide_eq_true e
  exact e ▸ hd
theorem st_ex : ∀ i, i < 14 → memC flS (.exactly (tmS i) "java/lang/String") = true := by decide +kernel
theorem st_co : ∀ i, i < 14 → memC flS (.eq (.field (tmS i) "java/lang/String" "coder" "B") (.int 0)) = true := by decide +kernel
theorem st_ar : ∀ i, i < 14 → memC flS (.arrayOf (vlS i) .byte) = true := by decide +kernel
theorem st_le : ∀ i, i < 14 → memC flS (.eq (.length (vlS i)) (.int (Int32.ofNat (lenT.getD i 0)))) = true := by decide +kernel
theorem st_el : ∀ i, i < 14 → ∀ j, j < lenT.getD i 0 → memC flS (.eq (.elem (vlS i) (.int (Int32.ofNat j))) (.int ((bytT.getD i []).getD j 0))) = true := by decide +kernel
theorem st_ne : ∀ i, i < 14 → ∀ j, j < 14 → i < j → memC flS (.not (.eq (tmS i) (tmS j))) = true := by decide +kernel
theorem st_rf : ∀ i, i < 14 → memC tables_1 (.stringRef RX2 (strI i) (strT i)) = true := by decide +kernel
theorem ka_1 : memC flS (.arrayOf (.static RX3 "KIND_ABOVE" "[I") .int) = true := by decide +kernel
theorem ka_2 : memC flS (.eq (.length (.static RX3 "KIND_ABOVE" "[I")) (.int (Int32.ofNat 7))) = true := by decide +kernel
theorem ka_3 : ∀ j, j < 7 → memC flS (.eq (.elem (.static RX3 "KIND_ABOVE" "[I") (.int (Int32.ofNat j))) (.int (kaS j))) = true := by decide +kernel
theorem mw_1 : memC flS (.arrayOf (.static RX3 "MOST_OF_WHAT" "[I") .int) = true := by decide +kernel
theorem mw_2 : memC flS (.eq (.length (.static RX3 "MOST_OF_WHAT" "[I")) (.int (Int32.ofNat 6))) = true := by decide +kernel
theorem mw_3 : ∀ j, j < 6 → memC flS (.eq (.elem (.static RX3 "MOST_OF_WHAT" "[I") (.int (Int32.ofNat j))) (.int (mwS j))) = true := by decide +kernel
theorem cs_1 : memC flS (.eq (.static "java/lang/String" "COMPACT_STRINGS" "Z") (.int 1)) = true := by decide +kernel
theorem sf_1 : memC flS (.isRef (.static "jdk/internal/util/Preconditions" "SIOOBE_FORMATTER" "Ljava/util/function/BiFunction;")) = true := by decide +kernel
theorem tb_ka : memC tables_1 (.laysStatic RX3 "KIND_ABOVE" "[I") = true := by decide +kernel
theorem tb_mw : memC tables_1 (.laysStatic RX3 "MOST_OF_WHAT" "[I") = true := by decide +kernel
theorem tb_cs : memC tables_1 (.laysStatic "java/lang/String" "COMPACT_STRINGS" "Z") = true := by decide +kernel
theorem tb_sf : memC tables_1 (.laysStatic "jdk/internal/util/Preconditions" "SIOOBE_FORMATTER" "Ljava/util/function/BiFunction;") = true := by decide +kernel
theorem tb_i1 : memC tables_1 (.initialized "java/lang/String") = true := by decide +kernel
theorem tb_i2 : memC tables_1 (.initialized "jdk/internal/util/Preconditions") = true := by decide +kernel
theorem tb_i3 : memC tables_1 (.initialized RX3) = true := by decide +kernel
theorem tb_nw : memC tables_1 (.methodLinkNest RX2 54 yX3_isKind RX3) = true := by decide +kernel
theorem tb_ao : memC tables_1 (.arrayOver (.object "OysterSecrets$Sheet")) = true := by decide +kernel
theorem tb_in : memC tables_1 (.instantiable RX0 14) = true ∧ memC tables_1 (.instantiable RX1 3) = true ∧ memC tables_1 (.instantiable RX2 8) = true ∧ memC tables_1 (.instantiable RX3 8) = true ∧ memC tables_1 (.instantiable RX4 19) = true := by decide +kernel
theorem start_ex {args : Array Value} {s : State} (hts : ∀ w ∈ lw_tbl, w.before args s = true) (hgv : (Jvm.Cond.and given_1 narrow_1).before args s = true) : ∃ x : xS, exA x (fun q => s.heap.size ≤ q) s := by
  have hs : ∀ c, memC flS c = true → c.before args s = true := fun c hc => flat_of_before _ hgv c (memC_t hc)
  have ht : ∀ c, memC tables_1 c = true → c.before args s = true := fun c hc => hts c (List.mem_append_right _ (memC_t hc))
  have hA : ∀ a : Nat, a < s.heap.size → ¬ (fun q : Nat => s.heap.size ≤ q) a := fun a h => Nat.not_le.mpr h
  obtain ⟨adK, adV, hS, hev⟩ := vk_Sof (args := args) (s := s) (N := 14) (tm := tmS) (len := lenT) (byt := bytT) (A := fun q : Nat => s.heap.size ≤ q) (by decide) (fun i hi => hs _ (st_ex i hi)) (fun i hi => hs _ (st_co i hi)) (fun i hi => hs _ (st_ar i hi)) (fun i hi => hs _ (st_le i hi)) (fun i hi j hj => hs _ (st_el i hi j hj)) (fun i j hi hj hne => by
    rcases Nat.lt_or_gt_of_ne hne with h | h
    · exact Or.inl (hs _ (st_ne i hi j hj h))
    · exact Or.inr (hs _ (st_ne j hj i hi h))) hA
  obtain ⟨tk, ek, hk⟩ := va_Tof (args := args) (s := s) (tm := .static RX3 "KIND_ABOVE" "[I") (ty := .int) (N := 7) (f := fun j => .int (kaS j)) (A := fun q : Nat => s.heap.size ≤ q) (by decide) (hs _ ka_1) (va_eqt (hs _ ka_2)) (fun j hj => va_eqt (hs _ (ka_3 j hj))) hA
  obtain ⟨tw, ew, hw⟩ := va_Tof (args := args) (s := s) (tm := .static RX3 "MOST_OF_WHAT" "[I") (ty := .int) (N := 6) (f := fun j => .int (mwS j)) (A := fun q : Nat => s.heap.size ≤ q) (by decide) (hs _ mw_1) (va_eqt (hs _ mw_2)) (fun j hj => va_eqt (hs _ (mw_3 j hj))) hA
  exact ⟨(adK, adV, tk, tw), va_Nw.of rfl (ht _ tb_nw), fun i hi => vk_R.of (ht _ (st_rf i hi)) (hev i hi), hS, va_Zof (ht _ tb_cs) (ht _ tb_i1) (va_eqi (hs _ cs_1)) hA, va_Zqof (ht _ tb_sf) (ht _ tb_i2) (hs _ sf_1) hA, ⟨va_Zref (ht _ tb_ka) (ht _ tb_i3) ek hA, hk⟩, va_Zref (ht _ tb_mw) (ht _ tb_i3) ew hA, hw⟩
