/-! ===== the class's tape, read ===== -/
/-- where the tokens start -/
def St (T : Nat → Int32) (L : Nat) : Nat → Nat
  | 0 => sk T L 0
  | k + 1 => nx T L (St T L k)
theorem St_le (T : Nat → Int32) (L : Nat) : ∀ k, St T L k ≤ L
  | 0 => sc_le _ (Nat.zero_le _)
  | k + 1 => nx_le (St_le T L k)
def splP (P : Nat → Nat → Int32) (L k : Nat) : Nat → Nat → Int32 := fun r => cond (Nat.beq r 1) (fillK (fun j => nI (so (P 0) L (St (P 0) L j))) (P 1) k) (cond (Nat.beq r 2) (fillK (fun j => nI (St (P 0) L j)) (P 2) k) (cond (Nat.beq r 3) (fillK (fun j => nvC (P 0) L (St (P 0) L j)) (P 3) k) (cond (Nat.beq r 4) (fun j => cond (Nat.beq j 1) (nI k) (cond (Nat.beq j 2) 0 (P 4 j))) (P r))))
def tpS (P : Nat → Nat → Int32) (L N k : Nat) (v : Int32) : Nat → Nat → Int32 := fun r => cond (Nat.beq r 1) (fillK (fun j => nI (so (P 0) L (St (P 0) L j))) (P 1) (N + 1)) (cond (Nat.beq r 2) (fillK (fun j => nI (St (P 0) L j)) (P 2) (N + 1)) (cond (Nat.beq r 3) (fillK (fun j => nvC (P 0) L (St (P 0) L j)) (P 3) (N + 1)) (cond (Nat.beq r 4) (fun j => cond (Nat.beq j 1) (nI N) (cond (Nat.beq j 2) (nI k) (cond (Nat.beq j 3) v (P 4 j)))) (P r))))
theorem fillK_0 (f g : Nat → Int32) : fillK f g 0 = g := by
  funext j
  exact if_neg (by omega)
theorem row_ext {A B : Nat → Nat → Int32} (h1 : A 1 = B 1) (h2 : A 2 = B 2) (h3 : A 3 = B 3) (h4 : A 4 = B 4) (h : ∀ r, r ≠ 1 → r ≠ 2 → r ≠ 3 → r ≠ 4 → A r = B r) : A = B := by
  funext r
  by_cases e1 : r = 1
  · subst e1; exact h1
  by_cases e2 : r = 2
  · subst e2; exact h2
  by_cases e3 : r = 3
  · subst e3; exact h3
  by_cases e4 : r = 4
  · subst e4; exact h4
  exact h r e1 e2 e3 e4
theorem splP_r (P : Nat → Nat → Int32) (L k : Nat) {r : Nat} (h1 : r ≠ 1) (h2 : r ≠ 2) (h3 : r ≠ 3) (h4 : r ≠ 4) : splP P L k r = P r := by
  unfold splP
  rw [beq_f h1, beq_f h2, beq_f h3, beq_f h4]
  rfl
theorem tpS_r (P : Nat → Nat → Int32) (L N k : Nat) (v : Int32) {r : Nat} (h1 : r ≠ 1) (h2 : r ≠ 2) (h3 : r ≠ 3) (h4 : r ≠ 4) : tpS P L N k v r = P r := by
  unfold tpS
  rw [beq_f h1, beq_f h2, beq_f h3, beq_f h4]
  rfl
theorem upd_e {f g : Nat → Int32} {k : Nat} {x : Int32} (h1 : g k = x) (h2 : ∀ j, j ≠ k → g j = f j) : upd f k x = g := by
  funext j
  unfold upd
  split
  · rename_i h; rw [h, h1]
  · rename_i h; exact (h2 j h).symm
theorem spl_0 (P : Nat → Nat → Int32) (L : Nat) : up (up P 4 2 0) 4 1 0 = splP P L 0 := by
  apply row_ext
  · exact (fillK_0 (fun j => nI (so (P 0) L (St (P 0) L j))) (P 1)).symm
  · exact (fillK_0 (fun j => nI (St (P 0) L j)) (P 2)).symm
  · exact (fillK_0 (fun j => nvC (P 0) L (St (P 0) L j)) (P 3)).symm
  · show upd (upd (P 4) 2 0) 1 0 = fun j => cond (Nat.beq j 1) (nI 0) (cond (Nat.beq j 2) 0 (P 4 j))
    refine upd_e rfl (fun j hj => ?_)
    rw [beq_f hj]
    show cond (Nat.beq j 2) 0 (P 4 j) = upd (P 4) 2 0 j
    unfold upd
    by_cases h : j = 2
    · rw [if_pos h, h]; rfl
    · rw [if_neg h, beq_f h]; rfl
  · intro r h1 h2 h3 h4
    rw [splP_r _ _ _ h1 h2 h3 h4, up_n _ _ _ _ (beq_f h4), up_n _ _ _ _ (beq_f h4)]
theorem spl_s (P : Nat → Nat → Int32) (L k p : Nat) (hp : St (P 0) L k = p) : up (up (up (up (splP P L k) 2 k (nI p)) 1 k (nI (so (P 0) L p))) 3 k (nvC (P 0) L p)) 4 1 (nI (k + 1)) = splP P L (k + 1) := by
  subst hp
  apply row_ext
  · exact fillK_s (fun j => nI (so (P 0) L (St (P 0) L j))) (P 1) k
  · exact fillK_s (fun j => nI (St (P 0) L j)) (P 2) k
  · exact fillK_s (fun j => nvC (P 0) L (St (P 0) L j)) (P 3) k
  · show upd (splP P L k 4) 1 (nI (k + 1)) = splP P L (k + 1) 4
    refine upd_e rfl (fun j hj => ?_)
    show cond (Nat.beq j 1) (nI (k + 1)) (cond (Nat.beq j 2) 0 (P 4 j)) = cond (Nat.beq j 1) (nI k) (cond (Nat.beq j 2) 0 (P 4 j))
    rw [beq_f hj]
    rfl
  · intro r h1 h2 h3 h4
    rw [splP_r _ _ _ h1 h2 h3 h4, up_n _ _ _ _ (beq_f h4), up_n _ _ _ _ (beq_f h3), up_n _ _ _ _ (beq_f h1), up_n _ _ _ _ (beq_f h2), splP_r _ _ _ h1 h2 h3 h4]
theorem so_L (T : Nat → Int32) (L : Nat) : so T L L = 16 := by
  have h : tk T L L = 0 := by rw [tk, if_neg (by omega)]
  rw [so, if_pos h]
theorem nv_L (T : Nat → Int32) (L : Nat) : nvC T L L = 0 := by
  have h : tk T L L = 0 := by rw [tk, if_neg (by omega)]
  rw [nvC, h]
  rfl
theorem spl_e (P : Nat → Nat → Int32) (L k : Nat) (hp : St (P 0) L k = L) : up (up (up (splP P L k) 2 k (nI L)) 1 k 16) 3 k 0 = tpS P L k 0 (P 4 3) := by
  apply row_ext
  · have e := fillK_s (fun j => nI (so (P 0) L (St (P 0) L j))) (P 1) k
    have e2 : nI (so (P 0) L (St (P 0) L k)) = 16 := by rw [hp, so_L]; rfl
    rw [e2] at e
    exact e
  · have e := fillK_s (fun j => nI (St (P 0) L j)) (P 2) k
    rw [congrArg nI hp] at e
    exact e
  · have e := fillK_s (fun j => nvC (P 0) L (St (P 0) L j)) (P 3) k
    have e3 : nvC (P 0) L (St (P 0) L k) = 0 := by rw [hp, nv_L]
    rw [e3] at e
    exact e
  · funext j
    show cond (Nat.beq j 1) (nI k) (cond (Nat.beq j 2) 0 (P 4 j)) = cond (Nat.beq j 1) (nI k) (cond (Nat.beq j 2) (nI 0) (cond (Nat.beq j 3) (P 4 3) (P 4 j)))
    by_cases h : j = 3
    · subst h; rfl
    · rw [beq_f h]; rfl
  · intro r h1 h2 h3 h4
    rw [tpS_r _ _ _ _ _ h1 h2 h3 h4, up_n _ _ _ _ (beq_f h3), up_n _ _ _ _ (beq_f h1), up_n _ _ _ _ (beq_f h2), splP_r _ _ _ h1 h2 h3 h4]
theorem sk_sp {T : Nat → Int32} {L p : Nat} (hp : p < L) (h : T p = 32) : en T L p = p + 1 ∧ sk T L p = sk T L (p + 1) :=
  ⟨en_o hp (by rw [h]; decide) (by rw [h]; decide), sc_t (q := fun i => decide (T i = 32)) hp (decide_eq_true h)⟩
theorem sk_ns {T : Nat → Int32} {L p : Nat} (h : ¬ T p = 32) : sk T L p = p := sc_f (q := fun i => decide (T i = 32)) (decide_eq_false h)
theorem sk_L {T : Nat → Int32} {L p : Nat} (h : L ≤ p) : sk T L p = p := sc_L h
/-- where the token starts that is the first at p or behind -/
def ns (T : Nat → Int32) (L p : Nat) : Nat := sk T L (sc (fun i => tgB T L i) L p)
theorem tg_32 {T : Nat → Int32} {L p : Nat} (h : T p = 32) : tgB T L p = false := by
  have h1 : ltB (T p) = false := by rw [h]; decide
  have h2 : dgB (T p) = false := by rw [h]; decide
  rw [tgB]
  split
  · rfl
  · rw [h1, h2, Bool.and_false, Bool.and_false]; rfl
theorem tg_33 {T : Nat → Int32} {L p : Nat} (h : T p = 32) : tgB T L (p + 1) = false := by
  have h1 : ltB (T p) = false := by rw [h]; decide
  have h2 : dgB (T p) = false := by rw [h]; decide
  by_cases hp : p + 1 < L
  · rw [tg_s hp, h1, h2]; rfl
  · rw [tgB, if_pos (by omega)]
theorem tg_00 (T : Nat → Int32) (L : Nat) : tgB T L 0 = false := by rw [tgB, if_pos (by omega)]
theorem ns_0 (T : Nat → Int32) (L : Nat) : ns T L 0 = St T L 0 := congrArg (sk T L) (sc_f (q := fun i => tgB T L i) (tg_00 T L))
theorem ns_sp {T : Nat → Int32} {L p : Nat} (hp : p < L) (h : T p = 32) : ns T L (p + 1) = ns T L p := by
  unfold ns
  rw [sc_f (q := fun i => tgB T L i) (tg_33 h), sc_f (q := fun i => tgB T L i) (tg_32 h)]
  exact (sk_sp hp h).2.symm
theorem ns_tg {T : Nat → Int32} {L p : Nat} (hp : p < L) (h : tgB T L p = true) : ns T L (p + 1) = ns T L p := congrArg (sk T L) (sc_t (q := fun i => tgB T L i) hp h).symm
theorem ns_at {T : Nat → Int32} {L p : Nat} (h : ¬ T p = 32) (h2 : tgB T L p = false) : ns T L p = p := (congrArg (sk T L) (sc_f (q := fun i => tgB T L i) h2)).trans (sk_ns h)
theorem ns_nx {T : Nat → Int32} {L p : Nat} (hp : p < L) : ns T L (p + 1) = nx T L p := congrArg (sk T L) (en_g hp).symm
theorem ns_L (T : Nat → Int32) (L : Nat) : ns T L L = L := (congrArg (sk T L) (sc_L (q := fun i => tgB T L i) (Nat.le_refl L))).trans (sk_L (Nat.le_refl L))
def splQ (P : Nat → Nat → Int32) (L : Nat) : Option Value → (Nat → Nat → Int32) → Prop := fun v u => v = none ∧ ∃ N, N ≤ L ∧ (∀ j, j < N → St (P 0) L j < L) ∧ St (P 0) L N = L ∧ u = tpS P L N 0 (P 4 3)
theorem tp_1 {P : Nat → Nat → Int32} {L N k j : Nat} {v : Int32} (h : j ≤ N) : tpS P L N k v 1 j = nI (so (P 0) L (St (P 0) L j)) := fillK_in (f := fun j => nI (so (P 0) L (St (P 0) L j))) (by omega)
theorem tp_2 {P : Nat → Nat → Int32} {L N k j : Nat} {v : Int32} (h : j ≤ N) : tpS P L N k v 2 j = nI (St (P 0) L j) := fillK_in (f := fun j => nI (St (P 0) L j)) (by omega)
theorem tp_3 {P : Nat → Nat → Int32} {L N k j : Nat} {v : Int32} (h : j ≤ N) : tpS P L N k v 3 j = nvC (P 0) L (St (P 0) L j) := fillK_in (f := fun j => nvC (P 0) L (St (P 0) L j)) (by omega)
theorem tpS_u {P : Nat → Nat → Int32} {L N k k' : Nat} {v v' : Int32} {i : Nat} {x : Int32} (h : upd (tpS P L N k v 4) i x = tpS P L N k' v' 4) : up (tpS P L N k v) 4 i x = tpS P L N k' v' := by
  funext r
  by_cases e : r = 4
  · subst e; rw [up_s]; exact h
  · rw [up_n _ _ _ _ (beq_f e)]
    unfold tpS
    rw [beq_f e]
    rfl
theorem tpS_at {P : Nat → Nat → Int32} {L N k k' : Nat} {v : Int32} : up (tpS P L N k v) 4 2 (nI k') = tpS P L N k' v := tpS_u (upd_e rfl (fun j hj => by
  show cond (Nat.beq j 1) (nI N) (cond (Nat.beq j 2) (nI k') (cond (Nat.beq j 3) v (P 4 j))) = cond (Nat.beq j 1) (nI N) (cond (Nat.beq j 2) (nI k) (cond (Nat.beq j 3) v (P 4 j)))
  rw [beq_f hj]
  rfl))
theorem tpS_va {P : Nat → Nat → Int32} {L N k : Nat} {v w : Int32} : up (tpS P L N k v) 4 3 w = tpS P L N k w := tpS_u (upd_e rfl (fun j hj => by
  show cond (Nat.beq j 1) (nI N) (cond (Nat.beq j 2) (nI k) (cond (Nat.beq j 3) w (P 4 j))) = cond (Nat.beq j 1) (nI N) (cond (Nat.beq j 2) (nI k) (cond (Nat.beq j 3) v (P 4 j)))
  rw [beq_f hj]
  rfl))
theorem tW_t2 {cI : ClassId} {a : Nat → Nat} {P : Nat → Nat → Int32} {L N k k' : Nat} {v : Int32} : (tW cI a (tpS P L N k v)).set 0 (a 0, .inr (2, (tF a (tpS P L N k v)).set 6 (.int (nI k')))) = tW cI a (tpS P L N k' v) := tW_p2.trans (by rw [tpS_at])
theorem tW_t3 {cI : ClassId} {a : Nat → Nat} {P : Nat → Nat → Int32} {L N k : Nat} {v w : Int32} : (tW cI a (tpS P L N k v)).set 0 (a 0, .inr (2, (tF a (tpS P L N k v)).set 7 (.int w))) = tW cI a (tpS P L N k w) := tW_p3.trans (by rw [tpS_va])
def pfK (T : Nat → Int32) (L k c : Nat) : Nat := if so T L (St T L k) = c then k + 1 else k
theorem pfK_t {T : Nat → Int32} {L k c : Nat} (h : so T L (St T L k) = c) : pfK T L k c = k + 1 := if_pos h
theorem pfK_f {T : Nat → Int32} {L k c : Nat} (h : ¬ so T L (St T L k) = c) : pfK T L k c = k := if_neg h
/-- numbers: the class's stop at 1000 -/
theorem dg_n {x : Int32} (h : dgB x = true) : ∃ d : Nat, d ≤ 9 ∧ x = nI (48 + d) := by
  unfold dgB inB at h
  simp only [Bool.and_eq_true, Bool.not_eq_true', decide_eq_false_iff_not, lt_i] at h
  have e1 : (57 : Int32).toInt = 57 := by decide
  have e2 : (48 : Int32).toInt = 48 := by decide
  obtain ⟨k, hk, rfl⟩ := (bd_iff (m := 57) (by decide)).mpr (show 0 ≤ x.toInt ∧ x.toInt ≤ (57 : Nat) by omega)
  have ek : (nI k).toInt = k := nI_toInt (by omega)
  exact ⟨k - 48, by omega, congrArg nI (by omega)⟩
theorem nu_va {T : Nat → Int32} {f : Nat} : ∀ {k : Nat}, (∀ i, i < k → dgB (T (f + i)) = true) → ∃ v : Nat, v ≤ 9999 ∧ vaS T f k = nI v ∧ nuC T f k = nI (min 1000 v)
  | 0, _ => ⟨0, by omega, rfl, rfl⟩
  | k + 1, h => by
    obtain ⟨v, hv, e1, e2⟩ := nu_va (T := T) (f := f) (k := k) (fun i hi => h i (by omega))
    obtain ⟨d, hd, e⟩ := dg_n (h k (by omega))
    have hc : (999 : Int32) < nI v ↔ 999 < v := by rw [show (999 : Int32) = nI 999 from rfl]; exact nI_ltI (by decide) (by omega)
    have step : ∀ w : Nat, w ≤ 9999 → 10 * nI w + nI (48 + d) - 48 = nI (10 * w + d) := by
      intro w hw
      rw [show (10 : Int32) = nI 10 from rfl, pk_mul, nI_add, show (48 : Int32) = nI 48 from rfl, nI_sb (by omega)]
      exact congrArg nI (by omega)
    have step2 : ∀ w : Nat, w ≤ 9999 → nI w * 10 + nI (48 + d) - 48 = nI (10 * w + d) := by
      intro w hw
      rw [show (10 : Int32) = nI 10 from rfl, pk_mul, nI_add, show (48 : Int32) = nI 48 from rfl, nI_sb (by omega)]
      exact congrArg nI (by omega)
    by_cases h9 : 999 < v
    · refine ⟨v, hv, ?_, ?_⟩
      · rw [vaS, e1, if_pos (hc.mpr h9)]
      · rw [nuC, e2, e, step2 _ (by omega), show (1000 : Int32) = nI 1000 from rfl, mn_nI (by omega) (by omega)]
        exact congrArg nI (by omega)
    · refine ⟨10 * v + d, by omega, ?_, ?_⟩
      · rw [vaS, e1, if_neg (fun z => h9 (hc.mp z)), e, step _ (by omega)]
      · rw [nuC, e2, e, step2 _ (by omega), show (1000 : Int32) = nI 1000 from rfl, mn_nI (by omega) (by omega)]
        exact congrArg nI (by omega)
theorem so_14i {T : Nat → Int32} {L f : Nat} : so T L f = 14 ↔ tk T L f = 2 := by
  unfold so
  by_cases h0 : tk T L f = 0
  · rw [if_pos h0]; omega
  rw [if_neg h0]
  by_cases h2 : tk T L f = 2
  · rw [if_pos h2]; omega
  rw [if_neg h2]
  by_cases h3 : tk T L f = 3
  · rw [if_pos h3]; omega
  rw [if_neg h3]
  by_cases h4 : fstN (fun w => tx T w f (en T L f)) 14 < 14
  · rw [if_pos h4]; omega
  · rw [if_neg h4]; omega
theorem so_15i {T : Nat → Int32} {L f : Nat} : so T L f = 15 ↔ tk T L f = 3 := by
  unfold so
  by_cases h0 : tk T L f = 0
  · rw [if_pos h0]; omega
  rw [if_neg h0]
  by_cases h2 : tk T L f = 2
  · rw [if_pos h2]; omega
  rw [if_neg h2]
  by_cases h3 : tk T L f = 3
  · rw [if_pos h3]; omega
  rw [if_neg h3]
  by_cases h4 : fstN (fun w => tx T w f (en T L f)) 14 < 14
  · rw [if_pos h4]; omega
  · rw [if_neg h4]; omega
theorem so_16i {T : Nat → Int32} {L f : Nat} : so T L f = 16 ↔ tk T L f = 0 := by
  unfold so
  by_cases h0 : tk T L f = 0
  · rw [if_pos h0]; omega
  rw [if_neg h0]
  by_cases h2 : tk T L f = 2
  · rw [if_pos h2]; omega
  rw [if_neg h2]
  by_cases h3 : tk T L f = 3
  · rw [if_pos h3]; omega
  rw [if_neg h3]
  by_cases h4 : fstN (fun w => tx T w f (en T L f)) 14 < 14
  · rw [if_pos h4]; omega
  · rw [if_neg h4]; omega
theorem en_dig {T : Nat → Int32} {L f : Nat} (h : tk T L f = 2) : ∀ i, i < en T L f - f → dgB (T (f + i)) = true := by
  intro i hi
  have e : en T L f = sc (fun i => dgB (T i)) L f := by rw [en, if_neg (by omega), if_pos h]
  rw [e] at hi
  exact sc_in (fun i => dgB (T i)) L L f (by omega) (f + i) (by omega) (by omega)
theorem nm_c {T : Nat → Int32} {L f m : Nat} (hm : m < 1000) : nmOK T L f m = (!decide (nI m < nvC T L f) && decide (so T L f = 14)) := by
  unfold nmOK
  by_cases h : tk T L f = 2
  · obtain ⟨v, hv, e1, e2⟩ := nu_va (en_dig h)
    rw [decide_eq_true h, decide_eq_true (so_14i.mpr h), nmV, nvC, if_pos h, if_pos h, e1, e2, Bool.and_true, Bool.true_and]
    have h0 : ¬ nI v < 0 := nI_pos (by omega)
    have h1 : nI m < nI v ↔ m < v := nI_ltI (by omega) (by omega)
    have h2 : nI m < nI (min 1000 v) ↔ m < min 1000 v := nI_ltI (by omega) (by omega)
    unfold inB
    rw [decide_eq_false h0, Bool.not_false, Bool.true_and]
    by_cases h3 : m < v
    · rw [decide_eq_true (h1.mpr h3), decide_eq_true (h2.mpr (by omega))]
    · rw [decide_eq_false (fun z => h3 (h1.mp z)), decide_eq_false (fun z => h3 (by have := h2.mp z; omega))]
  · rw [decide_eq_false h, decide_eq_false (fun z => h (so_14i.mp z)), Bool.false_and, Bool.and_false]
theorem nm_v {T : Nat → Int32} {L f m : Nat} (hm : m < 1000) (h : nmOK T L f m = true) : nvC T L f = nmV T L f := by
  have h3 := h
  unfold nmOK at h
  obtain ⟨h1, h2⟩ := Bool.and_eq_true_iff.mp h
  have ht := of_decide_eq_true h1
  obtain ⟨v, hv, e1, e2⟩ := nu_va (en_dig ht)
  rw [nmV, if_pos ht, e1] at h2
  obtain ⟨q1, q2⟩ := inB_t m rfl (by omega) h2
  rw [ix_nI (by omega)] at q2
  rw [nmV, nvC, if_pos ht, if_pos ht, e1, e2]
  exact congrArg nI (by omega)
def rnK (T : Nat → Int32) (L k m : Nat) : Nat := if nmOK T L (St T L k) m = true then k + 1 else k
def raK (T : Nat → Int32) (L k w m : Nat) : Nat := if so T L (St T L k) = w then rnK T L (k + 1) m else k
def raV (T : Nat → Int32) (L k w : Nat) (v : Int32) : Int32 := if so T L (St T L k) = w then nvC T L (St T L (k + 1)) else v
theorem so_N {T : Nat → Int32} {L N k : Nat} (hN : St T L N = L) (hk : k ≤ N) (h : ¬ so T L (St T L k) = 16) : k < N := by
  rcases Nat.lt_or_ge k N with h1 | h1
  · exact h1
  · have e : k = N := by omega
    subst e
    rw [hN, so_L] at h
    exact absurd rfl h
theorem rn_N {T : Nat → Int32} {L N k m : Nat} (hN : St T L N = L) (hk : k ≤ N) : rnK T L k m ≤ N := by
  unfold rnK
  split
  · rename_i h
    unfold nmOK at h
    have h1 := of_decide_eq_true (Bool.and_eq_true_iff.mp h).1
    have := so_N hN hk (fun z => by have := so_16i.mp z; omega)
    omega
  · exact hk
theorem ra_N {T : Nat → Int32} {L N k w m : Nat} (hN : St T L N = L) (hk : k ≤ N) (hw : w < 16) : raK T L k w m ≤ N := by
  unfold raK
  split
  · rename_i h
    have := so_N hN hk (by omega)
    exact rn_N hN (by omega)
  · exact hk
theorem rn_ge (T : Nat → Int32) (L k m : Nat) : k ≤ rnK T L k m := by
  unfold rnK
  split <;> omega
theorem ra_ge (T : Nat → Int32) (L k w m : Nat) : k ≤ raK T L k w m := by
  have := rn_ge T L (k + 1) m
  unfold raK
  split <;> omega
theorem rn_F {T : Nat → Int32} {L k m : Nat} : St T L (rnK T L (k + 1) m) = pF true T L (St T L k) m := by
  unfold rnK pF
  rw [if_pos rfl]
  show St T L (if nmOK T L (nx T L (St T L k)) m = true then k + 1 + 1 else k + 1) = _
  split <;> rfl
theorem ra_F {T : Nat → Int32} {L k w m : Nat} : pF (decide (so T L (St T L k) = w)) T L (St T L k) m = St T L (raK T L k w m) := by
  unfold raK
  by_cases h : so T L (St T L k) = w
  · rw [decide_eq_true h, if_pos h, rn_F]
  · rw [decide_eq_false h, if_neg h]
    rfl
theorem ra_E {T : Nat → Int32} {L k w m r i : Nat} {E : Nat → Nat → Int32} (hm : m < 1000) (h : pB (decide (so T L (St T L k) = w)) T L (St T L k) m = true) : up E r i (raV T L k w (E r i)) = pE (decide (so T L (St T L k) = w)) T L (St T L k) m E r i := by
  unfold pB at h
  unfold raV pE
  by_cases hc : so T L (St T L k) = w
  · rw [decide_eq_true hc] at h ⊢
    rw [if_pos rfl] at h
    rw [if_pos hc, if_pos rfl, if_pos h]
    exact congrArg (up E r i) (nm_v hm h)
  · rw [decide_eq_false hc, if_neg hc, up_id]
    rfl
theorem new_v (E : Nat → Nat → Int32) (n : Nat) (kd b v : Int32) : up (newS E n kd b) 3 n v = newS E n kd v := by
  unfold newS
  rw [up_comm _ (r := 4) (r' := 3) rfl, up_up]
theorem ra_new {T : Nat → Int32} {L k n : Nat} {E : Nat → Nat → Int32} {kd : Int32} (h : pB (decide (so T L (St T L k) = 9)) T L (St T L k) 5 = true) : newS E n kd (raV T L k 9 0) = pE (decide (so T L (St T L k) = 9)) T L (St T L k) 5 (newS E n kd 0) 3 n := by
  have e := ra_E (r := 3) (i := n) (E := newS E n kd 0) (by decide) h
  rw [← e, new_v]
  congr 1
  show raV T L k 9 0 = raV T L k 9 (newS E n kd 0 3 n)
  rw [show newS E n kd 0 3 n = 0 from upd_s _ _ _]
theorem oyS_ok {T : Nat → Int32} {L n f g1 g2 g3 g4 : Nat} {E : Nat → Nat → Int32} {kd : Int32} (h8 : ¬ n = 8) (e1 : nx T L f = g1) (e2 : pF (decide (so T L g1 = 9)) T L g1 5 = g2) (e3 : pF (decide (so T L g2 = 10)) T L g2 99 = g3) (e4 : pF (decide (so T L g3 = 11)) T L g3 999 = g4) (b1 : pB (decide (so T L g1 = 9)) T L g1 5 = true) (b2 : pB (decide (so T L g2 = 10)) T L g2 99 = true) (b3 : pB (decide (so T L g3 = 11)) T L g3 999 = true) : oyS T L E n kd f = .ok (pE (decide (so T L g3 = 11)) T L g3 999 (pE (decide (so T L g2 = 10)) T L g2 99 (pE (decide (so T L g1 = 9)) T L g1 5 (newS E n kd 0) 3 n) 4 n) 5 n, n + 1, g4) := by
  subst e1 e2 e3 e4
  rw [oyS, if_neg h8, if_pos b1, if_pos b2, if_pos b3]
theorem oyS_e1 {T : Nat → Int32} {L n f g1 g2 : Nat} {E : Nat → Nat → Int32} {kd : Int32} (h8 : ¬ n = 8) (e1 : nx T L f = g1) (e2 : pF (decide (so T L g1 = 9)) T L g1 5 = g2) (b1 : pB (decide (so T L g1 = 9)) T L g1 5 = false) : oyS T L E n kd f = .error g2 := by
  subst e1 e2
  rw [oyS, if_neg h8, if_neg (by rw [b1]; decide)]
theorem oyS_e2 {T : Nat → Int32} {L n f g1 g2 g3 : Nat} {E : Nat → Nat → Int32} {kd : Int32} (h8 : ¬ n = 8) (e1 : nx T L f = g1) (e2 : pF (decide (so T L g1 = 9)) T L g1 5 = g2) (e3 : pF (decide (so T L g2 = 10)) T L g2 99 = g3) (b1 : pB (decide (so T L g1 = 9)) T L g1 5 = true) (b2 : pB (decide (so T L g2 = 10)) T L g2 99 = false) : oyS T L E n kd f = .error g3 := by
  subst e1 e2 e3
  rw [oyS, if_neg h8, if_pos b1, if_neg (by rw [b2]; decide)]
theorem oyS_e3 {T : Nat → Int32} {L n f g1 g2 g3 g4 : Nat} {E : Nat → Nat → Int32} {kd : Int32} (h8 : ¬ n = 8) (e1 : nx T L f = g1) (e2 : pF (decide (so T L g1 = 9)) T L g1 5 = g2) (e3 : pF (decide (so T L g2 = 10)) T L g2 99 = g3) (e4 : pF (decide (so T L g3 = 11)) T L g3 999 = g4) (b1 : pB (decide (so T L g1 = 9)) T L g1 5 = true) (b2 : pB (decide (so T L g2 = 10)) T L g2 99 = true) (b3 : pB (decide (so T L g3 = 11)) T L g3 999 = false) : oyS T L E n kd f = .error g4 := by
  subst e1 e2 e3 e4
  rw [oyS, if_neg h8, if_pos b1, if_pos b2, if_neg (by rw [b3]; decide)]
theorem bedS_e0 {T : Nat → Int32} {L n f g1 : Nat} {E : Nat → Nat → Int32} (e1 : nx T L f = g1) (b0 : nmOK T L g1 5 = false) : bedS T L E n f = .error g1 := by
  subst e1
  rw [bedS, if_neg (by rw [b0]; decide)]
theorem bedS_e1 {T : Nat → Int32} {L n f g1 g2 g3 : Nat} {E : Nat → Nat → Int32} (e1 : nx T L f = g1) (e2 : nx T L g1 = g2) (e3 : pF (decide (so T L g2 = 12)) T L g2 999 = g3) (b0 : nmOK T L g1 5 = true) (b1 : pB (decide (so T L g2 = 12)) T L g2 999 = false) : bedS T L E n f = .error g3 := by
  subst e1 e2 e3
  rw [bedS, if_pos b0, if_neg (by rw [b1]; decide)]
theorem bedS_e2 {T : Nat → Int32} {L n f g1 g2 g3 g4 : Nat} {E : Nat → Nat → Int32} (e1 : nx T L f = g1) (e2 : nx T L g1 = g2) (e3 : pF (decide (so T L g2 = 12)) T L g2 999 = g3) (e4 : pF (decide (so T L g3 = 13)) T L g3 9 = g4) (b0 : nmOK T L g1 5 = true) (b1 : pB (decide (so T L g2 = 12)) T L g2 999 = true) (b2 : pB (decide (so T L g3 = 13)) T L g3 9 = false) : bedS T L E n f = .error g4 := by
  subst e1 e2 e3 e4
  rw [bedS, if_pos b0, if_pos b1, if_neg (by rw [b2]; decide)]
theorem bedS_k {T : Nat → Int32} {L n f g1 g2 g3 g4 : Nat} {E : Nat → Nat → Int32} (e1 : nx T L f = g1) (e2 : nx T L g1 = g2) (e3 : pF (decide (so T L g2 = 12)) T L g2 999 = g3) (e4 : pF (decide (so T L g3 = 13)) T L g3 9 = g4) (b0 : nmOK T L g1 5 = true) (b1 : pB (decide (so T L g2 = 12)) T L g2 999 = true) (b2 : pB (decide (so T L g3 = 13)) T L g3 9 = true) : bedS T L E n f = .ok (pE (decide (so T L g3 = 13)) T L g3 9 (pE (decide (so T L g2 = 12)) T L g2 999 E 0 (ix (nmV T L g1))) 1 (ix (nmV T L g1)), n, g4) := by
  subst e1 e2 e3 e4
  rw [bedS, if_pos b0, if_pos b1, if_pos b2]
/-- what reading an item comes to, from the token of number k on -/
def itC (P : Nat → Nat → Int32) (L N k : Nat) (r : TR) : Option Value → (Nat → Nat → Int32) × (Nat → Nat → Int32) → Prop := fun v u =>
  (∃ E' n' k' w, r = .ok (E', n', St (P 0) L k') ∧ k < k' ∧ k' ≤ N ∧ v = some (.int 1) ∧ u = (tpS P L N k' w, E')) ∨ (∃ E' k' w, r = .error (St (P 0) L k') ∧ k' ≤ N ∧ v = some (.int 0) ∧ u = (tpS P L N k' w, E'))
def uW (cI : ClassId) (a b : Nat → Nat) (u : (Nat → Nat → Int32) × (Nat → Nat → Int32)) : va_W := tW cI a u.1 ++ eW cI b u.2
theorem uW_1 {cI : ClassId} {a b : Nat → Nat} {P E : Nat → Nat → Int32} : vEmb (tW cI a) P (uW cI a b (P, E)) (fun P => uW cI a b (P, E)) := vEmb_of2 [0, 1, 2, 3, 4] [5, 6, 7, 8, 9, 10, 11, 12, 13, 14] [10, 11, 12, 13, 14, 0, 1, 2, 3, 4, 5, 6, 7, 8, 9] rfl rfl rfl rfl (by decide) rfl (fun _ => rfl)
theorem uW_2 {cI : ClassId} {a b : Nat → Nat} {P E : Nat → Nat → Int32} : vEmb (eW cI b) E (uW cI a b (P, E)) (fun E => uW cI a b (P, E)) := vEmb_of2 [5, 6, 7, 8, 9, 10, 11, 12, 13, 14] [0, 1, 2, 3, 4] [0, 1, 2, 3, 4, 5, 6, 7, 8, 9, 10, 11, 12, 13, 14] rfl rfl rfl rfl (by decide) rfl (fun _ => rfl)
theorem uW_s0 {cI : ClassId} {a b : Nat → Nat} {P E : Nat → Nat → Int32} {i : Nat} {v : Int32} : (uW cI a b (P, E)).set 6 (b 1, .inl (cI, 6, .inl (upd (E 0) i v))) = uW cI a b (P, up E 0 i v) := rfl
theorem uW_s1 {cI : ClassId} {a b : Nat → Nat} {P E : Nat → Nat → Int32} {i : Nat} {v : Int32} : (uW cI a b (P, E)).set 7 (b 2, .inl (cI, 6, .inl (upd (E 1) i v))) = uW cI a b (P, up E 1 i v) := rfl
theorem uW_s2 {cI : ClassId} {a b : Nat → Nat} {P E : Nat → Nat → Int32} {i : Nat} {v : Int32} : (uW cI a b (P, E)).set 8 (b 3, .inl (cI, 8, .inl (upd (E 2) i v))) = uW cI a b (P, up E 2 i v) := rfl
theorem uW_s3 {cI : ClassId} {a b : Nat → Nat} {P E : Nat → Nat → Int32} {i : Nat} {v : Int32} : (uW cI a b (P, E)).set 9 (b 4, .inl (cI, 8, .inl (upd (E 3) i v))) = uW cI a b (P, up E 3 i v) := rfl
theorem uW_s4 {cI : ClassId} {a b : Nat → Nat} {P E : Nat → Nat → Int32} {i : Nat} {v : Int32} : (uW cI a b (P, E)).set 10 (b 5, .inl (cI, 8, .inl (upd (E 4) i v))) = uW cI a b (P, up E 4 i v) := rfl
theorem uW_s5 {cI : ClassId} {a b : Nat → Nat} {P E : Nat → Nat → Int32} {i : Nat} {v : Int32} : (uW cI a b (P, E)).set 11 (b 6, .inl (cI, 8, .inl (upd (E 5) i v))) = uW cI a b (P, up E 5 i v) := rfl
theorem uW_s6 {cI : ClassId} {a b : Nat → Nat} {P E : Nat → Nat → Int32} {i : Nat} {v : Int32} : (uW cI a b (P, E)).set 12 (b 7, .inl (cI, 8, .inl (upd (E 6) i v))) = uW cI a b (P, up E 6 i v) := rfl
theorem uW_s7 {cI : ClassId} {a b : Nat → Nat} {P E : Nat → Nat → Int32} {i : Nat} {v : Int32} : (uW cI a b (P, E)).set 13 (b 8, .inl (cI, 8, .inl (upd (E 7) i v))) = uW cI a b (P, up E 7 i v) := rfl
theorem uW_s8 {cI : ClassId} {a b : Nat → Nat} {P E : Nat → Nat → Int32} {i : Nat} {v : Int32} : (uW cI a b (P, E)).set 14 (b 9, .inl (cI, 10, .inl (upd (E 8) i v))) = uW cI a b (P, up E 8 i v) := rfl
theorem uW_p0 {cI : ClassId} {a b : Nat → Nat} {P E : Nat → Nat → Int32} {v : Int32} : (uW cI a b (P, E)).set 5 (b 0, .inr (0, (eF b E).set 9 (.int v))) = uW cI a b (P, up E 9 0 v) := rfl
theorem uW_p1 {cI : ClassId} {a b : Nat → Nat} {P E : Nat → Nat → Int32} {v : Int32} : (uW cI a b (P, E)).set 5 (b 0, .inr (0, (eF b E).set 10 (.int v))) = uW cI a b (P, up E 9 1 v) := rfl
theorem uW_p2 {cI : ClassId} {a b : Nat → Nat} {P E : Nat → Nat → Int32} {v : Int32} : (uW cI a b (P, E)).set 5 (b 0, .inr (0, (eF b E).set 11 (.int v))) = uW cI a b (P, up E 9 2 v) := rfl
theorem uW_p3 {cI : ClassId} {a b : Nat → Nat} {P E : Nat → Nat → Int32} {v : Int32} : (uW cI a b (P, E)).set 5 (b 0, .inr (0, (eF b E).set 12 (.int v))) = uW cI a b (P, up E 9 3 v) := rfl
theorem uW_p4 {cI : ClassId} {a b : Nat → Nat} {P E : Nat → Nat → Int32} {v : Int32} : (uW cI a b (P, E)).set 5 (b 0, .inr (0, (eF b E).set 13 (.int v))) = uW cI a b (P, up E 9 4 v) := rfl
theorem kd7 {k : Nat} (hk : k < 100) : inB (nI k) 0 6 = decide (k < 7) := by
  unfold inB
  have h0 : ¬ nI k < 0 := nI_pos (by omega)
  have h1 : (6 : Int32) < nI k ↔ 6 < k := by rw [show (6 : Int32) = nI 6 from rfl]; exact nI_ltI (by decide) (by omega)
  rw [decide_eq_false h0, Bool.not_false, Bool.true_and]
  by_cases h : 6 < k
  · rw [decide_eq_true (h1.mpr h), decide_eq_false (by omega)]; rfl
  · rw [decide_eq_false (fun z => h (h1.mp z)), decide_eq_true (by omega)]; rfl
theorem so_le (T : Nat → Int32) (L f : Nat) : so T L f ≤ 17 := by
  unfold so
  by_cases h0 : tk T L f = 0
  · rw [if_pos h0]; omega
  rw [if_neg h0]
  by_cases h2 : tk T L f = 2
  · rw [if_pos h2]; omega
  rw [if_neg h2]
  by_cases h3 : tk T L f = 3
  · rw [if_pos h3]; omega
  rw [if_neg h3]
  by_cases h4 : fstN (fun w => tx T w f (en T L f)) 14 < 14
  · rw [if_pos h4]; omega
  · rw [if_neg h4]; omega
/-- what a text comes to -/
def tiC (P : Nat → Nat → Int32) (r : TR) : Option Value → (Nat → Nat → Int32) × (Nat → Nat → Int32) → Prop := fun v u => v = some (.int (txA r)) ∧ (∀ E' n' it, r = .ok (E', n', it) → u.2 = E' ∧ it ≤ 1000) ∧ (∀ p, r = .error p → p ≤ 1000) ∧ pR u.1 P
theorem rnK_t {T : Nat → Int32} {L k m : Nat} (h : nmOK T L (St T L k) m = true) : rnK T L k m = k + 1 := if_pos h
theorem rnK_f {T : Nat → Int32} {L k m : Nat} (h : nmOK T L (St T L k) m = false) : rnK T L k m = k := if_neg (by rw [h]; decide)
theorem raK_t {T : Nat → Int32} {L k c m : Nat} (h : so T L (St T L k) = c) : raK T L k c m = rnK T L (k + 1) m := if_pos h
theorem raK_f {T : Nat → Int32} {L k c m : Nat} (h : ¬ so T L (St T L k) = c) : raK T L k c m = k := if_neg h
theorem raV_t {T : Nat → Int32} {L k c : Nat} {v : Int32} (h : so T L (St T L k) = c) : raV T L k c v = nvC T L (St T L (k + 1)) := if_pos h
theorem raV_f {T : Nat → Int32} {L k c : Nat} {v : Int32} (h : ¬ so T L (St T L k) = c) : raV T L k c v = v := if_neg h
theorem ra_b1 {T : Nat → Int32} {L k c m : Nat} (h : so T L (St T L k) = c) : pB (decide (so T L (St T L k) = c)) T L (St T L k) m = nmOK T L (St T L (k + 1)) m := by
  rw [decide_eq_true h, pB, if_pos rfl]
  rfl
theorem ra_b0 {T : Nat → Int32} {L k c m : Nat} (h : ¬ so T L (St T L k) = c) : pB (decide (so T L (St T L k) = c)) T L (St T L k) m = true := by
  rw [decide_eq_false h]
  rfl
theorem pf_1 {n c : Nat} (h : n = c) : (1 : Int32) = bI (decide (n = c)) := by rw [decide_eq_true h]; rfl
theorem pf_0 {n c : Nat} (h : n ≠ c) : (0 : Int32) = bI (decide (n = c)) := by rw [decide_eq_false h]; rfl
theorem pf_N {T : Nat → Int32} {L N k c : Nat} (hN : St T L N = L) (hk : k ≤ N) (h : N ≤ k) (hc : c < 16) : so T L (St T L k) ≠ c := by
  have e : k = N := by omega
  subst e
  rw [hN, so_L]
  omega
theorem nm_i {T : Nat → Int32} {L f m : Nat} (hm : m < 1000) (h : nmOK T L f m = true) : nvC T L f = nI (ix (nmV T L f)) ∧ ix (nmV T L f) ≤ m := by
  have e := nm_v hm h
  unfold nmOK at h
  obtain ⟨q1, q2⟩ := inB_t m rfl (by omega) (Bool.and_eq_true_iff.mp h).2
  exact ⟨e.trans q1, q2⟩
theorem com_1 {T : Nat → Int32} {L n k : Nat} {E : Nat → Nat → Int32} (h : nmOK T L (St T L (k + 1)) 99 = true) : comS T L E n (St T L k) = .ok (up E 9 1 (nvC T L (St T L (k + 1))), n, St T L (rnK T L (k + 1) 99)) := by
  rw [rn_F, nm_v (by decide) h]
  have h2 : nmOK T L (nx T L (St T L k)) 99 = true := h
  rw [comS, pB, if_pos rfl, if_pos h2, pE, if_pos rfl, if_pos h2]
  rfl
theorem com_0 {T : Nat → Int32} {L n k : Nat} {E : Nat → Nat → Int32} (h : nmOK T L (St T L (k + 1)) 99 = false) : comS T L E n (St T L k) = .error (St T L (rnK T L (k + 1) 99)) := by
  rw [rn_F]
  have h2 : nmOK T L (nx T L (St T L k)) 99 = false := h
  rw [comS, pB, if_pos rfl, if_neg (by rw [h2]; decide)]
theorem oyS_8 {T : Nat → Int32} {L n f : Nat} {E : Nat → Nat → Int32} {kd : Int32} (h8 : n = 8) : oyS T L E n kd f = .error f := by rw [oyS, if_pos h8]
theorem it_oy {T : Nat → Int32} {L n f : Nat} {E : Nat → Nat → Int32} (h : so T L f < 7) : itS T L E n f = oyS T L E n (nI (so T L f)) f := by rw [itS, if_pos h]
theorem it_bed {T : Nat → Int32} {L n f : Nat} {E : Nat → Nat → Int32} (h : so T L f = 7) : itS T L E n f = bedS T L E n f := by rw [itS, if_neg (by omega), if_pos h]
theorem it_com {T : Nat → Int32} {L n f : Nat} {E : Nat → Nat → Int32} (h : so T L f = 8) : itS T L E n f = comS T L E n f := by rw [itS, if_neg (by omega), if_neg (by omega), if_pos h]
theorem it_no {T : Nat → Int32} {L n f : Nat} {E : Nat → Nat → Int32} (h1 : ¬ so T L f < 7) (h2 : ¬ so T L f = 7) (h3 : ¬ so T L f = 8) : itS T L E n f = .error f := by rw [itS, if_neg h1, if_neg h2, if_neg h3]
theorem con_3 {T : Nat → Int32} {L m n f it : Nat} {E : Nat → Nat → Int32} (h : so T L f = 15) {p : Nat} (e : itS T L E n (nx T L f) = .error p) : conS T L (m + 1) E n f it = .error p := by rw [conS, if_pos (so_15i.mp h), e]
theorem con_3k {T : Nat → Int32} {L m n f it n' f' : Nat} {E E' : Nat → Nat → Int32} (h : so T L f = 15) (e : itS T L E n (nx T L f) = .ok (E', n', f')) : conS T L (m + 1) E n f it = conS T L m E' n' f' (it + 1) := by rw [conS, if_pos (so_15i.mp h), e]
theorem con_16 {T : Nat → Int32} {L m n f it : Nat} {E : Nat → Nat → Int32} (h : so T L f = 16) : conS T L (m + 1) E n f it = .ok (E, n, it) := by
  have := so_16i.mp h
  rw [conS, if_neg (by omega), if_pos this]
theorem con_x {T : Nat → Int32} {L m n f it : Nat} {E : Nat → Nat → Int32} (h : ¬ so T L f = 15) (h2 : ¬ so T L f = 16) : conS T L (m + 1) E n f it = .error f := by
  rw [conS, if_neg (fun z => h (so_15i.mpr z)), if_neg (fun z => h2 (so_16i.mpr z))]
theorem St_mono (T : Nat → Int32) (L k : Nat) : ∀ j, St T L k ≤ St T L (k + j)
  | 0 => Nat.le_refl _
  | j + 1 => Nat.le_trans (St_mono T L k j) (nx_ge T L _)
theorem St_gt {T : Nat → Int32} {L k j : Nat} (h : so T L (St T L k) = 15) (hj : k < j) : St T L k < St T L j := by
  have h1 := nx_gt (T := T) (L := L) (f := St T L k) (by have := so_15i.mp h; omega)
  obtain ⟨i, rfl⟩ : ∃ i, j = k + 1 + i := ⟨j - (k + 1), by omega⟩
  exact Nat.lt_of_lt_of_le h1 (St_mono T L (k + 1) i)
theorem con_16m {T : Nat → Int32} {L m n f it : Nat} {E : Nat → Nat → Int32} (hm : 0 < m) (h : so T L f = 16) : conS T L m E n f it = .ok (E, n, it) := by
  obtain ⟨j, rfl⟩ : ∃ j, m = j + 1 := ⟨m - 1, by omega⟩
  exact con_16 h
theorem con_xm {T : Nat → Int32} {L m n f it : Nat} {E : Nat → Nat → Int32} (hm : 0 < m) (h : so T L f ≠ 15) (h2 : so T L f ≠ 16) : conS T L m E n f it = .error f := by
  obtain ⟨j, rfl⟩ : ∃ j, m = j + 1 := ⟨m - 1, by omega⟩
  exact con_x h h2
theorem txt_e {T : Nat → Int32} {L n p : Nat} {E : Nat → Nat → Int32} (e : itS T L E n (St T L 0) = .error p) : textS T L E n = .error p := by rw [textS, show itS T L E n (sk T L 0) = _ from e]
theorem txt_k {T : Nat → Int32} {L n n' f' : Nat} {E E' : Nat → Nat → Int32} (e : itS T L E n (St T L 0) = .ok (E', n', f')) : textS T L E n = conS T L (L + 1) E' n' f' 1 := by rw [textS, show itS T L E n (sk T L 0) = _ from e]
theorem ok_inj {E E' : Nat → Nat → Int32} {n n' it it' : Nat} {r : TR} (h : r = .ok (E, n, it)) (e : r = .ok (E', n', it')) : E = E' ∧ it = it' := by
  rw [h] at e
  cases e
  exact ⟨rfl, rfl⟩
theorem mw_g {w : Int32} (e : w = nI (ix w)) (l : ix w ≤ 5) : mwS (ix w) = gOf w := by
  have h : ∀ k, k ≤ 5 → mwS k = gOf (nI k) := by decide
  have h2 := h (ix w) l
  rw [← e] at h2
  exact h2
