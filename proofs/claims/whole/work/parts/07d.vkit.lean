section VV
variable {K : vK} {cc : ByteArray} {own : String} {tys : List (ClassId × FieldType)} {fr lo : Nat} {ws : va_W} {pc : Nat} {lv : List (Nat × Value)} {st : List Value} {q : List (Nat × Instr × Nat)}
theorem v_mabs (h : vX K cc own tys fr lo) (P : vD cc q) (j : Nat) {idx : Nat} {x : Int32} (w1 : Cond.methodLink own idx Lib.Math.abs.name ∈ wsL_law) (w2 : Cond.static Lib.Math.abs.name ∈ wsL_law) (w3 : Cond.initialized "java/lang/Math" ∈ wsL_law) (w4 : Cond.code Lib.Math.abs.name Lib.Math.abs.code 1 (some .int) ∈ wsL_law) (d : q[j]? = some (pc, .invokestatic idx, 3)) (hf : Nat.ble 1 fr = true) (hlo : Nat.ble ((st.map fun v => v.category).sum + 13) lo = true) (k : V K ws (pc + 3) lv (.int (if 0 ≤ x then x else 0 - x) :: st)) : V K ws pc lv (.int x :: st) := fun H locs ls hP hD hS hl => va_mabs h.1 h.2.1 (h.2.2.1.trans hl.1.symm) h.2.2.2.1 (h.2.2.2.2.1 _ w1) (h.2.2.2.2.1 _ w2) (h.2.2.2.2.1 _ w3) (h.2.2.2.2.1 _ w4) (by rw [h.2.2.2.2.2.2.2.2.1]; exact Nat.le_of_ble_eq_true hf) (by rw [h.2.2.2.2.2.2.2.2.2.1]; exact Nat.le_of_ble_eq_true hlo) h.2.2.2.2.2.2.2.2.2.2.1 h.2.2.2.2.2.2.2.2.2.2.2 (vD.at P d) (k H locs ls hP hD hS hl)
/-- what a method's end owes -/
def vR (K : vK) (tys : List (ClassId × FieldType)) {S : Type} (Wd : S → va_W) (post : Option Value → S → Prop) : Prop := K.2.2.1.1 = MQ K.2.1.2.2.2.1 (vQ post (vB K.2.2.1.2.2.1 tys Wd K.2.2.1.2.1) K.2.2.1.2.1) K.2.1.2.2.1 K.2.1.1 K.2.2.2.1 K.2.2.2.2 K.2.2.1.2.1
theorem vR_q {S : Type} {Wd : S → va_W} {post : Option Value → S → Prop} (h : vX K cc own tys fr lo) {H : Heap} {locs : List Loc} (hP : va_P K.2.2.1.2.2.1 vwCl ws H) (hD : va_D K.2.2.1.2.1 ws) (hS : va_S K.2.2.1.2.1 K.2.1.1.heap H locs) {u : S} (hw : ws = Wd u) {v : Option Value} (hp : post v u) : ∀ t : State, t.heap = H → K.2.1.1.WarmedH t.vm → vQ post (vB K.2.2.1.2.2.1 tys Wd K.2.2.1.2.1) K.2.2.1.2.1 K.2.1.2.2.1 K.2.1.1 (.returned v) t :=
  fun t ht hW => ⟨⟨v, u, rfl, hp, by rw [ht, ← hw]; exact hP, va_K.moved hW.alike h.2.2.2.2.2.1, by rw [← hw]; exact hD⟩, hS.F ht⟩
theorem v_iret {S : Type} {Wd : S → va_W} {post : Option Value → S → Prop} (h : vX K cc own tys fr lo) (P : vD cc q) (j : Nat) {x : Int32} (hR : vR K tys Wd post) (hret : K.2.1.2.2.2.2.1.sig.returnType = some .int) (d : q[j]? = some (pc, .ireturn, 1)) (u : S) (hw : ws = Wd u) (hp : post (some (.int x)) u) : V K ws pc lv [.int x] := fun H locs ls hP hD hS hl => by
  rw [hR]
  exact W.iret h.1 h.2.1 hret (vR_q h hP hD hS hw hp) hS.2.2 (vD.at P d) h.2.2.2.2.2.2.2.1
theorem v_zret {S : Type} {Wd : S → va_W} {post : Option Value → S → Prop} (h : vX K cc own tys fr lo) (P : vD cc q) (j : Nat) {x : Int32} (hx : x = 0 ∨ x = 1) (hR : vR K tys Wd post) (hret : K.2.1.2.2.2.2.1.sig.returnType = some .boolean) (d : q[j]? = some (pc, .ireturn, 1)) (u : S) (hw : ws = Wd u) (hp : post (some (.int x)) u) : V K ws pc lv [.int x] := fun H locs ls hP hD hS hl => by
  rw [hR]
  exact W.zret h.1 h.2.1 hret (by rcases hx with rfl | rfl <;> rfl) (vR_q h hP hD hS hw hp) hS.2.2 (vD.at P d) h.2.2.2.2.2.2.2.1
theorem v_lret {S : Type} {Wd : S → va_W} {post : Option Value → S → Prop} (h : vX K cc own tys fr lo) (P : vD cc q) (j : Nat) {x : Int64} (hR : vR K tys Wd post) (hret : K.2.1.2.2.2.2.1.sig.returnType = some .long) (d : q[j]? = some (pc, .lreturn, 1)) (u : S) (hw : ws = Wd u) (hp : post (some (.long x)) u) : V K ws pc lv [.long x] := fun H locs ls hP hD hS hl => by
  rw [hR]
  exact W.lret h.1 h.2.1 hret (vR_q h hP hD hS hw hp) hS.2.2 (vD.at P d) h.2.2.2.2.2.2.2.1
theorem v_vret {S : Type} {Wd : S → va_W} {post : Option Value → S → Prop} (h : vX K cc own tys fr lo) (P : vD cc q) (j : Nat) (hR : vR K tys Wd post) (hret : K.2.1.2.2.2.2.1.sig.returnType = none) (d : q[j]? = some (pc, .return_, 1)) (u : S) (hw : ws = Wd u) (hp : post none u) : V K ws pc lv [] := fun H locs ls hP hD hS hl => by
  rw [hR]
  exact W.vret h.1 h.2.1 hret (vR_q h hP hD hS hw hp) hS.2.2 (vD.at P d) h.2.2.2.2.2.2.2.1
theorem v_aret {S : Type} {Wd : S → va_W} {post : Option Value → S → Prop} (h : vX K cc own tys fr lo) (P : vD cc q) (j : Nat) {a : Nat} {rt : FieldType} (hrt : (∃ n, rt = .object n) ∨ ∃ t, rt = .array t) (hR : vR K tys Wd post) (hret : K.2.1.2.2.2.2.1.sig.returnType = some rt) (d : q[j]? = some (pc, .areturn, 1)) (u : S) (hw : ws = Wd u) (hp : post (some (.ref a)) u) : V K ws pc lv [.ref a] := fun H locs ls hP hD hS hl => by
  rw [hR]
  exact W.aret h.1 h.2.1 hret hrt (Or.inr ⟨a, rfl⟩) (vR_q h hP hD hS hw hp) hS.2.2 (vD.at P d) h.2.2.2.2.2.2.2.1
end VV
