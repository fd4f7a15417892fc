/-! ===== the class: sheets ===== -/
theorem lk_2 {x a b : Int32} {o1 o2 d k1 k2 : Int} (h1 : a.toInt = k1) (h2 : b.toInt = k2) (ha : ¬ x = a) (hb : ¬ x = b) : Op.lookupswitch.offset [(k1, o1), (k2, o2)] d x.toInt = d := by
  rw [Op.lookupswitch.offset_cons, if_neg (by rw [← h1]; exact fun e => ha (Int32.toInt_inj.mp e.symm)), Op.lookupswitch.offset_cons, if_neg (by rw [← h2]; exact fun e => hb (Int32.toInt_inj.mp e.symm))]
  rfl
def shW (cI : ClassId) (a : Nat → Nat) (R : Nat → Nat → Int32) : va_W := [(a 0, .inr (1, [.ref (a 1), .int (R 1 0), .int (R 1 1)])), (a 1, .inl (cI, 40, .inl (R 0)))]
theorem shW_s0 {cI : ClassId} {a : Nat → Nat} {R : Nat → Nat → Int32} {i : Nat} {v : Int32} : (shW cI a R).set 1 (a 1, .inl (cI, 40, .inl (upd (R 0) i v))) = shW cI a (up R 0 i v) := rfl
theorem shW_p0 {cI : ClassId} {a : Nat → Nat} {R : Nat → Nat → Int32} {v : Int32} : (shW cI a R).set 0 (a 0, .inr (1, ([.ref (a 1), .int (R 1 0), .int (R 1 1)] : List Value).set 1 (.int v))) = shW cI a (up R 1 0 v) := rfl
theorem shW_p1 {cI : ClassId} {a : Nat → Nat} {R : Nat → Nat → Int32} {v : Int32} : (shW cI a R).set 0 (a 0, .inr (1, ([.ref (a 1), .int (R 1 0), .int (R 1 1)] : List Value).set 2 (.int v))) = shW cI a (up R 1 1 v) := rfl
def zR (R : Nat → Nat → Int32) : Nat → Nat → Nat → Int32
  | 0 => R
  | k + 1 => up (zR R k) 0 k 0
theorem zR_1 (R : Nat → Nat → Int32) {r : Nat} (hr : Nat.beq r 0 = false) : ∀ k, zR R k r = R r
  | 0 => rfl
  | k + 1 => by
    show up (zR R k) 0 k 0 r = R r
    rw [up_n _ _ _ _ hr, zR_1 R hr k]
theorem zR_0 (R : Nat → Nat → Int32) : ∀ k j, j < k → zR R k 0 j = 0
  | 0, j, hj => absurd hj (by omega)
  | k + 1, j, hj => by
    show upd (zR R k 0) k 0 j = 0
    unfold upd
    split
    · rfl
    · exact zR_0 R k j (by omega)
def becR (R : Nat → Nat → Int32) (bits m : Int32) : Nat → Nat → Int32 := zR (up (up R 1 0 bits) 1 1 (if bits = 0 then 0 else m)) 40
def hasB (sz p c : Int32) : Bool := if p < 0 then false else if c < 0 then false else if sz < p then false else if sz - p < c then false else true
