/-! FLOATS: rows of the walk, and doubling till the last digit is 1 -/
theorem iZn {n : Nat} (h : n < 4294967296) : (iZ (n : Int)).toBitVec.toNat = n := by
  show (BitVec.ofInt 32 (n : Int)).toNat = n
  rw [BitVec.toNat_ofInt]
  omega
theorem fl_shl : ∀ e : Nat, e < 256 → iZ (e : Int) <<< (iZ 23 &&& 31) = iZ (((e * 8388608 : Nat)) : Int) := by decide +kernel
theorem i32_nat {a b : Int32} (h : a.toBitVec.toNat = b.toBitVec.toNat) : a = b := Int32.toBitVec_inj.mp (BitVec.eq_of_toNat_eq h)
theorem fl_and {t : Nat} (h : t < 8388608) : iZ ((8388608 + t : Nat) : Int) &&& iZ 8388607 = iZ (t : Int) := by
  refine i32_nat ?_
  rw [Int32.toBitVec_and, BitVec.toNat_and, iZn (by omega), iZn (by omega), show (iZ 8388607).toBitVec.toNat = 2 ^ 23 - 1 by decide, Nat.and_two_pow_sub_one_eq_mod]
  omega
theorem fl_or {e t : Nat} (he : e < 256) (ht : t < 8388608) : iZ (((e * 8388608 : Nat)) : Int) ||| iZ (t : Int) = iZ (((e * 8388608 + t : Nat)) : Int) := by
  refine i32_nat ?_
  rw [Int32.toBitVec_or, BitVec.toNat_or, iZn (by omega), iZn (by omega), iZn (by omega)]
  have := Nat.shiftLeft_add_eq_or_of_lt (b := t) (i := 23) (by omega) e
  rw [Nat.shiftLeft_eq, show (2 : Nat) ^ 23 = 8388608 by decide] at this
  omega
theorem fl_sg {m : Nat} (h : m < 2147483648) : (iZ (-2147483648) ||| iZ (m : Int)).toBitVec.toNat = 2147483648 + m := by
  rw [Int32.toBitVec_or, BitVec.toNat_or, iZn (by omega), show (iZ (-2147483648)).toBitVec.toNat = 2147483648 by decide]
  have := Nat.shiftLeft_add_eq_or_of_lt (b := m) (i := 31) (by omega) 1
  rw [Nat.shiftLeft_eq, show 1 * (2 : Nat) ^ 31 = 2147483648 by decide] at this
  omega
/-- sign, exponent and tail put together are the float's bits -/
theorem fl_fin {x : UInt32} {s : Bool} {E t : Nat} (h : x.toNat = (if s then 2147483648 else 0) + (E * 8388608 + t)) (hE : E < 256) (ht : t < 8388608) : (iZ (if s then -2147483648 else 0) ||| (iZ (E : Int) <<< (iZ 23 &&& 31))) ||| (iZ ((8388608 + t : Nat) : Int) &&& iZ 8388607) = x.toInt32 := by
  rw [fl_and ht, fl_shl E hE, Int32.or_assoc, fl_or hE ht]
  have hx : x.toInt32.toBitVec.toNat = x.toNat := rfl
  cases s with
  | false =>
    refine i32_nat ?_
    rw [hx, h, if_neg (by decide), if_neg (by decide), Int32.toBitVec_or, BitVec.toNat_or, iZn (by omega)]
    show 0 ||| _ = _
    rw [Nat.zero_or]
    omega
  | true =>
    refine i32_nat ?_
    rw [hx, h, if_pos rfl, if_pos rfl]
    have : x.toNat < 4294967296 := x.toNat_lt
    rw [h, if_pos rfl] at this
    exact fl_sg (by omega)
theorem fl_order {s t : Bool} {c d : Nat} {q r : Int} : Jvm.FP.Core.order (.fin s c q) (.fin t d r) = some (compare (Jvm.FP.Core.signed s (Jvm.FP.Core.inUnits c q (min q r))) (Jvm.FP.Core.signed t (Jvm.FP.Core.inUnits d r (min q r)))) := rfl
theorem fl_enc {f : Jvm.FP.Core.Fmt} {s : Bool} {c : Nat} {q : Int} : Jvm.FP.Core.encode f (.fin s c q) = if c < f.tails then Jvm.FP.Core.assemble f s 0 c else Jvm.FP.Core.assemble f s ((q - f.qmin).toNat + 1) (c - f.tails) := rfl
theorem fl_toInt {lo hi : Int} {s : Bool} {c : Nat} {q : Int} : Jvm.FP.Core.toInt lo hi (.fin s c q) = max lo (min hi (Jvm.FP.Core.truncate s c q)) := rfl
/-- the bits of a float whose last digit is not the least -/
theorem fl_bits {x : UInt32} {s : Bool} {C : Nat} {Q : Int} (h : Jvm.FP.Core.val32 x = .fin s C Q) (hC : 8388608 ≤ C ∧ C < 16777216) (hQ : -36 ≤ Q ∧ Q ≤ 0) : x.toNat = (if s then 2147483648 else 0) + ((150 + Q).toNat * 8388608 + (C - 8388608)) := by
  have h1 : Jvm.FP.Core.of32 (Jvm.FP.Core.val32 x) = x := Jvm.FP.Core.of32_val32 (by rw [h]; exact fun z => by cases z)
  have h2 : (Jvm.FP.Core.of32 (Jvm.FP.Core.val32 x)).toNat = Jvm.FP.Core.encode Jvm.FP.Core.b32 (Jvm.FP.Core.val32 x) := Jvm.FP.Core.toNat_of32 (Jvm.FP.Core.val32_fits x)
  rw [h1, h] at h2
  rw [h2]
  rw [fl_enc]
  unfold Jvm.FP.Core.assemble
  rw [b32_tails, b32_qmin, b32_exps, if_neg (by omega)]
  cases s with
  | false =>
    rw [if_neg (by decide)]
    show (0 * 256 + _) * 8388608 + _ = _
    omega
  | true =>
    rw [if_pos rfl]
    show (1 * 256 + _) * 8388608 + _ = _
    omega
theorem fl_two : Jvm.FP.Core.val32 Jvm.FP.fconst2 = .fin false 8388608 (-22) := by decide +kernel
theorem fl_8m : Jvm.FP.Core.val32 1258291200 = .fin false 8388608 0 := by decide +kernel
theorem fl_zero : Jvm.FP.Core.val32 Jvm.FP.fconst0 = .fin false 0 (-149) := by decide +kernel
/-- doubled -/
theorem fl_dbl {y : UInt32} {C : Nat} {q : Int} (h : Jvm.FP.Core.val32 y = .fin false C q) (hC : 8388608 ≤ C ∧ C < 16777216) (hq : -149 ≤ q ∧ q ≤ 100) : Jvm.FP.Core.val32 (Jvm.FP.fmul y Jvm.FP.fconst2) = .fin false C (q + 1) := by
  have e : Jvm.FP.Core.val32 (Jvm.FP.fmul y Jvm.FP.fconst2) = Jvm.FP.Core.round Jvm.FP.Core.b32 (Jvm.FP.Core.exactProduct (Jvm.FP.Core.val32 y) (Jvm.FP.Core.val32 Jvm.FP.fconst2)) := Jvm.FP.Core.val32_fmul y Jvm.FP.fconst2
  rw [e, h, fl_two]
  show Jvm.FP.Core.roundRatio Jvm.FP.Core.b32 false (C * 8388608) 1 (q + -22) = _
  refine Jvm.FP.Core.roundRatio_exact Jvm.FP.Core.good_b32 (by decide) ⟨?_, ?_, ?_, Or.inr ?_⟩ ?_
  · rw [b32_p]; omega
  · rw [b32_qmin]; omega
  · rw [b32_qmax]; omega
  · rw [b32_tails]; omega
  · rw [show (q + -22 - (q + 1)).toNat = 0 by omega, show (q + 1 - (q + -22)).toNat = 23 by omega]
    omega
theorem fl_dblz : Jvm.FP.fmul Jvm.FP.fconst0 Jvm.FP.fconst2 = Jvm.FP.fconst0 := by decide +kernel
/-- no NaN -/
theorem fl_n {x : UInt32} {s : Bool} {C : Nat} {Q : Int} (h : Jvm.FP.Core.val32 x = .fin s C Q) : vf_n32 x := by
  have h1 := (Jvm.FP.Core.ne_nan32 x).mp (by rw [h]; exact fun z => by cases z)
  show x &&& 0x7fffffff ≤ 0x7f800000
  rw [UInt32.le_iff_toNat_le, UInt32.toNat_and, show (0x7fffffff : UInt32).toNat = 2 ^ 31 - 1 from rfl, Nat.and_two_pow_sub_one_eq_mod]
  exact h1
theorem fl_cmp {x y : UInt32} : Jvm.FP.fcmp x y = Jvm.FP.Core.order (Jvm.FP.Core.val32 x) (Jvm.FP.Core.val32 y) := rfl
theorem fl_lt8 {y : UInt32} {C : Nat} {n : Nat} (h : Jvm.FP.Core.val32 y = .fin false C (-((n + 1 : Nat) : Int))) (hC : C < 16777216) : Jvm.FP.fcmp y 1258291200 = some .lt := by
  rw [fl_cmp, h, fl_8m]
  rw [fl_order, show min (-((n + 1 : Nat) : Int)) 0 = -((n + 1 : Nat) : Int) by omega]
  unfold Jvm.FP.Core.inUnits Jvm.FP.Core.signed
  rw [show (-((n + 1 : Nat) : Int) - -((n + 1 : Nat) : Int)).toNat = 0 by omega, show (0 - -((n + 1 : Nat) : Int)).toNat = n + 1 by omega, if_neg (by decide), if_neg (by decide), Jvm.FP.Core.compare_ite]
  have : 2 ≤ 2 ^ (n + 1) := by
    have := Nat.one_le_two_pow (n := n)
    rw [Nat.pow_succ]
    omega
  rw [if_pos (by
    have : 8388608 * 2 ≤ 8388608 * 2 ^ (n + 1) := Nat.mul_le_mul_left _ this
    omega)]
theorem fl_ge8 {y : UInt32} {C : Nat} (h : Jvm.FP.Core.val32 y = .fin false C 0) (hC : 8388608 ≤ C) : Jvm.FP.fcmp y 1258291200 = some (if C = 8388608 then .eq else .gt) := by
  rw [fl_cmp, h, fl_8m]
  rw [fl_order, show min (0 : Int) 0 = 0 by omega]
  unfold Jvm.FP.Core.inUnits Jvm.FP.Core.signed
  rw [show ((0 : Int) - 0).toNat = 0 by omega, if_neg (by decide), if_neg (by decide), Jvm.FP.Core.compare_ite, if_neg (by omega)]
  by_cases q : C = 8388608
  · rw [if_pos (by omega), if_pos q]
  · rw [if_neg (by omega), if_neg q]
theorem fl_sign {x : UInt32} {s : Bool} {C : Nat} {Q : Int} (h : Jvm.FP.Core.val32 x = .fin s C Q) (hC : 1 ≤ C) : Jvm.FP.fcmp x Jvm.FP.fconst0 = some (if s then .lt else .gt) := by
  rw [fl_cmp, h, fl_zero]
  rw [fl_order]
  have hp : 0 < Jvm.FP.Core.inUnits C Q (min Q (-149)) := Nat.mul_pos hC (Nat.two_pow_pos _)
  generalize Jvm.FP.Core.inUnits C Q (min Q (-149)) = K at hp
  rw [show Jvm.FP.Core.inUnits 0 (-149) (min Q (-149)) = 0 by unfold Jvm.FP.Core.inUnits; omega]
  cases s with
  | true =>
    show some (compare (-(K : Int)) (0 : Int)) = some Ordering.lt
    rw [Jvm.FP.Core.compare_ite, if_pos (by omega)]
  | false =>
    show some (compare (K : Int) (0 : Int)) = some Ordering.gt
    rw [Jvm.FP.Core.compare_ite, if_neg (by omega), if_neg (by omega)]
theorem fl_neg {x : UInt32} {C : Nat} {Q : Int} (h : Jvm.FP.Core.val32 x = .fin true C Q) (hC : 8388608 ≤ C ∧ C < 16777216) (hQ : -36 ≤ Q ∧ Q ≤ 0) : Jvm.FP.Core.val32 (Jvm.FP.fneg x) = .fin false C Q := by
  have h1 := fl_bits h hC hQ
  rw [if_pos rfl] at h1
  have h2 : (Jvm.FP.fneg x).toNat = (150 + Q).toNat * 8388608 + (C - 8388608) := by
    show (x ^^^ 0x80000000).toNat = _
    rw [UInt32.toNat_xor, show (0x80000000 : UInt32).toNat = 1 <<< 31 from rfl, h1]
    have := Nat.shiftLeft_add_eq_or_of_lt (b := (150 + Q).toNat * 8388608 + (C - 8388608)) (i := 31) (by omega) 1
    apply Nat.eq_of_testBit_eq
    intro i
    rw [show 2147483648 + ((150 + Q).toNat * 8388608 + (C - 8388608)) = 1 <<< 31 ||| ((150 + Q).toNat * 8388608 + (C - 8388608)) by rw [← this]; rfl]
    rw [Nat.testBit_xor, Nat.testBit_or]
    by_cases hi : i = 31
    · subst hi
      rw [Nat.testBit_lt_two_pow (show (150 + Q).toNat * 8388608 + (C - 8388608) < 2 ^ 31 by omega)]
      decide
    · rw [show (1 <<< 31).testBit i = false by rw [Nat.shiftLeft_eq, Nat.one_mul, Nat.testBit_two_pow]; exact decide_eq_false (fun z => hi z.symm)]
      simp
  have h3 : Jvm.FP.Core.encode Jvm.FP.Core.b32 (.fin false C Q) = (Jvm.FP.fneg x).toNat := by
    rw [h2]
    rw [fl_enc]
    unfold Jvm.FP.Core.assemble
    rw [b32_tails, b32_qmin, b32_exps, if_neg (by omega)]
    show (0 * 256 + _) * 8388608 + _ = _
    omega
  show Jvm.FP.Core.decode Jvm.FP.Core.b32 (Jvm.FP.fneg x).toNat = _
  rw [← h3]
  refine Jvm.FP.Core.decode_encode Jvm.FP.Core.good_b32 _ ⟨?_, ?_, ?_, Or.inr ?_⟩
  · rw [b32_p]; omega
  · rw [b32_qmin]; omega
  · rw [b32_qmax]; omega
  · rw [b32_tails]; omega
theorem fl_int {y : UInt32} {C : Nat} (h : Jvm.FP.Core.val32 y = .fin false C 0) (hC : C < 16777216) : Jvm.FP.f2i y = iZ (C : Int) := by
  show Jvm.FP.Core.toI (Jvm.FP.Core.val32 y) = _
  rw [h]
  unfold Jvm.FP.Core.toI
  rw [fl_toInt]
  unfold Jvm.FP.Core.truncate Jvm.FP.Core.signed
  rw [if_neg (by decide), show (0 : Int).toNat = 0 by decide, show (-(0 : Int)).toNat = 0 by decide]
  show Int32.ofInt _ = Int32.ofInt _
  congr 1
  omega
/-- what earnings by the day can be -/
def flOk (x : UInt32) : Prop := x = Jvm.FP.fconst0 ∨ ∃ (s : Bool) (C : Nat) (Q : Int), Jvm.FP.Core.val32 x = .fin s C Q ∧ (8388608 ≤ C ∧ C < 16777216) ∧ (-36 ≤ Q ∧ Q ≤ 0)
theorem flOk_n {x : UInt32} (h : flOk x) : vf_n32 x := by
  rcases h with h | ⟨s, C, Q, h, _⟩
  · rw [h]; exact fl_n fl_zero
  · exact fl_n h
theorem fl_q {a b : Int} (ha : -300000 ≤ a ∧ a ≤ 300000) (hb : 4 ≤ b ∧ b ≤ 2300) : flOk (Jvm.FP.fdiv (Jvm.FP.i2f (iZ a)) (Jvm.FP.i2f (iZ b))) := by
  by_cases z : a = 0
  · left
    subst z
    obtain ⟨j, hj, e2⟩ := fl_i2f (a := b) rfl (by omega) (by omega)
    have e1 : Jvm.FP.Core.val32 (Jvm.FP.i2f (iZ 0)) = .fin false 0 (-149) := by decide +kernel
    have e3 : Jvm.FP.Core.val32 (Jvm.FP.fdiv (Jvm.FP.i2f (iZ 0)) (Jvm.FP.i2f (iZ b))) = .fin false 0 (-149) := by
      have := Jvm.FP.Core.val32_fdiv (Jvm.FP.i2f (iZ 0)) (Jvm.FP.i2f (iZ b))
      rw [e1, e2] at this
      refine this.trans ?_
      rw [fl_quot]
      have hz : b.natAbs * 2 ^ j ≠ 0 := by
        have := Nat.mul_pos (show 0 < b.natAbs by omega) (Nat.two_pow_pos j)
        omega
      rw [if_neg hz, show decide (b < 0) = false from decide_eq_false (by omega)]
      unfold Jvm.FP.Core.roundRatio
      rw [if_pos rfl, b32_qmin]
      rfl
    exact Jvm.FP.Core.val32_inj (by rw [e3]; exact fun z => by cases z) (e3.trans fl_zero.symm)
  · obtain ⟨C, Q, h1, h2, h3⟩ := fl_div (a := a) (b := b) (by omega) hb
    exact Or.inr ⟨_, C, Q, h1, h2, h3⟩
section ZF
variable {Γ : zG} {ω : zO} {own : String} {cc : ByteArray} {nL fr lo : Nat} {rt : Option FieldType} {post : Option Value → zM → Prop} {μ : zM} {pc : Nat} {L : List (Nat × Value)} {st : List Value}
theorem z_fconst0 (h : zC Γ ω own cc nL fr lo rt post) (hdg : decode cc pc = .ok (.fconst 0, 1)) (kk : Z Γ ω μ (pc + 1) L (.float Jvm.FP.fconst0 :: st)) : Z Γ ω μ pc L st := by
  obtain ⟨p, l, e, R, s, m, args, below, meth, c, hV, hH0, hnl, hx, hb, hml, hown, hts, hK, hr, hlk, hfr, hlo⟩ := h
  intro H locs ls hH hS hl
  rw [hV]
  have K := kk H locs ls hH hS hl
  rw [hV] at K
  exact lv_fconst0 hx hb hdg K
theorem z_fconst2 (h : zC Γ ω own cc nL fr lo rt post) (hdg : decode cc pc = .ok (.fconst 2, 1)) (kk : Z Γ ω μ (pc + 1) L (.float Jvm.FP.fconst2 :: st)) : Z Γ ω μ pc L st := by
  obtain ⟨p, l, e, R, s, m, args, below, meth, c, hV, hH0, hnl, hx, hb, hml, hown, hts, hK, hr, hlk, hfr, hlo⟩ := h
  intro H locs ls hH hS hl
  rw [hV]
  have K := kk H locs ls hH hS hl
  rw [hV] at K
  exact lv_fconst2 hx hb hdg K
theorem z_fcmp (h : zC Γ ω own cc nL fr lo rt post) {x y : UInt32} {op : CmpOp} {o : Option Ordering} (v : Int) (hdg : decode cc pc = .ok (.fcmp op, 1)) (hc : Jvm.FP.fcmp x y = o) (hv : Op.cmpValue o op = iZ v) (kk : Z Γ ω μ (pc + 1) L (.int (iZ v) :: st)) : Z Γ ω μ pc L (.float y :: .float x :: st) := by
  obtain ⟨p, l, e, R, s, m, args, below, meth, c, hV, hH0, hnl, hx, hb, hml, hown, hts, hK, hr, hlk, hfr, hlo⟩ := h
  intro H locs ls hH hS hl
  rw [hV]
  have K := kk H locs ls hH hS hl
  rw [hV, ← hv, ← hc] at K
  exact lv_fcmp hx hb hdg K
theorem z_fneg (h : zC Γ ω own cc nL fr lo rt post) {x : UInt32} (hdg : decode cc pc = .ok (.fneg, 1)) (kk : Z Γ ω μ (pc + 1) L (.float (Jvm.FP.fneg x) :: st)) : Z Γ ω μ pc L (.float x :: st) := by
  obtain ⟨p, l, e, R, s, m, args, below, meth, c, hV, hH0, hnl, hx, hb, hml, hown, hts, hK, hr, hlk, hfr, hlo⟩ := h
  intro H locs ls hH hS hl
  rw [hV]
  have K := kk H locs ls hH hS hl
  rw [hV] at K
  exact lv_fneg hx hb hdg K
theorem z_fmul (h : zC Γ ω own cc nL fr lo rt post) {x y : UInt32} (hdg : decode cc pc = .ok (.fmul, 1)) (hn : vf_n32 (Jvm.FP.fmul x y)) (kk : Z Γ ω μ (pc + 1) L (.float (Jvm.FP.fmul x y) :: st)) : Z Γ ω μ pc L (.float y :: .float x :: st) := by
  obtain ⟨p, l, e, R, s, m, args, below, meth, c, hV, hH0, hnl, hx, hb, hml, hown, hts, hK, hr, hlk, hfr, hlo⟩ := h
  intro H locs ls hH hS hl
  rw [hV]
  have K := kk H locs ls hH hS hl
  rw [hV] at K
  exact lv_fmul hx hb hdg hn K
theorem z_fdiv (h : zC Γ ω own cc nL fr lo rt post) {x y : UInt32} (hdg : decode cc pc = .ok (.fdiv, 1)) (hn : vf_n32 (Jvm.FP.fdiv x y)) (kk : Z Γ ω μ (pc + 1) L (.float (Jvm.FP.fdiv x y) :: st)) : Z Γ ω μ pc L (.float y :: .float x :: st) := by
  obtain ⟨p, l, e, R, s, m, args, below, meth, c, hV, hH0, hnl, hx, hb, hml, hown, hts, hK, hr, hlk, hfr, hlo⟩ := h
  intro H locs ls hH hS hl
  rw [hV]
  have K := kk H locs ls hH hS hl
  rw [hV] at K
  exact lv_fdiv hx hb hdg hn K
theorem z_i2f (h : zC Γ ω own cc nL fr lo rt post) {x : Int32} (hdg : decode cc pc = .ok (.i2f, 1)) (kk : Z Γ ω μ (pc + 1) L (.float (Jvm.FP.i2f x) :: st)) : Z Γ ω μ pc L (.int x :: st) := by
  obtain ⟨p, l, e, R, s, m, args, below, meth, c, hV, hH0, hnl, hx, hb, hml, hown, hts, hK, hr, hlk, hfr, hlo⟩ := h
  intro H locs ls hH hS hl
  rw [hV]
  have K := kk H locs ls hH hS hl
  rw [hV] at K
  exact lv_i2f hx hb hdg K
theorem z_f2i (h : zC Γ ω own cc nL fr lo rt post) {x : UInt32} {v : Int32} (hdg : decode cc pc = .ok (.f2i, 1)) (hv : Jvm.FP.f2i x = v) (kk : Z Γ ω μ (pc + 1) L (.int v :: st)) : Z Γ ω μ pc L (.float x :: st) := by
  obtain ⟨p, l, e, R, s, m, args, below, meth, c, hV, hH0, hnl, hx, hb, hml, hown, hts, hK, hr, hlk, hfr, hlo⟩ := h
  intro H locs ls hH hS hl
  rw [hV]
  have K := kk H locs ls hH hS hl
  rw [hV, ← hv] at K
  exact lv_f2i hx hb hdg K
theorem z_raw (h : zC Γ ω own cc nL fr lo rt post) {x : UInt32} {index : Nat} (hw : Cond.methodLink own index ⟨"java/lang/Float", "floatToRawIntBits", "(F)I"⟩ ∈ AL) (hdg : decode cc pc = .ok (.invokestatic index, 3)) (hfr1 : 1 ≤ fr) (hlo1 : (st.map fun v => v.category).sum + 15 ≤ lo) (kk : Z Γ ω μ (pc + 3) L (.int x.toInt32 :: st)) : Z Γ ω μ pc L (.float x :: st) := by
  obtain ⟨p, l, e, R, s, m, args, below, meth, c, hV, hH0, hnl, hx, hb, hml, hown, hts, hK, hr, hlk, hfr, hlo⟩ := h
  intro H locs ls hH hS hl
  rw [hV]
  have K := kk H locs ls hH hS hl
  rw [hV] at K
  exact vn_f2i hx hb (by rw [hl.1, hnl, hml]) hown (hts _ hw) (hts _ qN_F_raw) (hts _ qT_F_raw) (hts _ qi_Jxf58ca) (Nat.le_trans hfr1 hfr) (Nat.le_trans hlo1 hlo) hdg K
end ZF
