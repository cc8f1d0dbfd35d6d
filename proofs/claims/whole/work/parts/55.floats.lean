/-! FLOATS: what a voyage earns by the day, as bits -/
theorem b32_p : Jvm.FP.Core.b32.p = 24 := rfl
theorem b32_tails : Jvm.FP.Core.b32.tails = 8388608 := by decide
theorem b32_exps : Jvm.FP.Core.b32.exps = 256 := by decide
theorem b32_qmin : Jvm.FP.Core.b32.qmin = -149 := by decide
theorem b32_qmax : Jvm.FP.Core.b32.qmax = 104 := by decide
theorem fl_quot {f : Jvm.FP.Core.Fmt} {s t : Bool} {c d : Nat} {q r : Int} : Jvm.FP.Core.quotient f (.fin s c q) (.fin t d r) = if d = 0 then (if c = 0 then .nan else .inf (s != t)) else Jvm.FP.Core.roundRatio f (s != t) c d (q - r) := rfl
/-- a whole number as a float, not 0 -/
theorem fl_i2f {a : Int} {n : Nat} (hn : a.natAbs = n) (h0 : 1 ≤ n) (h : n < 16777216) : ∃ k : Nat, k ≤ 23 ∧ Jvm.FP.Core.val32 (Jvm.FP.i2f (iZ a)) = .fin (decide (a < 0)) (n * 2 ^ k) (-(k : Int)) := by
  have hr : -2147483648 ≤ a ∧ a ≤ 2147483647 := by omega
  have e1 : Jvm.FP.Core.val32 (Jvm.FP.i2f (iZ a)) = Jvm.FP.Core.round Jvm.FP.Core.b32 (Jvm.FP.Core.ofInt a) := by
    have := Jvm.FP.Core.val32_i2f (iZ a)
    rw [iZ_toInt hr] at this
    exact this
  have l1 : 2 ^ n.log2 ≤ n := Nat.log2_self_le (by omega)
  have l2 : n < 2 ^ (n.log2 + 1) := Nat.lt_log2_self
  have l3 : n.log2 < 24 := (Nat.pow_lt_pow_iff_right (by decide : 1 < 2)).mp (Nat.lt_of_le_of_lt l1 (by omega))
  refine ⟨23 - n.log2, by omega, ?_⟩
  rw [e1]
  unfold Jvm.FP.Core.ofInt
  rw [hn]
  show Jvm.FP.Core.roundRatio Jvm.FP.Core.b32 (decide (a < 0)) n 1 0 = _
  generalize n.log2 = L at l1 l2 l3
  refine Jvm.FP.Core.roundRatio_exact Jvm.FP.Core.good_b32 (by decide) ⟨?_, ?_, ?_, Or.inr ?_⟩ ?_
  · calc n * 2 ^ (23 - L) < 2 ^ (L + 1) * 2 ^ (23 - L) := Nat.mul_lt_mul_of_pos_right l2 (Nat.two_pow_pos _)
      _ = 2 ^ Jvm.FP.Core.b32.p := by rw [← Nat.pow_add]; congr 1; rw [b32_p]; omega
  · rw [b32_qmin]; omega
  · rw [b32_qmax]; omega
  · calc Jvm.FP.Core.b32.tails = 2 ^ L * 2 ^ (23 - L) := by rw [← Nat.pow_add, b32_tails, show L + (23 - L) = 23 by omega]
      _ ≤ n * 2 ^ (23 - L) := Nat.mul_le_mul_right _ l1
  · rw [show (0 - -((23 - L : Nat) : Int)).toNat = 23 - L by omega, show (-((23 - L : Nat) : Int) - 0).toNat = 0 by omega]
    simp
/-- a Jvm.FP.Core.quotient of numbers -/
theorem fl_div {a b : Int} (ha : 1 ≤ a.natAbs ∧ a.natAbs ≤ 300000) (hb : 4 ≤ b ∧ b ≤ 2300) : ∃ (C : Nat) (Q : Int), Jvm.FP.Core.val32 (Jvm.FP.fdiv (Jvm.FP.i2f (iZ a)) (Jvm.FP.i2f (iZ b))) = .fin (decide (a < 0)) C Q ∧ (8388608 ≤ C ∧ C < 16777216) ∧ (-36 ≤ Q ∧ Q ≤ 0) := by
  obtain ⟨k, hk, e1⟩ := fl_i2f (a := a) rfl ha.1 (by omega)
  obtain ⟨j, hj, e2⟩ := fl_i2f (a := b) rfl (by omega) (by omega)
  obtain ⟨n, hn⟩ : ∃ n, n = a.natAbs := ⟨_, rfl⟩
  obtain ⟨m, hm⟩ : ∃ m, m = b.natAbs := ⟨_, rfl⟩
  rw [← hn] at e1 ha
  rw [← hm] at e2
  have hm4 : 4 ≤ m ∧ m ≤ 2300 := by omega
  have hbn : decide (b < 0) = false := decide_eq_false (by omega)
  have hz : m * 2 ^ j ≠ 0 := by
    have := Nat.mul_pos (show 0 < m by omega) (Nat.two_pow_pos j)
    omega
  have e3 : Jvm.FP.Core.val32 (Jvm.FP.fdiv (Jvm.FP.i2f (iZ a)) (Jvm.FP.i2f (iZ b))) = Jvm.FP.Core.roundRatio Jvm.FP.Core.b32 (decide (a < 0)) n m 0 := by
    have := Jvm.FP.Core.val32_fdiv (Jvm.FP.i2f (iZ a)) (Jvm.FP.i2f (iZ b))
    rw [e1, e2] at this
    refine this.trans ?_
    rw [fl_quot, if_neg hz, hbn, show ((decide (a < 0)) != false) = decide (a < 0) by cases decide (a < 0) <;> rfl]
    refine Jvm.FP.Core.roundRatio_congr (by omega) (by omega) ?_
    have x : k + (-(k : Int) - -(j : Int) - 0).toNat = j + (0 - (-(k : Int) - -(j : Int))).toNat := by omega
    rw [show n * 2 ^ k * m * 2 ^ (-(k : Int) - -(j : Int) - 0).toNat = n * m * (2 ^ k * 2 ^ (-(k : Int) - -(j : Int) - 0).toNat) by ac_rfl, ← Nat.pow_add, x, Nat.pow_add]
    ac_rfl
  have l1 := Jvm.FP.Core.leading_spec (A := n) (B := m) (by omega) (by omega)
  have b1 : ¬ Jvm.FP.Core.Below n m (-12) := by
    unfold Jvm.FP.Core.Below
    rw [show (-(-12 : Int)).toNat = 12 by decide, show (-12 : Int).toNat = 0 by decide]
    omega
  have b2 : Jvm.FP.Core.Below n m 17 := by
    unfold Jvm.FP.Core.Below
    rw [show (-(17 : Int)).toNat = 0 by decide, show (17 : Int).toNat = 17 by decide]
    omega
  have g1 := Jvm.FP.Core.lt_of_below l1.1 b2
  have g2 := Jvm.FP.Core.lt_of_below b1 l1.2
  have q1 : Jvm.FP.Core.quantum Jvm.FP.Core.b32 n m 0 = Jvm.FP.Core.leading n m - 23 := by
    unfold Jvm.FP.Core.quantum
    rw [b32_qmin, b32_p]
    omega
  have hf := Jvm.FP.Core.roundRatio_fits Jvm.FP.Core.good_b32 (decide (a < 0)) n (B := m) (by omega) 0
  have e4 : Jvm.FP.Core.roundRatio Jvm.FP.Core.b32 (decide (a < 0)) n m 0 = Jvm.FP.Core.settle Jvm.FP.Core.b32 (decide (a < 0)) (Jvm.FP.Core.nearest (Jvm.FP.Core.unitsNum n 0 (Jvm.FP.Core.leading n m - 23)) (Jvm.FP.Core.unitsDen m 0 (Jvm.FP.Core.leading n m - 23))) (Jvm.FP.Core.leading n m - 23) := by
    unfold Jvm.FP.Core.roundRatio
    rw [if_neg (by omega), q1]
    rfl
  rw [e4] at hf e3
  generalize Jvm.FP.Core.nearest (Jvm.FP.Core.unitsNum n 0 (Jvm.FP.Core.leading n m - 23)) (Jvm.FP.Core.unitsDen m 0 (Jvm.FP.Core.leading n m - 23)) = c at hf e3
  unfold Jvm.FP.Core.settle Jvm.FP.Core.bound at hf e3
  rw [b32_qmax] at hf e3
  have p24 : 2 ^ Jvm.FP.Core.b32.p = 16777216 := by decide
  rw [p24] at hf e3
  by_cases hc : c < 16777216
  · rw [if_pos hc, if_pos (by omega)] at hf e3
    obtain ⟨f1, f2, f3, f4⟩ := hf
    rw [b32_qmin, b32_tails] at f4
    exact ⟨c, Jvm.FP.Core.leading n m - 23, e3, by omega, by omega⟩
  · rw [if_neg hc, if_pos (by omega)] at hf e3
    exact ⟨Jvm.FP.Core.b32.tails, Jvm.FP.Core.leading n m - 23 + 1, e3, by rw [b32_tails]; omega, by omega⟩
