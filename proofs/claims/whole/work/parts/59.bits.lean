/-! HOW MANY BITS: the JDK's way byte by byte -/
def bcVal : List Nat → Nat
  | [] => 0
  | y :: l => 256 * bcVal l + y
theorem bc_and (a c : Nat) {b e : Nat} (hb : b < 256) (he : e < 256) : (256 * a + b) &&& (256 * c + e) = 256 * (a &&& c) + (b &&& e) := by
  apply Nat.eq_of_testBit_eq
  intro i
  have hbe : (b &&& e) < 2 ^ 8 := Nat.lt_of_le_of_lt Nat.and_le_left hb
  rw [Nat.testBit_and]
  have h1 := Nat.testBit_two_pow_mul_add a (b := b) (i := 8) hb i
  have h2 := Nat.testBit_two_pow_mul_add c (b := e) (i := 8) he i
  have h3 := Nat.testBit_two_pow_mul_add (a &&& c) (b := b &&& e) (i := 8) hbe i
  rw [show (256 : Nat) = 2 ^ 8 by decide, h1, h2, h3]
  split
  · rw [Nat.testBit_and]
  · rw [Nat.testBit_and]
def bc1 (b : Nat) : Nat := b - ((b / 2) &&& 85)
def bc2 (b : Nat) : Nat := (b &&& 51) + ((b / 4) &&& 51)
def bc3 (b : Nat) : Nat := (b + b / 16) &&& 15
/-- a mask: the byte m, n times -/
def bcM (m : Nat) : Nat → Nat
  | 0 => 0
  | n + 1 => 256 * bcM m n + m
theorem bc_h1 : ∀ e, e < 2 → ∀ b, b < 256 → (e * 128 + b / 2) &&& 85 = (b / 2) &&& 85 := by decide +kernel
theorem bc_h2 : ∀ e, e < 4 → ∀ b, b < 256 → (e * 64 + b / 4) &&& 51 = (b / 4) &&& 51 := by decide +kernel
theorem bc_h3 : ∀ e, e < 5 → ∀ b, b < 256 → b % 16 ≤ 4 → b / 16 ≤ 4 → (e * 16 + b + b / 16 < 256) ∧ (e * 16 + b + b / 16) &&& 15 = bc3 b := by decide +kernel
theorem bc_s1 : ∀ l : List Nat, (∀ y ∈ l, y < 256) → bcVal l - ((bcVal l / 2) &&& bcM 85 l.length) = bcVal (l.map bc1) ∧ (bcVal l / 2) &&& bcM 85 l.length ≤ bcVal l := by
  intro l
  induction l with
  | nil => intro _; exact ⟨rfl, Nat.le_refl _⟩
  | cons b l ih =>
    intro h
    obtain ⟨i1, i2⟩ := ih (fun y hy => h y (List.mem_cons_of_mem _ hy))
    have hb := h b List.mem_cons_self
    have e1 : (256 * bcVal l + b) / 2 = 256 * (bcVal l / 2) + (bcVal l % 2 * 128 + b / 2) := by omega
    have e2 := bc_and (bcVal l / 2) (bcM 85 l.length) (b := bcVal l % 2 * 128 + b / 2) (e := 85) (by omega) (by omega)
    have e3 := bc_h1 (bcVal l % 2) (by omega) b hb
    have e4 : (b / 2) &&& 85 ≤ b / 2 := Nat.and_le_left
    show (256 * bcVal l + b) - (((256 * bcVal l + b) / 2) &&& (256 * bcM 85 l.length + 85)) = 256 * bcVal (l.map bc1) + (b - ((b / 2) &&& 85)) ∧ ((256 * bcVal l + b) / 2) &&& (256 * bcM 85 l.length + 85) ≤ 256 * bcVal l + b
    rw [e1, e2, e3, ← i1]
    generalize (bcVal l / 2) &&& bcM 85 l.length = u at i2 ⊢
    generalize (b / 2) &&& 85 = v at e4 ⊢
    omega
theorem bc_s2 : ∀ l : List Nat, (∀ y ∈ l, y < 256) → (bcVal l &&& bcM 51 l.length) + ((bcVal l / 4) &&& bcM 51 l.length) = bcVal (l.map bc2) := by
  intro l
  induction l with
  | nil => intro _; rfl
  | cons b l ih =>
    intro h
    have i1 := ih (fun y hy => h y (List.mem_cons_of_mem _ hy))
    have hb := h b List.mem_cons_self
    have e1 : (256 * bcVal l + b) / 4 = 256 * (bcVal l / 4) + (bcVal l % 4 * 64 + b / 4) := by omega
    have e2 := bc_and (bcVal l / 4) (bcM 51 l.length) (b := bcVal l % 4 * 64 + b / 4) (e := 51) (by omega) (by omega)
    have e3 := bc_h2 (bcVal l % 4) (by omega) b hb
    have e4 := bc_and (bcVal l) (bcM 51 l.length) (b := b) (e := 51) hb (by omega)
    show ((256 * bcVal l + b) &&& (256 * bcM 51 l.length + 51)) + (((256 * bcVal l + b) / 4) &&& (256 * bcM 51 l.length + 51)) = 256 * bcVal (l.map bc2) + ((b &&& 51) + ((b / 4) &&& 51))
    rw [e1, e2, e3, e4, ← i1]
    omega
theorem bc_lo : ∀ l : List Nat, (∀ y ∈ l, y < 256 ∧ y % 16 ≤ 4 ∧ y / 16 ≤ 4) → bcVal l % 16 < 5 := by
  intro l
  cases l with
  | nil => intro _; decide
  | cons b l =>
    intro h
    have hb := h b List.mem_cons_self
    show (256 * bcVal l + b) % 16 < 5
    omega
theorem bc_s3 : ∀ l : List Nat, (∀ y ∈ l, y < 256 ∧ y % 16 ≤ 4 ∧ y / 16 ≤ 4) → (bcVal l + bcVal l / 16) &&& bcM 15 l.length = bcVal (l.map bc3) := by
  intro l
  induction l with
  | nil => intro _; rfl
  | cons b l ih =>
    intro h
    have hl : ∀ y ∈ l, y < 256 ∧ y % 16 ≤ 4 ∧ y / 16 ≤ 4 := fun y hy => h y (List.mem_cons_of_mem _ hy)
    have i1 := ih hl
    have hb := h b List.mem_cons_self
    have hlo := bc_lo l hl
    have e3 := bc_h3 (bcVal l % 16) hlo b hb.1 hb.2.1 hb.2.2
    have e1 : (256 * bcVal l + b) + (256 * bcVal l + b) / 16 = 256 * (bcVal l + bcVal l / 16) + (bcVal l % 16 * 16 + b + b / 16) := by omega
    have e2 := bc_and (bcVal l + bcVal l / 16) (bcM 15 l.length) (b := bcVal l % 16 * 16 + b + b / 16) (e := 15) e3.1 (by omega)
    show ((256 * bcVal l + b) + (256 * bcVal l + b) / 16) &&& (256 * bcM 15 l.length + 15) = 256 * bcVal (l.map bc3) + bc3 b
    rw [e1, e2, e3.2, ← i1]
/-- a byte's bits -/
def bcB (b : Nat) : Nat := (b % 2) + (b / 2 % 2) + (b / 4 % 2) + (b / 8 % 2) + (b / 16 % 2) + (b / 32 % 2) + (b / 64 % 2) + (b / 128 % 2)
theorem bc_byte : ∀ b, b < 256 → (bc1 b < 256 ∧ bc2 (bc1 b) < 256 ∧ bc2 (bc1 b) % 16 ≤ 4 ∧ bc2 (bc1 b) / 16 ≤ 4) ∧ bc3 (bc2 (bc1 b)) = bcB b := by decide +kernel
/-- the eight bytes -/
def bcL (X : Nat) : List Nat := [X % 256, X / 256 % 256, X / 65536 % 256, X / 16777216 % 256, X / 4294967296 % 256, X / 1099511627776 % 256, X / 281474976710656 % 256, X / 72057594037927936 % 256]
theorem bc_val {X : Nat} (h : X < 18446744073709551616) : bcVal (bcL X) = X := by
  show 256 * (256 * (256 * (256 * (256 * (256 * (256 * (256 * 0 + X / 72057594037927936 % 256) + X / 281474976710656 % 256) + X / 1099511627776 % 256) + X / 4294967296 % 256) + X / 16777216 % 256) + X / 65536 % 256) + X / 256 % 256) + X % 256 = X
  omega
theorem bc_lt (X : Nat) : ∀ y ∈ bcL X, y < 256 := by
  intro y hy
  unfold bcL at hy
  simp only [List.mem_cons, List.not_mem_nil, or_false] at hy
  rcases hy with h | h | h | h | h | h | h | h <;> omega
/-- the three steps over all bytes -/
theorem bc_123 {X X1 X2 X3 : Nat} (h : X < 18446744073709551616) (h1 : X1 = X - ((X / 2) &&& 6148914691236517205)) (h2 : X2 = (X1 &&& 3689348814741910323) + ((X1 / 4) &&& 3689348814741910323)) (h3 : X3 = (X2 + X2 / 16) &&& 1085102592571150095) :
    (X / 2) &&& 6148914691236517205 ≤ X ∧ X1 = bcVal ((bcL X).map bc1) ∧ X2 = bcVal (((bcL X).map bc1).map bc2) ∧ X3 = bcVal ((((bcL X).map bc1).map bc2).map bc3) := by
  have hv := bc_val h
  have a := bc_s1 (bcL X) (bc_lt X)
  rw [show bcM 85 (bcL X).length = 6148914691236517205 from (show bcM 85 8 = 6148914691236517205 by decide +kernel), hv] at a
  have e1 : X1 = bcVal ((bcL X).map bc1) := by rw [h1, a.1]
  have l1 : ∀ y ∈ (bcL X).map bc1, y < 256 := fun y hy => by
    obtain ⟨z, hz, rfl⟩ := List.mem_map.mp hy
    exact (bc_byte z (bc_lt X z hz)).1.1
  have b := bc_s2 ((bcL X).map bc1) l1
  rw [show bcM 51 ((bcL X).map bc1).length = 3689348814741910323 from (show bcM 51 8 = 3689348814741910323 by decide +kernel), ← e1] at b
  have e2 : X2 = bcVal (((bcL X).map bc1).map bc2) := by rw [h2, b]
  have l2 : ∀ y ∈ ((bcL X).map bc1).map bc2, y < 256 ∧ y % 16 ≤ 4 ∧ y / 16 ≤ 4 := fun y hy => by
    obtain ⟨z, hz, rfl⟩ := List.mem_map.mp hy
    obtain ⟨u, hu, rfl⟩ := List.mem_map.mp hz
    exact (bc_byte u (bc_lt X u hu)).1.2
  have c := bc_s3 (((bcL X).map bc1).map bc2) l2
  rw [show bcM 15 (((bcL X).map bc1).map bc2).length = 1085102592571150095 from (show bcM 15 8 = 1085102592571150095 by decide +kernel), ← e2] at c
  exact ⟨a.2, e1, e2, by rw [h3, c]⟩
theorem bc_sh (x : Int64) : ((x.toUInt64 >>> ((iZ 1).toInt64.toUInt64 &&& Int64.toUInt64 63)).toInt64).toBitVec.toNat = x.toBitVec.toNat / 2 ∧ ((x.toUInt64 >>> ((iZ 2).toInt64.toUInt64 &&& Int64.toUInt64 63)).toInt64).toBitVec.toNat = x.toBitVec.toNat / 4 ∧ ((x.toUInt64 >>> ((iZ 4).toInt64.toUInt64 &&& Int64.toUInt64 63)).toInt64).toBitVec.toNat = x.toBitVec.toNat / 16 ∧ ((x.toUInt64 >>> ((iZ 8).toInt64.toUInt64 &&& Int64.toUInt64 63)).toInt64).toBitVec.toNat = x.toBitVec.toNat / 256 ∧ ((x.toUInt64 >>> ((iZ 16).toInt64.toUInt64 &&& Int64.toUInt64 63)).toInt64).toBitVec.toNat = x.toBitVec.toNat / 65536 ∧ ((x.toUInt64 >>> ((iZ 32).toInt64.toUInt64 &&& Int64.toUInt64 63)).toInt64).toBitVec.toNat = x.toBitVec.toNat / 4294967296 := by
  have g : ∀ (k : UInt64) (n : Nat), k.toNat % 64 = n → ((x.toUInt64 >>> k).toInt64).toBitVec.toNat = x.toBitVec.toNat / 2 ^ n := by
    intro k n hk
    show (x.toUInt64 >>> k).toNat = _
    rw [UInt64.toNat_shiftRight, hk, Nat.shiftRight_eq_div_pow]
    rfl
  exact ⟨g _ 1 (by decide), g _ 2 (by decide), g _ 4 (by decide), g _ 8 (by decide), g _ 16 (by decide), g _ 32 (by decide)⟩
theorem bc_f1 {c0 T X : Nat} (h : X = 256 * T + c0) (hc : c0 < 256) : X + X / 256 = 257 * T + c0 := by omega
theorem bc_f2 {r T X : Nat} (h : X = 65536 * T + r) (hc : r < 65536) : X + X / 65536 = 65537 * T + r := by omega
theorem bc_f3 {r T X : Nat} (h : X = 4294967296 * T + r) (hc : r < 4294967296) : X + X / 4294967296 = 4294967297 * T + r := by omega
theorem bc_f4 {F r f0 f4 G K : Nat} (h1 : F = 256 * G + f4) (h2 : r = 256 * K + f0) (hb : f0 + f4 < 128) : (4294967297 * F + r) % 2 ^ 32 % 2 ^ 7 = f0 + f4 := by omega
theorem bc_l1 (c0 c1 c2 c3 c4 c5 c6 c7 : Nat) : 257 * (c1 + 256 * c2 + 65536 * c3 + 16777216 * c4 + 4294967296 * c5 + 1099511627776 * c6 + 281474976710656 * c7) + c0 = 65536 * ((c2 + c3) + 256 * (c3 + c4) + 65536 * (c4 + c5) + 16777216 * (c5 + c6) + 4294967296 * (c6 + c7) + 1099511627776 * c7) + ((c0 + c1) + 256 * (c1 + c2)) := by omega
theorem bc_l2 (c0 c1 c2 c3 c4 c5 c6 c7 : Nat) : 65537 * ((c2 + c3) + 256 * (c3 + c4) + 65536 * (c4 + c5) + 16777216 * (c5 + c6) + 4294967296 * (c6 + c7) + 1099511627776 * c7) + ((c0 + c1) + 256 * (c1 + c2)) = 4294967296 * ((c4 + c5 + (c6 + c7)) + 256 * (c5 + c6 + (c7)) + 65536 * (c6 + c7) + 16777216 * c7) + ((c0 + c1 + (c2 + c3)) + 256 * (c1 + c2 + (c3 + c4)) + 65536 * (c2 + c3 + (c4 + c5)) + 16777216 * (c3 + c4 + (c5 + c6))) := by omega
theorem bc_l3 {c0 c1 c2 c3 c4 c5 c6 c7 : Nat} (l0 : c0 ≤ 8) (l1 : c1 ≤ 8) (l2 : c2 ≤ 8) : (c0 + c1) + 256 * (c1 + c2) < 65536 := by omega
theorem bc_l4 {c0 c1 c2 c3 c4 c5 c6 c7 : Nat} (l0 : c0 ≤ 8) (l1 : c1 ≤ 8) (l2 : c2 ≤ 8) (l3 : c3 ≤ 8) (l4 : c4 ≤ 8) (l5 : c5 ≤ 8) (l6 : c6 ≤ 8) : (c0 + c1 + (c2 + c3)) + 256 * (c1 + c2 + (c3 + c4)) + 65536 * (c2 + c3 + (c4 + c5)) + 16777216 * (c3 + c4 + (c5 + c6)) < 4294967296 := by omega
theorem bc_j (x : Int64) : (jBits x).toBitVec.toNat = bcB (x.toBitVec.toNat % 256) + bcB (x.toBitVec.toNat / 256 % 256) + bcB (x.toBitVec.toNat / 65536 % 256) + bcB (x.toBitVec.toNat / 16777216 % 256) + bcB (x.toBitVec.toNat / 4294967296 % 256) + bcB (x.toBitVec.toNat / 1099511627776 % 256) + bcB (x.toBitVec.toNat / 281474976710656 % 256) + bcB (x.toBitVec.toNat / 72057594037927936 % 256) := by
  have hX : x.toBitVec.toNat < 18446744073709551616 := x.toBitVec.isLt
  obtain ⟨g1, g2, g3, g4⟩ := bc_123 hX rfl rfl rfl
  have b1 : (jB1 x).toBitVec.toNat = x.toBitVec.toNat - ((x.toBitVec.toNat / 2) &&& 6148914691236517205) := by
    unfold jB1
    rw [Int64.toBitVec_sub, BitVec.toNat_sub, Int64.toBitVec_and, BitVec.toNat_and, (bc_sh x).1, show (6148914691236517205 : Int64).toBitVec.toNat = 6148914691236517205 by rfl]
    omega
  have b2 : (jB2 (jB1 x)).toBitVec.toNat = ((jB1 x).toBitVec.toNat &&& 3689348814741910323) + (((jB1 x).toBitVec.toNat / 4) &&& 3689348814741910323) := by
    unfold jB2
    rw [Int64.toBitVec_add, BitVec.toNat_add, Int64.toBitVec_and, BitVec.toNat_and, Int64.toBitVec_and, BitVec.toNat_and, (bc_sh (jB1 x)).2.1, show (3689348814741910323 : Int64).toBitVec.toNat = 3689348814741910323 by rfl]
    have q1 : (jB1 x).toBitVec.toNat &&& 3689348814741910323 ≤ 3689348814741910323 := Nat.and_le_right
    have q2 : ((jB1 x).toBitVec.toNat / 4) &&& 3689348814741910323 ≤ 3689348814741910323 := Nat.and_le_right
    omega
  have b2b : (jB2 (jB1 x)).toBitVec.toNat ≤ 7378697629483820646 := by
    rw [b2]
    have q1 : (jB1 x).toBitVec.toNat &&& 3689348814741910323 ≤ 3689348814741910323 := Nat.and_le_right
    have q2 : ((jB1 x).toBitVec.toNat / 4) &&& 3689348814741910323 ≤ 3689348814741910323 := Nat.and_le_right
    omega
  have b3 : (jB3 (jB2 (jB1 x))).toBitVec.toNat = ((jB2 (jB1 x)).toBitVec.toNat + (jB2 (jB1 x)).toBitVec.toNat / 16) &&& 1085102592571150095 := by
    unfold jB3
    rw [Int64.toBitVec_and, BitVec.toNat_and, Int64.toBitVec_add, BitVec.toNat_add, (bc_sh (jB2 (jB1 x))).2.2.1, show (1085102592571150095 : Int64).toBitVec.toNat = 1085102592571150095 by rfl]
    rw [Nat.mod_eq_of_lt (show (jB2 (jB1 x)).toBitVec.toNat + (jB2 (jB1 x)).toBitVec.toNat / 16 < 2 ^ 64 by omega)]
  rw [← b1] at g2 g3 g4
  rw [← b2] at g3 g4
  rw [← b3] at g4
  have hb := fun y (hy : y ∈ bcL x.toBitVec.toNat) => (bc_byte y (bc_lt _ y hy)).2
  unfold bcL at g4
  simp only [List.map_cons, List.map_nil] at g4
  rw [hb (x.toBitVec.toNat % 256) (by simp [bcL]), hb (x.toBitVec.toNat / 256 % 256) (by simp [bcL]), hb (x.toBitVec.toNat / 65536 % 256) (by simp [bcL]), hb (x.toBitVec.toNat / 16777216 % 256) (by simp [bcL]), hb (x.toBitVec.toNat / 4294967296 % 256) (by simp [bcL]), hb (x.toBitVec.toNat / 1099511627776 % 256) (by simp [bcL]), hb (x.toBitVec.toNat / 281474976710656 % 256) (by simp [bcL]), hb (x.toBitVec.toNat / 72057594037927936 % 256) (by simp [bcL])] at g4
  have lt8 : ∀ b, bcB b ≤ 8 := fun b => by unfold bcB; omega
  have l0 := lt8 (x.toBitVec.toNat % 256)
  have l1 := lt8 (x.toBitVec.toNat / 256 % 256)
  have l2 := lt8 (x.toBitVec.toNat / 65536 % 256)
  have l3 := lt8 (x.toBitVec.toNat / 16777216 % 256)
  have l4 := lt8 (x.toBitVec.toNat / 4294967296 % 256)
  have l5 := lt8 (x.toBitVec.toNat / 1099511627776 % 256)
  have l6 := lt8 (x.toBitVec.toNat / 281474976710656 % 256)
  have l7 := lt8 (x.toBitVec.toNat / 72057594037927936 % 256)
  generalize bcB (x.toBitVec.toNat % 256) = c0 at g4 l0 ⊢
  generalize bcB (x.toBitVec.toNat / 256 % 256) = c1 at g4 l1 ⊢
  generalize bcB (x.toBitVec.toNat / 65536 % 256) = c2 at g4 l2 ⊢
  generalize bcB (x.toBitVec.toNat / 16777216 % 256) = c3 at g4 l3 ⊢
  generalize bcB (x.toBitVec.toNat / 4294967296 % 256) = c4 at g4 l4 ⊢
  generalize bcB (x.toBitVec.toNat / 1099511627776 % 256) = c5 at g4 l5 ⊢
  generalize bcB (x.toBitVec.toNat / 281474976710656 % 256) = c6 at g4 l6 ⊢
  generalize bcB (x.toBitVec.toNat / 72057594037927936 % 256) = c7 at g4 l7 ⊢
  change (jB3 (jB2 (jB1 x))).toBitVec.toNat = 256 * (256 * (256 * (256 * (256 * (256 * (256 * (256 * 0 + c7) + c6) + c5) + c4) + c3) + c2) + c1) + c0 at g4
  unfold jBits
  generalize jB3 (jB2 (jB1 x)) = y3 at g4 ⊢
  have b4 : (jB4 8 y3).toBitVec.toNat = y3.toBitVec.toNat + y3.toBitVec.toNat / 256 := by
    unfold jB4
    rw [Int64.toBitVec_add, BitVec.toNat_add, (bc_sh y3).2.2.2.1]
    omega
  have b5 : (jB4 16 (jB4 8 y3)).toBitVec.toNat = (jB4 8 y3).toBitVec.toNat + (jB4 8 y3).toBitVec.toNat / 65536 := by
    unfold jB4 at *
    rw [Int64.toBitVec_add, BitVec.toNat_add, (bc_sh _).2.2.2.2.1, b4]
    omega
  have b6 : (jB4 32 (jB4 16 (jB4 8 y3))).toBitVec.toNat = (jB4 16 (jB4 8 y3)).toBitVec.toNat + (jB4 16 (jB4 8 y3)).toBitVec.toNat / 4294967296 := by
    unfold jB4 at *
    rw [Int64.toBitVec_add, BitVec.toNat_add, (bc_sh _).2.2.2.2.2, b5, b4]
    omega
  have x3 : y3.toBitVec.toNat = 256 * (c1 + 256 * c2 + 65536 * c3 + 16777216 * c4 + 4294967296 * c5 + 1099511627776 * c6 + 281474976710656 * c7) + c0 := by rw [g4]; clear b4 b5 b6 g4 b1 b2 b3; omega
  have x4 : (jB4 8 y3).toBitVec.toNat = 65536 * ((c2 + c3) + 256 * (c3 + c4) + 65536 * (c4 + c5) + 16777216 * (c5 + c6) + 4294967296 * (c6 + c7) + 1099511627776 * c7) + ((c0 + c1) + 256 * (c1 + c2)) := by rw [b4, bc_f1 x3 (Nat.lt_of_le_of_lt l0 (by decide))]; exact bc_l1 c0 c1 c2 c3 c4 c5 c6 c7
  have x5 : (jB4 16 (jB4 8 y3)).toBitVec.toNat = 4294967296 * ((c4 + c5 + (c6 + c7)) + 256 * (c5 + c6 + (c7)) + 65536 * (c6 + c7) + 16777216 * c7) + ((c0 + c1 + (c2 + c3)) + 256 * (c1 + c2 + (c3 + c4)) + 65536 * (c2 + c3 + (c4 + c5)) + 16777216 * (c3 + c4 + (c5 + c6))) := by rw [b5, bc_f2 x4 (bc_l3 (c3 := c3) (c4 := c4) (c5 := c5) (c6 := c6) (c7 := c7) l0 l1 l2)]; exact bc_l2 c0 c1 c2 c3 c4 c5 c6 c7
  have x6 := b6.trans (bc_f3 x5 (bc_l4 (c7 := c7) l0 l1 l2 l3 l4 l5 l6))
  rw [Int32.toBitVec_and, BitVec.toNat_and, Int64.toBitVec_toInt32, BitVec.signExtend_eq_setWidth_of_le _ (by decide), BitVec.toNat_setWidth, show (iZ 127).toBitVec.toNat = 2 ^ 7 - 1 by decide, Nat.and_two_pow_sub_one_eq_mod, x6]
  clear x6 x5 x4 x3 b6 b5 b4 g4
  rw [bc_f4 (f0 := c0 + c1 + (c2 + c3)) (f4 := c4 + c5 + (c6 + c7)) (G := (c5 + c6 + (c7)) + 256 * (c6 + c7) + 65536 * c7) (K := (c1 + c2 + (c3 + c4)) + 256 * (c2 + c3 + (c4 + c5)) + 65536 * (c3 + c4 + (c5 + c6))) (by clear b1 b2 b2b b3 hX; omega) (by clear b1 b2 b2b b3 hX; omega) (by clear b1 b2 b2b b3 hX; omega)]
  clear b1 b2 b2b b3 hX
  omega
theorem bc_bt (x : Int64) (n : Nat) : jBt x n = ((x.toBitVec.toNat / 2 ^ n % 2 : Nat) : Int) := by
  unfold jBt
  have h : x.toBitVec.getLsbD n = decide (x.toBitVec.toNat / 2 ^ n % 2 = 1) := by
    show x.toBitVec.toNat.testBit n = _
    rw [Nat.testBit_eq_decide_div_mod_eq]
  rw [h]
  by_cases q : x.toBitVec.toNat / 2 ^ n % 2 = 1
  · rw [if_pos (by simpa using q), q]; rfl
  · rw [if_neg (by simpa using q)]
    have : x.toBitVec.toNat / 2 ^ n % 2 = 0 := by omega
    rw [this]
    rfl
theorem bc_by (x : Int64) (k : Nat) : sBt x (8 * k + 8) = sBt x (8 * k) + (bcB (x.toBitVec.toNat / 2 ^ (8 * k) % 256) : Int) := by
  show sBt x (8 * k) + jBt x (8 * k) + jBt x (8 * k + 1) + jBt x (8 * k + 2) + jBt x (8 * k + 3) + jBt x (8 * k + 4) + jBt x (8 * k + 5) + jBt x (8 * k + 6) + jBt x (8 * k + 7) = _
  rw [bc_bt, bc_bt, bc_bt, bc_bt, bc_bt, bc_bt, bc_bt, bc_bt]
  have e : ∀ j : Nat, x.toBitVec.toNat / 2 ^ (8 * k + j) = x.toBitVec.toNat / 2 ^ (8 * k) / 2 ^ j := fun j => by rw [Nat.pow_add, Nat.div_div_eq_div_mul]
  rw [e 1, e 2, e 3, e 4, e 5, e 6, e 7]
  generalize x.toBitVec.toNat / 2 ^ (8 * k) = y
  unfold bcB
  omega
/-- both ways count the same bits -/
theorem jBits_e (x : Int64) : jBits x = iZ (sBt x 64) := by
  refine i32_nat ?_
  have h := bc_j x
  have e0 := bc_by x 0
  have e1 := bc_by x 1
  have e2 := bc_by x 2
  have e3 := bc_by x 3
  have e4 := bc_by x 4
  have e5 := bc_by x 5
  have e6 := bc_by x 6
  have e7 := bc_by x 7
  change sBt x 8 = 0 + (bcB (x.toBitVec.toNat / 1 % 256) : Int) at e0
  change sBt x 16 = sBt x 8 + (bcB (x.toBitVec.toNat / 256 % 256) : Int) at e1
  change sBt x 24 = sBt x 16 + (bcB (x.toBitVec.toNat / 65536 % 256) : Int) at e2
  change sBt x 32 = sBt x 24 + (bcB (x.toBitVec.toNat / 16777216 % 256) : Int) at e3
  change sBt x 40 = sBt x 32 + (bcB (x.toBitVec.toNat / 4294967296 % 256) : Int) at e4
  change sBt x 48 = sBt x 40 + (bcB (x.toBitVec.toNat / 1099511627776 % 256) : Int) at e5
  change sBt x 56 = sBt x 48 + (bcB (x.toBitVec.toNat / 281474976710656 % 256) : Int) at e6
  change sBt x 64 = sBt x 56 + (bcB (x.toBitVec.toNat / 72057594037927936 % 256) : Int) at e7
  rw [Nat.div_one] at e0
  have hb := sBt_b x 64
  obtain ⟨n, hn⟩ := Int.eq_ofNat_of_zero_le hb.1
  rw [hn, iZn (by omega), h]
  omega
