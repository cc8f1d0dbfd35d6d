theorem z_top32 {Γ : zG} {ω : zO} {μ : zM} {pc : Nat} {L : List (Nat × Value)} {st : List Value} {a b : Int32} (e : a = b) (kk : Z Γ ω μ pc L (.int b :: st)) : Z Γ ω μ pc L (.int a :: st) := e ▸ kk
theorem or_z0 (x : Int32) : x ||| iZ 0 = x := Int32.or_zero
theorem shn_63 : ∀ n, n < 64 → (((iZ ((n : Nat) : Int)).toInt64 &&& 63).toBitVec.smod 64).toNat = n := by decide +kernel
theorem bit_one (v : BitVec 64) : v &&& 1#64 = if v.getLsbD 0 then 1#64 else 0#64 := by
  apply BitVec.eq_of_getLsbD_eq
  intro i hi
  rw [BitVec.getLsbD_and, BitVec.getLsbD_one]
  by_cases h0 : i = 0
  · subst h0
    cases v.getLsbD 0 <;> rfl
  · cases v.getLsbD 0 <;> simp [h0]
theorem jBt_e (p : Int64) (n : Nat) (hn : n < 64) : ((p >>> ((iZ (n : Int)).toInt64 &&& 63)) &&& 1).toInt32 = iZ (jBt p n) := by
  have e : ((p >>> ((iZ (n : Int)).toInt64 &&& 63)) &&& 1).toBitVec = if p.toBitVec.getLsbD n then 1#64 else 0#64 := by
    rw [Int64.toBitVec_and, Int64.toBitVec_shiftRight]
    show (p.toBitVec.sshiftRight (((iZ (n : Int)).toInt64 &&& 63).toBitVec.smod 64).toNat) &&& 1#64 = _
    rw [shn_63 n hn, bit_one, BitVec.getLsbD_sshiftRight]
    simp [hn]
  have e2 : (p >>> ((iZ (n : Int)).toInt64 &&& 63)) &&& 1 = Int64.ofBitVec (if p.toBitVec.getLsbD n then 1#64 else 0#64) := Int64.toBitVec_inj.mp e
  rw [e2]
  unfold jBt
  cases p.toBitVec.getLsbD n <;> decide
