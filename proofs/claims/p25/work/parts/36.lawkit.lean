/-! THE LAW: the class's cells in the heap, beside the script -/
def X (Γ : zG) (G : va_G) (ca : Nat → ClassId) (ac : Int → Nat) (μ : zM) (pc : Nat) (L : List (Nat × Value)) (st : List Value) : Prop :=
  ∀ (H : Heap) (locs : List Loc) (ls : Array Slot), zH (cω G ca ac) (cA ac 163) μ H → va_S Γ.2.2.1 Γ.2.1 H locs → zL ls Γ.2.2.2 L → Γ.1 H locs pc ls st
def xC (Γ : zG) (G : va_G) (ca : Nat → ClassId) (ac : Int → Nat) (b Lx : Nat) (xs : Nat → Int32) : Prop :=
  ∃ (p : Program) (l : Launch) (e : Env) (s : State) (m : MethodId) (below : List Frame) (meth : Method) (c : Code),
    (Γ.1 = fun H locs pc ls st => W p l e room_1 s m #[Value.ref b] below meth c H locs 163 1412 (lw_Z below #[Value.ref b] s) (F0 m pc ls st)) ∧ Γ.2.1 = s.heap ∧ (Γ.2.2.1 = fun q : Nat => s.heap.size ≤ q) ∧ Γ.2.2.2 = 18 ∧ p.tables.exec = Jvm.exec ∧ c.code = cL_law ∧ c.maxLocals = 18 ∧ s.vm.findClass RL = some m.cls ∧ (∀ w ∈ AL, w.before #[Value.ref b] s = true) ∧ yK G ca s ∧ va_X b Lx xs s s.heap ∧ b < s.heap.size ∧ Lx ≤ 260 ∧ (∀ q : Nat, cA ac 163 q → s.heap.size ≤ q) ∧ meth.sig.returnType = ret ∧ meth.locks = false
theorem iZn {n : Nat} (h : n < 4294967296) : (iZ (n : Int)).toBitVec.toNat = n := by
  show (BitVec.ofInt 32 (n : Int)).toNat = n
  rw [BitVec.toNat_ofInt]
  omega
theorem i32_nat {a b : Int32} (h : a.toBitVec.toNat = b.toBitVec.toNat) : a = b := Int32.toBitVec_inj.mp (BitVec.eq_of_toNat_eq h)
theorem iZ_ofNat {n : Nat} (h : n < 4294967296) : Int32.ofNat n = iZ (n : Int) := by
  refine i32_nat ?_
  rw [iZn h]
  show (BitVec.ofNat 32 n).toNat = n
  rw [BitVec.toNat_ofNat]
  omega
theorem iZ_mask (v : Int32) : ∃ z : Int, (0 ≤ z ∧ z ≤ 2147483647) ∧ v &&& 2147483647 = iZ z := by
  have h : (v &&& 2147483647).toBitVec.toNat = v.toBitVec.toNat % 2 ^ 31 := by
    rw [Int32.toBitVec_and, BitVec.toNat_and, show (2147483647 : Int32).toBitVec.toNat = 2 ^ 31 - 1 by decide, Nat.and_two_pow_sub_one_eq_mod]
  have e := iZn (n := v.toBitVec.toNat % 2147483648) (by omega)
  exact ⟨((v.toBitVec.toNat % 2147483648 : Nat) : Int), by omega, i32_nat (by omega)⟩
section XR
variable {Γ : zG} {G : va_G} {ca : Nat → ClassId} {ac : Int → Nat} {b Lx : Nat} {xs : Nat → Int32} {μ : zM} {pc : Nat} {L : List (Nat × Value)} {st : List Value}

theorem x_aload_n (h : xC Γ G ca ac b Lx xs) {k : Fin 4} {x : Nat} (hdg : decode cL_law pc = .ok (.aload_n k, 1)) (hl0 : zlk L k = some (.ref x)) (kk : X Γ G ca ac μ (pc + 1) L (.ref x :: st)) : X Γ G ca ac μ pc L st := by
  obtain ⟨p, l, e, s, m, below, meth, c, hV, hH0, hA0, hnl, hx, hb, hml, hown, hts, hK, hX, hbl, hLx, hAc, hr, hlk⟩ := h
  intro H locs ls hH hS hl
  rw [hV]
  have K := kk H locs ls hH hS hl
  rw [hV] at K
  refine lv_aload_n hx hb hdg rfl (hl.2.2 _ _ hl0) ?_
  exact K

theorem x_iload_n (h : xC Γ G ca ac b Lx xs) {k : Fin 4} {x : Int32} (hdg : decode cL_law pc = .ok (.iload_n k, 1)) (hl0 : zlk L k = some (.int x)) (kk : X Γ G ca ac μ (pc + 1) L (.int x :: st)) : X Γ G ca ac μ pc L st := by
  obtain ⟨p, l, e, s, m, below, meth, c, hV, hH0, hA0, hnl, hx, hb, hml, hown, hts, hK, hX, hbl, hLx, hAc, hr, hlk⟩ := h
  intro H locs ls hH hS hl
  rw [hV]
  have K := kk H locs ls hH hS hl
  rw [hV] at K
  refine lv_iload_n hx hb hdg rfl (hl.2.2 _ _ hl0) ?_
  exact K

theorem x_iload (h : xC Γ G ca ac b Lx xs) {k : Nat} {x : Int32} (hdg : decode cL_law pc = .ok (.iload k, 2)) (hl0 : zlk L k = some (.int x)) (kk : X Γ G ca ac μ (pc + 2) L (.int x :: st)) : X Γ G ca ac μ pc L st := by
  obtain ⟨p, l, e, s, m, below, meth, c, hV, hH0, hA0, hnl, hx, hb, hml, hown, hts, hK, hX, hbl, hLx, hAc, hr, hlk⟩ := h
  intro H locs ls hH hS hl
  rw [hV]
  have K := kk H locs ls hH hS hl
  rw [hV] at K
  refine lv_iload hx hb hdg (hl.2.2 _ _ hl0) ?_
  exact K

theorem x_istore_n (h : xC Γ G ca ac b Lx xs) {k : Fin 4} {x : Int32} (hdg : decode cL_law pc = .ok (.istore_n k, 1)) (hn : (k : Nat) < 18) (hc : zcat L (k : Nat) = true) (kk : X Γ G ca ac μ (pc + 1) (((k : Nat), .int x) :: L) st) : X Γ G ca ac μ pc L (.int x :: st) := by
  obtain ⟨p, l, e, s, m, below, meth, c, hV, hH0, hA0, hnl, hx, hb, hml, hown, hts, hK, hX, hbl, hLx, hAc, hr, hlk⟩ := h
  intro H locs ls hH hS hl
  rw [hV]
  refine lv_istore_n hx hb hdg rfl hl.has (by omega) rfl (fun ls9 h9 => ?_)
  have K := kk H locs ls9 hH hS (zL.st hc h9)
  rw [hV] at K
  exact K

theorem x_istore (h : xC Γ G ca ac b Lx xs) {k : Nat} {x : Int32} (hdg : decode cL_law pc = .ok (.istore k, 2)) (hn : k < 18) (hc : zcat L k = true) (kk : X Γ G ca ac μ (pc + 2) ((k, .int x) :: L) st) : X Γ G ca ac μ pc L (.int x :: st) := by
  obtain ⟨p, l, e, s, m, below, meth, c, hV, hH0, hA0, hnl, hx, hb, hml, hown, hts, hK, hX, hbl, hLx, hAc, hr, hlk⟩ := h
  intro H locs ls hH hS hl
  rw [hV]
  refine lv_istore hx hb hdg hl.has (by omega) rfl (fun ls9 h9 => ?_)
  have K := kk H locs ls9 hH hS (zL.st hc h9)
  rw [hV] at K
  exact K

theorem x_astore_n (h : xC Γ G ca ac b Lx xs) {k : Fin 4} {x : Nat} (hdg : decode cL_law pc = .ok (.astore_n k, 1)) (hn : (k : Nat) < 18) (hc : zcat L (k : Nat) = true) (kk : X Γ G ca ac μ (pc + 1) (((k : Nat), .ref x) :: L) st) : X Γ G ca ac μ pc L (.ref x :: st) := by
  obtain ⟨p, l, e, s, m, below, meth, c, hV, hH0, hA0, hnl, hx, hb, hml, hown, hts, hK, hX, hbl, hLx, hAc, hr, hlk⟩ := h
  intro H locs ls hH hS hl
  rw [hV]
  refine lv_astore_n hx hb hdg rfl hl.has (by omega) rfl (fun ls9 h9 => ?_)
  have K := kk H locs ls9 hH hS (zL.st hc h9)
  rw [hV] at K
  exact K

theorem x_iconst (h : xC Γ G ca ac b Lx xs) {n : Int} (hdg : decode cL_law pc = .ok (.iconst n, 1)) (kk : X Γ G ca ac μ (pc + 1) L (.int (iZ n) :: st)) : X Γ G ca ac μ pc L st := by
  obtain ⟨p, l, e, s, m, below, meth, c, hV, hH0, hA0, hnl, hx, hb, hml, hown, hts, hK, hX, hbl, hLx, hAc, hr, hlk⟩ := h
  intro H locs ls hH hS hl
  rw [hV]
  have K := kk H locs ls hH hS hl
  rw [hV] at K
  refine lv_iconst hx hb hdg rfl ?_
  exact K

theorem x_bipush (h : xC Γ G ca ac b Lx xs) {n : Int} (hdg : decode cL_law pc = .ok (.bipush n, 2)) (hv : (Int8.ofInt n).toInt32 = iZ n) (kk : X Γ G ca ac μ (pc + 2) L (.int (iZ n) :: st)) : X Γ G ca ac μ pc L st := by
  obtain ⟨p, l, e, s, m, below, meth, c, hV, hH0, hA0, hnl, hx, hb, hml, hown, hts, hK, hX, hbl, hLx, hAc, hr, hlk⟩ := h
  intro H locs ls hH hS hl
  rw [hV]
  have K := kk H locs ls hH hS hl
  rw [hV] at K
  refine lv_bipush hx hb hdg hv ?_
  exact K

theorem x_sipush (h : xC Γ G ca ac b Lx xs) {n : Int} (hdg : decode cL_law pc = .ok (.sipush n, 3)) (hv : (Int16.ofInt n).toInt32 = iZ n) (kk : X Γ G ca ac μ (pc + 3) L (.int (iZ n) :: st)) : X Γ G ca ac μ pc L st := by
  obtain ⟨p, l, e, s, m, below, meth, c, hV, hH0, hA0, hnl, hx, hb, hml, hown, hts, hK, hX, hbl, hLx, hAc, hr, hlk⟩ := h
  intro H locs ls hH hS hl
  rw [hV]
  have K := kk H locs ls hH hS hl
  rw [hV] at K
  refine lv_sipush hx hb hdg hv ?_
  exact K

theorem x_ldc (h : xC Γ G ca ac b Lx xs) {i : Nat} {v : Int32} (n : Int) (hw : Cond.constant RL i v ∈ AL) (hv : v = iZ n) (hdg : decode cL_law pc = .ok (.ldc i, 2)) (kk : X Γ G ca ac μ (pc + 2) L (.int (iZ n) :: st)) : X Γ G ca ac μ pc L st := by
  obtain ⟨p, l, e, s, m, below, meth, c, hV, hH0, hA0, hnl, hx, hb, hml, hown, hts, hK, hX, hbl, hLx, hAc, hr, hlk⟩ := h
  intro H locs ls hH hS hl
  rw [hV]
  subst hv
  have K := kk H locs ls hH hS hl
  rw [hV] at K
  refine lv_ldc hx hb hown (hts _ hw) hdg ?_
  exact K

theorem x_iadd (h : xC Γ G ca ac b Lx xs) {a b9 : Int} (hdg : decode cL_law pc = .ok (.iadd, 1)) (kk : X Γ G ca ac μ (pc + 1) L (.int (iZ (a + b9)) :: st)) : X Γ G ca ac μ pc L (.int (iZ b9) :: .int (iZ a) :: st) := by
  obtain ⟨p, l, e, s, m, below, meth, c, hV, hH0, hA0, hnl, hx, hb, hml, hown, hts, hK, hX, hbl, hLx, hAc, hr, hlk⟩ := h
  intro H locs ls hH hS hl
  rw [hV]
  have K := kk H locs ls hH hS hl
  rw [hV] at K
  refine lv_iadd hx hb hdg ?_
  rw [iZ_add]
  exact K

theorem x_isub (h : xC Γ G ca ac b Lx xs) {a b9 : Int} (hdg : decode cL_law pc = .ok (.isub, 1)) (kk : X Γ G ca ac μ (pc + 1) L (.int (iZ (a - b9)) :: st)) : X Γ G ca ac μ pc L (.int (iZ b9) :: .int (iZ a) :: st) := by
  obtain ⟨p, l, e, s, m, below, meth, c, hV, hH0, hA0, hnl, hx, hb, hml, hown, hts, hK, hX, hbl, hLx, hAc, hr, hlk⟩ := h
  intro H locs ls hH hS hl
  rw [hV]
  have K := kk H locs ls hH hS hl
  rw [hV] at K
  refine lv_isub hx hb hdg ?_
  rw [iZ_sub]
  exact K

theorem x_imul (h : xC Γ G ca ac b Lx xs) {a b9 : Int} (hdg : decode cL_law pc = .ok (.imul, 1)) (kk : X Γ G ca ac μ (pc + 1) L (.int (iZ (a * b9)) :: st)) : X Γ G ca ac μ pc L (.int (iZ b9) :: .int (iZ a) :: st) := by
  obtain ⟨p, l, e, s, m, below, meth, c, hV, hH0, hA0, hnl, hx, hb, hml, hown, hts, hK, hX, hbl, hLx, hAc, hr, hlk⟩ := h
  intro H locs ls hH hS hl
  rw [hV]
  have K := kk H locs ls hH hS hl
  rw [hV] at K
  refine lv_imul hx hb hdg ?_
  rw [iZ_mul]
  exact K

theorem x_idiv (h : xC Γ G ca ac b Lx xs) {a b9 : Int} (hdg : decode cL_law pc = .ok (.idiv, 1)) (ha : 0 ≤ a ∧ a ≤ 2147483647) (hb0 : 0 < b9 ∧ b9 ≤ 2147483647) (kk : X Γ G ca ac μ (pc + 1) L (.int (iZ (a / b9)) :: st)) : X Γ G ca ac μ pc L (.int (iZ b9) :: .int (iZ a) :: st) := by
  obtain ⟨p, l, e, s, m, below, meth, c, hV, hH0, hA0, hnl, hx, hb, hml, hown, hts, hK, hX, hbl, hLx, hAc, hr, hlk⟩ := h
  intro H locs ls hH hS hl
  rw [hV]
  have K := kk H locs ls hH hS hl
  rw [hV] at K
  refine lv_idiv hx hb hdg (fun q => ?_) ?_
  · have := (iZ_eq (a := b9) (b := 0) ⟨by omega, hb0.2⟩ ⟨by omega, by omega⟩).mp q
    omega
  · rw [iZ_div ha hb0]
    exact K

theorem x_irem (h : xC Γ G ca ac b Lx xs) {a b9 : Int} (hdg : decode cL_law pc = .ok (.irem, 1)) (ha : 0 ≤ a ∧ a ≤ 2147483647) (hb0 : 0 < b9 ∧ b9 ≤ 2147483647) (kk : X Γ G ca ac μ (pc + 1) L (.int (iZ (a % b9)) :: st)) : X Γ G ca ac μ pc L (.int (iZ b9) :: .int (iZ a) :: st) := by
  obtain ⟨p, l, e, s, m, below, meth, c, hV, hH0, hA0, hnl, hx, hb, hml, hown, hts, hK, hX, hbl, hLx, hAc, hr, hlk⟩ := h
  intro H locs ls hH hS hl
  rw [hV]
  have K := kk H locs ls hH hS hl
  rw [hV] at K
  refine lv_irem hx hb hdg (fun q => ?_) ?_
  · have := (iZ_eq (a := b9) (b := 0) ⟨by omega, hb0.2⟩ ⟨by omega, by omega⟩).mp q
    omega
  · rw [iZ_div ha hb0, iZ_mul, iZ_sub, show a - a / b9 * b9 = a % b9 by rw [Int.emod_def, Int.mul_comm]]
    exact K

theorem x_goto (h : xC Γ G ca ac b Lx xs) {off : Int} (tgt : Nat) (hdg : decode cL_law pc = .ok (.goto off, 3)) (ht : (pc : Int) + off = (tgt : Int)) (kk : X Γ G ca ac μ tgt L st) : X Γ G ca ac μ pc L st := by
  obtain ⟨p, l, e, s, m, below, meth, c, hV, hH0, hA0, hnl, hx, hb, hml, hown, hts, hK, hX, hbl, hLx, hAc, hr, hlk⟩ := h
  intro H locs ls hH hS hl
  rw [hV]
  have K := kk H locs ls hH hS hl
  rw [hV] at K
  refine lv_goto hx hb hdg ht ?_
  exact K

theorem x_icmp_ge (h : xC Γ G ca ac b Lx xs) {a b9 off : Int} (tgt : Nat) (hdg : decode cL_law pc = .ok (.if_icmp .ge off, 3)) (ht : (pc : Int) + off = (tgt : Int)) (ha : -2147483648 ≤ a ∧ a ≤ 2147483647) (hb1 : -2147483648 ≤ b9 ∧ b9 ≤ 2147483647) (kt : b9 ≤ a → X Γ G ca ac μ tgt L st) (kf : ¬ (b9 ≤ a) → X Γ G ca ac μ (pc + 3) L st) : X Γ G ca ac μ pc L (.int (iZ b9) :: .int (iZ a) :: st) := by
  obtain ⟨p, l, e, s, m, below, meth, c, hV, hH0, hA0, hnl, hx, hb, hml, hown, hts, hK, hX, hbl, hLx, hAc, hr, hlk⟩ := h
  intro H locs ls hH hS hl
  rw [hV]
  have KT := fun q => kt q H locs ls hH hS hl
  have KF := fun q => kf q H locs ls hH hS hl
  rw [hV] at KT KF
  exact lv_icmp_ge hx hb hdg ht (fun q => KT ((iZ_le hb1 ha).mp q)) (fun q => KF (fun z => q ((iZ_le hb1 ha).mpr z)))

theorem x_icmp_gt (h : xC Γ G ca ac b Lx xs) {a b9 off : Int} (tgt : Nat) (hdg : decode cL_law pc = .ok (.if_icmp .gt off, 3)) (ht : (pc : Int) + off = (tgt : Int)) (ha : -2147483648 ≤ a ∧ a ≤ 2147483647) (hb1 : -2147483648 ≤ b9 ∧ b9 ≤ 2147483647) (kt : b9 < a → X Γ G ca ac μ tgt L st) (kf : ¬ (b9 < a) → X Γ G ca ac μ (pc + 3) L st) : X Γ G ca ac μ pc L (.int (iZ b9) :: .int (iZ a) :: st) := by
  obtain ⟨p, l, e, s, m, below, meth, c, hV, hH0, hA0, hnl, hx, hb, hml, hown, hts, hK, hX, hbl, hLx, hAc, hr, hlk⟩ := h
  intro H locs ls hH hS hl
  rw [hV]
  have KT := fun q => kt q H locs ls hH hS hl
  have KF := fun q => kf q H locs ls hH hS hl
  rw [hV] at KT KF
  exact lv_icmp_gt hx hb hdg ht (fun q => KT ((iZ_lt hb1 ha).mp q)) (fun q => KF (fun z => q ((iZ_lt hb1 ha).mpr z)))

theorem x_icmp_lt (h : xC Γ G ca ac b Lx xs) {a b9 off : Int} (tgt : Nat) (hdg : decode cL_law pc = .ok (.if_icmp .lt off, 3)) (ht : (pc : Int) + off = (tgt : Int)) (ha : -2147483648 ≤ a ∧ a ≤ 2147483647) (hb1 : -2147483648 ≤ b9 ∧ b9 ≤ 2147483647) (kt : a < b9 → X Γ G ca ac μ tgt L st) (kf : ¬ (a < b9) → X Γ G ca ac μ (pc + 3) L st) : X Γ G ca ac μ pc L (.int (iZ b9) :: .int (iZ a) :: st) := by
  obtain ⟨p, l, e, s, m, below, meth, c, hV, hH0, hA0, hnl, hx, hb, hml, hown, hts, hK, hX, hbl, hLx, hAc, hr, hlk⟩ := h
  intro H locs ls hH hS hl
  rw [hV]
  have KT := fun q => kt q H locs ls hH hS hl
  have KF := fun q => kf q H locs ls hH hS hl
  rw [hV] at KT KF
  exact lv_icmp_lt hx hb hdg ht (fun q => KT ((iZ_lt ha hb1).mp q)) (fun q => KF (fun z => q ((iZ_lt ha hb1).mpr z)))

theorem x_icmp_le (h : xC Γ G ca ac b Lx xs) {a b9 off : Int} (tgt : Nat) (hdg : decode cL_law pc = .ok (.if_icmp .le off, 3)) (ht : (pc : Int) + off = (tgt : Int)) (ha : -2147483648 ≤ a ∧ a ≤ 2147483647) (hb1 : -2147483648 ≤ b9 ∧ b9 ≤ 2147483647) (kt : a ≤ b9 → X Γ G ca ac μ tgt L st) (kf : ¬ (a ≤ b9) → X Γ G ca ac μ (pc + 3) L st) : X Γ G ca ac μ pc L (.int (iZ b9) :: .int (iZ a) :: st) := by
  obtain ⟨p, l, e, s, m, below, meth, c, hV, hH0, hA0, hnl, hx, hb, hml, hown, hts, hK, hX, hbl, hLx, hAc, hr, hlk⟩ := h
  intro H locs ls hH hS hl
  rw [hV]
  have KT := fun q => kt q H locs ls hH hS hl
  have KF := fun q => kf q H locs ls hH hS hl
  rw [hV] at KT KF
  exact lv_icmp_le hx hb hdg ht (fun q => KT ((iZ_le ha hb1).mp q)) (fun q => KF (fun z => q ((iZ_le ha hb1).mpr z)))

theorem x_icmp_eq (h : xC Γ G ca ac b Lx xs) {a b9 off : Int} (tgt : Nat) (hdg : decode cL_law pc = .ok (.if_icmp .eq off, 3)) (ht : (pc : Int) + off = (tgt : Int)) (ha : -2147483648 ≤ a ∧ a ≤ 2147483647) (hb1 : -2147483648 ≤ b9 ∧ b9 ≤ 2147483647) (kt : a = b9 → X Γ G ca ac μ tgt L st) (kf : ¬ (a = b9) → X Γ G ca ac μ (pc + 3) L st) : X Γ G ca ac μ pc L (.int (iZ b9) :: .int (iZ a) :: st) := by
  obtain ⟨p, l, e, s, m, below, meth, c, hV, hH0, hA0, hnl, hx, hb, hml, hown, hts, hK, hX, hbl, hLx, hAc, hr, hlk⟩ := h
  intro H locs ls hH hS hl
  rw [hV]
  have KT := fun q => kt q H locs ls hH hS hl
  have KF := fun q => kf q H locs ls hH hS hl
  rw [hV] at KT KF
  exact lv_icmp_eq hx hb hdg ht (fun q => KT ((iZ_eq ha hb1).mp q)) (fun q => KF (fun z => q ((iZ_eq ha hb1).mpr z)))

theorem x_icmp_ne (h : xC Γ G ca ac b Lx xs) {a b9 off : Int} (tgt : Nat) (hdg : decode cL_law pc = .ok (.if_icmp .ne off, 3)) (ht : (pc : Int) + off = (tgt : Int)) (ha : -2147483648 ≤ a ∧ a ≤ 2147483647) (hb1 : -2147483648 ≤ b9 ∧ b9 ≤ 2147483647) (kt : a ≠ b9 → X Γ G ca ac μ tgt L st) (kf : a = b9 → X Γ G ca ac μ (pc + 3) L st) : X Γ G ca ac μ pc L (.int (iZ b9) :: .int (iZ a) :: st) := by
  obtain ⟨p, l, e, s, m, below, meth, c, hV, hH0, hA0, hnl, hx, hb, hml, hown, hts, hK, hX, hbl, hLx, hAc, hr, hlk⟩ := h
  intro H locs ls hH hS hl
  rw [hV]
  have KT := fun q => kt q H locs ls hH hS hl
  have KF := fun q => kf q H locs ls hH hS hl
  rw [hV] at KT KF
  exact lv_icmp_ne hx hb hdg ht (fun q => KT ((not_congr (iZ_eq ha hb1)).mp q)) (fun q => KF ((iZ_eq ha hb1).mp q))

theorem x_if_eq (h : xC Γ G ca ac b Lx xs) {a off : Int} (tgt : Nat) (hdg : decode cL_law pc = .ok (.ifCond .eq off, 3)) (ht : (pc : Int) + off = (tgt : Int)) (ha : -2147483648 ≤ a ∧ a ≤ 2147483647) (kt : a = 0 → X Γ G ca ac μ tgt L st) (kf : ¬ (a = 0) → X Γ G ca ac μ (pc + 3) L st) : X Γ G ca ac μ pc L (.int (iZ a) :: st) := by
  have zb0 : (-2147483648 : Int) ≤ 0 ∧ (0 : Int) ≤ 2147483647 := by omega
  obtain ⟨p, l, e, s, m, below, meth, c, hV, hH0, hA0, hnl, hx, hb, hml, hown, hts, hK, hX, hbl, hLx, hAc, hr, hlk⟩ := h
  intro H locs ls hH hS hl
  rw [hV]
  have KT := fun q => kt q H locs ls hH hS hl
  have KF := fun q => kf q H locs ls hH hS hl
  rw [hV] at KT KF
  exact lv_if_eq hx hb hdg ht (fun q => KT ((iZ_eq ha zb0).mp q)) (fun q => KF (fun z => q ((iZ_eq ha zb0).mpr z)))

theorem x_if_ne (h : xC Γ G ca ac b Lx xs) {a off : Int} (tgt : Nat) (hdg : decode cL_law pc = .ok (.ifCond .ne off, 3)) (ht : (pc : Int) + off = (tgt : Int)) (ha : -2147483648 ≤ a ∧ a ≤ 2147483647) (kt : a ≠ 0 → X Γ G ca ac μ tgt L st) (kf : a = 0 → X Γ G ca ac μ (pc + 3) L st) : X Γ G ca ac μ pc L (.int (iZ a) :: st) := by
  have zb0 : (-2147483648 : Int) ≤ 0 ∧ (0 : Int) ≤ 2147483647 := by omega
  obtain ⟨p, l, e, s, m, below, meth, c, hV, hH0, hA0, hnl, hx, hb, hml, hown, hts, hK, hX, hbl, hLx, hAc, hr, hlk⟩ := h
  intro H locs ls hH hS hl
  rw [hV]
  have KT := fun q => kt q H locs ls hH hS hl
  have KF := fun q => kf q H locs ls hH hS hl
  rw [hV] at KT KF
  exact lv_if_ne hx hb hdg ht (fun q => KT ((not_congr (iZ_eq ha zb0)).mp q)) (fun q => KF ((iZ_eq ha zb0).mp q))

theorem x_if_lt (h : xC Γ G ca ac b Lx xs) {a off : Int} (tgt : Nat) (hdg : decode cL_law pc = .ok (.ifCond .lt off, 3)) (ht : (pc : Int) + off = (tgt : Int)) (ha : -2147483648 ≤ a ∧ a ≤ 2147483647) (kt : a < 0 → X Γ G ca ac μ tgt L st) (kf : ¬ (a < 0) → X Γ G ca ac μ (pc + 3) L st) : X Γ G ca ac μ pc L (.int (iZ a) :: st) := by
  have zb0 : (-2147483648 : Int) ≤ 0 ∧ (0 : Int) ≤ 2147483647 := by omega
  obtain ⟨p, l, e, s, m, below, meth, c, hV, hH0, hA0, hnl, hx, hb, hml, hown, hts, hK, hX, hbl, hLx, hAc, hr, hlk⟩ := h
  intro H locs ls hH hS hl
  rw [hV]
  have KT := fun q => kt q H locs ls hH hS hl
  have KF := fun q => kf q H locs ls hH hS hl
  rw [hV] at KT KF
  exact lv_if_lt hx hb hdg ht (fun q => KT ((iZ_lt ha zb0).mp q)) (fun q => KF (fun z => q ((iZ_lt ha zb0).mpr z)))

theorem x_if_ge (h : xC Γ G ca ac b Lx xs) {a off : Int} (tgt : Nat) (hdg : decode cL_law pc = .ok (.ifCond .ge off, 3)) (ht : (pc : Int) + off = (tgt : Int)) (ha : -2147483648 ≤ a ∧ a ≤ 2147483647) (kt : 0 ≤ a → X Γ G ca ac μ tgt L st) (kf : ¬ (0 ≤ a) → X Γ G ca ac μ (pc + 3) L st) : X Γ G ca ac μ pc L (.int (iZ a) :: st) := by
  have zb0 : (-2147483648 : Int) ≤ 0 ∧ (0 : Int) ≤ 2147483647 := by omega
  obtain ⟨p, l, e, s, m, below, meth, c, hV, hH0, hA0, hnl, hx, hb, hml, hown, hts, hK, hX, hbl, hLx, hAc, hr, hlk⟩ := h
  intro H locs ls hH hS hl
  rw [hV]
  have KT := fun q => kt q H locs ls hH hS hl
  have KF := fun q => kf q H locs ls hH hS hl
  rw [hV] at KT KF
  exact lv_if_ge hx hb hdg ht (fun q => KT ((iZ_le zb0 ha).mp q)) (fun q => KF (fun z => q ((iZ_le zb0 ha).mpr z)))

theorem x_if_gt (h : xC Γ G ca ac b Lx xs) {a off : Int} (tgt : Nat) (hdg : decode cL_law pc = .ok (.ifCond .gt off, 3)) (ht : (pc : Int) + off = (tgt : Int)) (ha : -2147483648 ≤ a ∧ a ≤ 2147483647) (kt : 0 < a → X Γ G ca ac μ tgt L st) (kf : ¬ (0 < a) → X Γ G ca ac μ (pc + 3) L st) : X Γ G ca ac μ pc L (.int (iZ a) :: st) := by
  have zb0 : (-2147483648 : Int) ≤ 0 ∧ (0 : Int) ≤ 2147483647 := by omega
  obtain ⟨p, l, e, s, m, below, meth, c, hV, hH0, hA0, hnl, hx, hb, hml, hown, hts, hK, hX, hbl, hLx, hAc, hr, hlk⟩ := h
  intro H locs ls hH hS hl
  rw [hV]
  have KT := fun q => kt q H locs ls hH hS hl
  have KF := fun q => kf q H locs ls hH hS hl
  rw [hV] at KT KF
  exact lv_if_gt hx hb hdg ht (fun q => KT ((iZ_lt zb0 ha).mp q)) (fun q => KF (fun z => q ((iZ_lt zb0 ha).mpr z)))

theorem x_if_le (h : xC Γ G ca ac b Lx xs) {a off : Int} (tgt : Nat) (hdg : decode cL_law pc = .ok (.ifCond .le off, 3)) (ht : (pc : Int) + off = (tgt : Int)) (ha : -2147483648 ≤ a ∧ a ≤ 2147483647) (kt : a ≤ 0 → X Γ G ca ac μ tgt L st) (kf : ¬ (a ≤ 0) → X Γ G ca ac μ (pc + 3) L st) : X Γ G ca ac μ pc L (.int (iZ a) :: st) := by
  have zb0 : (-2147483648 : Int) ≤ 0 ∧ (0 : Int) ≤ 2147483647 := by omega
  obtain ⟨p, l, e, s, m, below, meth, c, hV, hH0, hA0, hnl, hx, hb, hml, hown, hts, hK, hX, hbl, hLx, hAc, hr, hlk⟩ := h
  intro H locs ls hH hS hl
  rw [hV]
  have KT := fun q => kt q H locs ls hH hS hl
  have KF := fun q => kf q H locs ls hH hS hl
  rw [hV] at KT KF
  exact lv_if_le hx hb hdg ht (fun q => KT ((iZ_le ha zb0).mp q)) (fun q => KF (fun z => q ((iZ_le ha zb0).mpr z)))

theorem x_iinc (h : xC Γ G ca ac b Lx xs) {k : Nat} {n x : Int} (hdg : decode cL_law pc = .ok (.iinc k n, 3)) (hl0 : zlk L k = some (.int (iZ x))) (hn : k < 18) (hc : zcat L k = true) (kk : X Γ G ca ac μ (pc + 3) ((k, .int (iZ (x + n))) :: L) st) : X Γ G ca ac μ pc L st := by
  obtain ⟨p, l, e, s, m, below, meth, c, hV, hH0, hA0, hnl, hx, hb, hml, hown, hts, hK, hX, hbl, hLx, hAc, hr, hlk⟩ := h
  intro H locs ls hH hS hl
  rw [hV]
  obtain ⟨j, hj⟩ := List.getElem?_of_mem (zdd_mem (q := (k, .int (iZ x))) |>.mpr hl0)
  refine lv_iinc hx hb hdg hl.has hj (iZ_add x n) (by omega) rfl (fun ls9 h9 => ?_)
  have K := kk H locs ls9 hH hS (zL.st hc h9)
  rw [hV] at K
  exact K

theorem x_tableIn (h : xC Γ G ca ac b Lx xs) {dflt l0 h0 off : Int} {offs : Array Int} {len : Nat} {a : Int} (tgt : Nat) (hdg : decode cL_law pc = .ok (.tableswitch dflt l0 h0 offs, len)) (ha : -2147483648 ≤ a ∧ a ≤ 2147483647) (h1 : l0 ≤ a) (h2 : a ≤ h0) (ho : offs[(a - l0).toNat]? = some off) (ht : (pc : Int) + off = (tgt : Int)) (kk : X Γ G ca ac μ tgt L st) : X Γ G ca ac μ pc L (.int (iZ a) :: st) := by
  obtain ⟨p, l, e, s, m, below, meth, c, hV, hH0, hA0, hnl, hx, hb, hml, hown, hts, hK, hX, hbl, hLx, hAc, hr, hlk⟩ := h
  intro H locs ls hH hS hl
  rw [hV]
  have K := kk H locs ls hH hS hl
  rw [hV] at K
  exact lv_tableIn hx hb hdg (by rw [iZ_toInt ha]; omega) (by rw [iZ_toInt ha]; omega) (by rw [iZ_toInt ha]; exact ho) ht K

theorem x_tableOut (h : xC Γ G ca ac b Lx xs) {dflt l0 h0 : Int} {offs : Array Int} {len : Nat} {a : Int} (tgt : Nat) (hdg : decode cL_law pc = .ok (.tableswitch dflt l0 h0 offs, len)) (ha : -2147483648 ≤ a ∧ a ≤ 2147483647) (h1 : a < l0 ∨ h0 < a) (ht : (pc : Int) + dflt = (tgt : Int)) (kk : X Γ G ca ac μ tgt L st) : X Γ G ca ac μ pc L (.int (iZ a) :: st) := by
  obtain ⟨p, l, e, s, m, below, meth, c, hV, hH0, hA0, hnl, hx, hb, hml, hown, hts, hK, hX, hbl, hLx, hAc, hr, hlk⟩ := h
  intro H locs ls hH hS hl
  rw [hV]
  have K := kk H locs ls hH hS hl
  rw [hV] at K
  exact lv_tableOut hx hb hdg (by rw [iZ_toInt ha]; exact h1) ht K

theorem x_sameN (h : xC Γ G ca ac b Lx xs) {v1 v2 : Int32} {off : Int} (tgt : Nat) (hv : v1 = v2) (hdg : decode cL_law pc = .ok (.if_icmp .ne off, 3)) (ht : (pc : Int) + off = (tgt : Int)) (kk : X Γ G ca ac μ (pc + 3) L st) : X Γ G ca ac μ pc L (.int v2 :: .int v1 :: st) := by
  obtain ⟨p, l, e, s, m, below, meth, c, hV, hH0, hA0, hnl, hx, hb, hml, hown, hts, hK, hX, hbl, hLx, hAc, hr, hlk⟩ := h
  intro H locs ls hH hS hl
  have K := kk H locs ls hH hS hl
  rw [hV] at K ⊢
  exact lv_icmp_ne hx hb hdg ht (fun q => absurd hv q) (fun _ => K)

theorem x_weak {L' : List (Nat × Value)} (hs : zsub L' L) (kk : X Γ G ca ac μ pc L' st) : X Γ G ca ac μ pc L st := fun H locs ls hH hS hl => kk H locs ls hH hS ⟨hl.1, hl.2.1, fun k v hk => hl.2.2 k v (zsub_lk hs hk)⟩
theorem x_top {a b9 : Int} (e : a = b9) (kk : X Γ G ca ac μ pc L (.int (iZ b9) :: st)) : X Γ G ca ac μ pc L (.int (iZ a) :: st) := e ▸ kk
theorem x_topn {a : Int} (kk : ∀ z : Int, z = a → X Γ G ca ac μ pc L (.int (iZ z) :: st)) : X Γ G ca ac μ pc L (.int (iZ a) :: st) := kk a rfl
/-- the law's own end -/
theorem x_end (h : xC Γ G ca ac b Lx xs) (hdg : decode cL_law pc = .ok (.ireturn, 1)) : X Γ G ca ac μ pc L [.int (iZ 1)] := by
  obtain ⟨p, l, e, s, m, below, meth, c, hV, hH0, hA0, hnl, hx, hb, hml, hown, hts, hK, hX, hbl, hLx, hAc, hr, hlk⟩ := h
  intro H locs ls hH hS hl
  rw [hV]
  rw [hA0] at hS
  refine W.widen (k := 600000) (n := 7302250) (Nat.le_of_ble_eq_true rfl) (Nat.le_of_ble_eq_true rfl) ?_
  refine va_forget (fun q hq => hS.2.2 q hq) ?_
  exact W.base (lw_ret (Drawn.sameBut.refl s.drawn lw_cs) hx hb hr hlk hdg)
end XR
section XCALL
variable {p : Program} {l : Launch} {e : Env} {R : Room} {s : State} {m : MethodId} {args : Array Value} {below : List Frame} {meth : Method} {c : Code} {H : Heap} {locs : List Loc} {Q : State → Prop}
variable {pc : Nat} {ls : Array Slot} {rest st0 : List Value} {a : Array Value} {A A1 : Nat → Prop} {H0 : Heap} {ω : zO} {post : Option Value → zM → Prop} {nc ns : Nat}
theorem xc_go (hr : va_Run p l e R s m args below meth c H locs nc ns 0 0 (F0 m pc ls st0) rest (zQ ω A1 post a) A1) (hS : va_S A H0 H locs) (hA : ∀ q, A1 q → A q)
    (kk : ∀ (v : Option Value) (μ' : zM) (H1 : Heap) (locs1 : List Loc), post v μ' → zH ω A1 μ' H1 → (∀ q : Nat, q < H.size → ¬ A1 q → H1[q]? = H[q]?) → va_S A H0 H1 locs1 → W p l e R s m args below meth c H1 locs1 nc ns Q (F0 m (pc + 3) ls (v.toList ++ rest))) : W p l e R s m args below meth c H locs nc ns Q (F0 m pc ls st0) := by
  intro T hT X
  obtain ⟨v, st₀, t, T', L, h0, X', hL, e1, e2, ⟨⟨v', μ', hv, hp, hb⟩, hz, hk⟩, st⟩ := hr T hT X
  cases hv
  rw [h0] at hz hk
  obtain ⟨t2, a1, b1⟩ := kk v μ' T'.heap (locs ++ L) hp (by rw [e1]; exact hb) (fun q h1 h2 => by rw [e1]; exact hk q h1 h2)
    ⟨Nat.le_trans hS.1 (by rw [e1]; exact hz), fun q h1 h2 => by rw [e1, hk q (Nat.lt_of_lt_of_le h1 hS.1) (fun z => h2 (hA q z))]; exact hS.2.1 q h1 h2, fun q hq => by
      rcases List.mem_append.mp hq with h | h
      · exact hS.2.2 q h
      · exact hA _ (hL q h)⟩ T' rfl X'
  exact ⟨t2, st t2 a1, b1⟩
/-- what a help answers that reads the script alone -/
def sQ9 : Array Value → State → Outcome → State → Prop := fun _ st oc t => (∃ v : Int, oc = .returned (some (.int (iZ v))) ∧ (0 ≤ v ∧ v ≤ 2147483647)) ∧ va_F (fun _ => False) st t
theorem xs_go (hr : va_Run p l e R s m args below meth c H locs nc ns 0 0 (F0 m pc ls st0) rest (sQ9 a) (fun _ => False)) (hS : va_S A H0 H locs)
    (kk : ∀ (v : Int) (H1 : Heap) (locs1 : List Loc), (0 ≤ v ∧ v ≤ 2147483647) → (∀ q : Nat, q < H.size → H1[q]? = H[q]?) → va_S A H0 H1 locs1 → W p l e R s m args below meth c H1 locs1 nc ns Q (F0 m (pc + 3) ls (.int (iZ v) :: rest))) : W p l e R s m args below meth c H locs nc ns Q (F0 m pc ls st0) := by
  intro T hT X
  obtain ⟨v, st₀, t, T', L, h0, X', hL, e1, e2, ⟨⟨v', hv, hp⟩, hz, hk⟩, st⟩ := hr T hT X
  cases hv
  rw [h0] at hz hk
  obtain ⟨t2, a1, b1⟩ := kk v' T'.heap (locs ++ L) hp (fun q h1 => by rw [e1]; exact hk q h1 (fun z => z))
    ⟨Nat.le_trans hS.1 (by rw [e1]; exact hz), fun q h1 h2 => by rw [e1, hk q (Nat.lt_of_lt_of_le h1 hS.1) (fun z => z)]; exact hS.2.1 q h1 h2, fun q hq => by
      rcases List.mem_append.mp hq with h | h
      · exact hS.2.2 q h
      · exact absurd (hL q h) (fun z => z)⟩ T' rfl X'
  exact ⟨t2, st t2 a1, b1⟩
end XCALL
/-- the script's own help: some number that is not below 0 -/
abbrev sP9 (b Lx : Nat) (xs : Nat → Int32) : State → Prop := fun U => va_X b Lx xs U U.heap ∧ b < U.heap.size
/-- a world beside which another one has changed -/
theorem zH.beside {ω : zO} {A B : Nat → Prop} {μ : zM} {H H1 : Heap} (h : zH ω A μ H) (hd : ∀ q, A q → ¬ B q) (hk : ∀ q : Nat, q < H.size → ¬ B q → H1[q]? = H[q]?) : zH ω A μ H1 := ⟨h.1.kept (fun k q hq => hk q.1 (h.1 k q hq).lt (hd _ (h.2.2 k q hq))), h.2⟩
theorem sP9_blind {b Lx : Nat} {xs : Nat → Int32} {vs : List Value} : FrameBlind (va_Pc vs (sP9 b Lx xs)) := fun a U g mk q => ⟨q.1, q.2.1.moved (Vm.Alike.refl _), q.2.2⟩
set_option maxHeartbeats 4000000 in
theorem m_L_cell (l : Launch) (b Lx : Nat) (xs : Nat → Int32) (k : Int) (hk : 0 ≤ k ∧ k ≤ 4000) (hLx : Lx ≤ 260) : Met l yL_cell (.code yL_cell cL_cell 2 (some .int) :: AL) { frames := 0, cells := 0, slots := 0, locals := 0 } (va_Pc [.ref b, .int (iZ k)] (sP9 b Lx xs)) sQ9 0 0 (fun _ => False) := by
  refine Met.ofW (cc := cL_cell) (maxL := 2) (ret := some .int) (by decide) rfl ?_
  intro p e s m args below meth c s₁ B hml hv
  obtain ⟨rfl, hX, hbl⟩ := hv
  have hts := atoms_spec (ws := .code yL_cell cL_cell 2 (some .int) :: AL) B.pre
  have hl := lv_entry [.ref b, .int (iZ k)] (n := 2) (Nat.le_of_ble_eq_true rfl)
  rw [lg_entry_eq]
  generalize (lg_sl ([.ref b, .int (iZ k)]) ++ List.replicate (2 - (lg_sl ([.ref b, .int (iZ k)])).length) Slot.unset).toArray = ls at hl ⊢
  have hl : zL ls 2 [(0, .ref b), (1, .int (iZ k))] := zL.of hl
  have hx := B.exec
  have hb := B.bytes
  have hS : va_S (fun _ => False) s.heap s.heap [] := va_S.rf
  have hown : s.vm.findClass RL = some m.cls := findClass_of_methodNamed B.named
  have fin : ∀ (R : Room) (v : Int32), W p l e R s m #[.ref b, .int (iZ k)] below meth c s.heap [] 0 0 (MQ below sQ9 #[.ref b, .int (iZ k)] s 0 0 (fun _ => False)) (F0 m 24 ls [.int v]) := by
    intro R v
    refine lv_ldc hx hb hown (hts _ (List.mem_cons_of_mem _ qc_L_7)) dL_cell_24 ?_
    refine lv_iand hx hb dL_cell_26 ?_
    obtain ⟨z, hz, ez⟩ := iZ_mask v
    rw [ez]
    exact W.iret hx hb B.returns (fun t ht hW => ⟨⟨z, rfl, hz⟩, hS.F ht⟩) hS.2.2 dL_cell_27 B.notSynchronized
  refine lv_iload_n hx hb dL_cell_0 rfl (hl.2.2 1 _ rfl) ?_
  refine lv_aload_n hx hb dL_cell_1 rfl (hl.2.2 0 _ rfl) ?_
  refine va_slen hx hb hX hbl (fun z => z) hS dL_cell_2 ?_
  rw [iZ_ofNat (by omega)]
  refine lv_icmp_ge hx hb (tgt := 12) dL_cell_3 (by decide) (fun q => ?_) (fun q => ?_)
  · refine lv_sipush (v := iZ 30403) hx hb dL_cell_12 (by decide) ?_
    refine lv_iload_n hx hb dL_cell_15 rfl (hl.2.2 1 _ rfl) ?_
    refine lv_sipush (v := iZ 4096) hx hb dL_cell_16 (by decide) ?_
    refine lv_irem hx hb dL_cell_19 (by decide) ?_
    refine lv_imul hx hb dL_cell_20 ?_
    refine lv_bipush (v := iZ 127) hx hb dL_cell_21 (by decide) ?_
    refine lv_iadd hx hb dL_cell_23 ?_
    exact fin _ _
  · have hkL : k < (Lx : Int) := by
      have q2 : ¬ ((Lx : Int) ≤ k) := fun z => q ((iZ_le (by omega) (by omega)).mpr z)
      omega
    refine lv_aload_n hx hb dL_cell_6 rfl (hl.2.2 0 _ rfl) ?_
    refine lv_iload_n hx hb dL_cell_7 rfl (hl.2.2 1 _ rfl) ?_
    refine va_sld hx hb hX hbl (fun z => z) hS (iZ_in hk.1 hkL (by omega)) dL_cell_8 ?_
    refine lv_goto hx hb (tgt := 24) dL_cell_9 (by decide) ?_
    exact fin _ _
section XCR
variable {Γ : zG} {G : va_G} {ca : Nat → ClassId} {ac : Int → Nat} {b Lx : Nat} {xs : Nat → Int32} {μ : zM} {pc : Nat} {L : List (Nat × Value)} {rest : List Value}
variable {y : MethodName} {bytes : ByteArray} {maxL fr1 lo1 index : Nat} {rt : Option FieldType} {post1 : Option Value → zM → Prop}
/-- a call of the class's method -/
theorem x_callV (h : xC Γ G ca ac b Lx xs) (As : List Value) (nA : Nat) (hnA : As.length = nA) (hdg : decode cL_law pc = .ok (.invokevirtual index, 3)) (hM : ∀ l, zMet l (cω G ca ac) (cA ac 163) y bytes maxL rt fr1 lo1 (.ref (ac 156) :: As) μ post1)
    (h1 : Cond.methodLink RL index y ∈ AL) (h2 : Cond.instanceMethod y ∈ AL) (h3 : Cond.selects y.cls y y ∈ AL) (h4 : Cond.initialized y.cls ∈ AL) (h5 : Cond.code y bytes maxL rt ∈ AL) (hd : y.cls = y.cls ∧ y.cls ≠ "java/lang/invoke/MethodHandle" ∧ y.cls ≠ "java/lang/invoke/VarHandle" ∧ (parseMethodDescriptor y.desc).map (fun d => d.parameters.length) = some nA) (hfr1 : fr1 + 1 ≤ 9) (hlo1 : 8 + (maxL + 11) + lo1 ≤ 354)
    (hc : zcl[7]? = some (y.cls, TX7, 5)) (hcat : (rest.map fun v => v.category).sum ≤ 8)
    (kk : ∀ (v : Option Value) (μ' : zM), post1 v μ' → X Γ G ca ac μ' (pc + 3) L (v.toList ++ rest)) {st : List Value} (hst : st = As.reverse ++ .ref (ac 156) :: rest) : X Γ G ca ac μ pc L st := by
  obtain ⟨p, l, e, s, m, below, meth, c, hV, hH0, hA0, hnl, hx, hb, hml, hown, hts, hK, hX, hbl, hLx, hAc, hr, hlk⟩ := h
  intro H locs ls hH hS hl
  have K := fun v μ' H locs q hH hS => kk v μ' q H locs ls hH hS hl
  rw [hV] at K ⊢
  have he : ∀ r, (cω G ca ac).2.2.2.2 156 r = .inr (7, [.ref (ac 0), .ref (ac 26), .ref (ac 157), .ref (ac 159), .ref (ac 162)]) := fun r => cd_main (ca := ca) (ad := ac) r
  refine xc_go (va_runV (As := As) (rest := rest) ⟨hx, hb, hml, hown, hts⟩ (hM l) (cwV nA hts (al_gv h1 h2 h3 h4 h5) rfl rfl rfl hd ⟨hfr1, hlo1⟩) ⟨zP_blind, va_recv hK.1 hH.1 hc (by rw [zws_at (ω := cω G ca ac) (c := 156) cl_main.1 cl_main.2, he]), fun U hU hW => ⟨rfl, ⟨(hK.warm hW).1, (hK.warm hW).2.1⟩, by rw [hU]; exact hH⟩⟩ rfl hnA (by show ls.size = _; rw [hl.1, hnl]) hst (lv_room hcat) hdg ⟨Nat.le_of_ble_eq_true rfl, Nat.le_of_ble_eq_true rfl⟩) hS (fun q h => by rw [hA0]; exact hAc q h) (fun v μ' H1 locs1 q1 q2 q3 q4 => ?_)
  exact K v μ' H1 locs1 q1 q2 q4
/-- a call of the law's own help -/
theorem x_callS (h : xC Γ G ca ac b Lx xs) (As : List Value) (nA : Nat) (hnA : As.length = nA) (hdg : decode cL_law pc = .ok (.invokestatic index, 3)) (hM : ∀ l, zMet l (cω G ca ac) (cA ac 163) y bytes maxL rt fr1 lo1 As μ post1)
    (h1 : Cond.methodLink RL index y ∈ AL) (h2 : Cond.static y ∈ AL) (h4 : Cond.initialized y.cls ∈ AL) (h5 : Cond.code y bytes maxL rt ∈ AL) (hd : y.cls ≠ "java/lang/invoke/MethodHandle" ∧ y.cls ≠ "java/lang/invoke/VarHandle" ∧ (parseMethodDescriptor y.desc).map (fun d => d.parameters.length) = some nA) (hfr1 : fr1 + 1 ≤ 9) (hlo1 : 8 + (maxL + 11) + lo1 ≤ 354)
    (hcat : (rest.map fun v => v.category).sum ≤ 8)
    (kk : ∀ (v : Option Value) (μ' : zM), post1 v μ' → X Γ G ca ac μ' (pc + 3) L (v.toList ++ rest)) {st : List Value} (hst : st = As.reverse ++ rest) : X Γ G ca ac μ pc L st := by
  obtain ⟨p, l, e, s, m, below, meth, c, hV, hH0, hA0, hnl, hx, hb, hml, hown, hts, hK, hX, hbl, hLx, hAc, hr, hlk⟩ := h
  intro H locs ls hH hS hl
  have K := fun v μ' H locs q hH hS => kk v μ' q H locs ls hH hS hl
  rw [hV] at K ⊢
  refine xc_go (va_runS (As := As) (rest := rest) ⟨hx, hb, hml, hown, hts⟩ (hM l) (va_cwS nA hts (al_gs h1 h2 h4 h5) rfl rfl rfl hd ⟨hfr1, hlo1⟩) ⟨zP_blind, fun U hU hW => ⟨rfl, ⟨(hK.warm hW).1, (hK.warm hW).2.1⟩, by rw [hU]; exact hH⟩⟩ rfl hnA (by show ls.size = _; rw [hl.1, hnl]) hst (lv_room hcat) hdg ⟨Nat.le_of_ble_eq_true rfl, Nat.le_of_ble_eq_true rfl⟩) hS (fun q h => by rw [hA0]; exact hAc q h) (fun v μ' H1 locs1 q1 q2 q3 q4 => ?_)
  exact K v μ' H1 locs1 q1 q2 q4
/-- a number of the script, or one in its place -/
theorem x_cell (h : xC Γ G ca ac b Lx xs) {k : Int} (hk : 0 ≤ k ∧ k ≤ 4000) (hdg : decode cL_law pc = .ok (.invokestatic 44, 3)) (hcat : (rest.map fun v => v.category).sum ≤ 8)
    (kk : ∀ v : Int, 0 ≤ v ∧ v ≤ 2147483647 → X Γ G ca ac μ (pc + 3) L (.int (iZ v) :: rest)) : X Γ G ca ac μ pc L (.int (iZ k) :: .ref b :: rest) := by
  obtain ⟨p, l, e, s, m, below, meth, c, hV, hH0, hA0, hnl, hx, hb, hml, hown, hts, hK, hX, hbl, hLx, hAc, hr, hlk⟩ := h
  intro H locs ls hH hS hl
  have K := fun v q H locs hH hS => kk v q H locs ls hH hS hl
  rw [hV] at K ⊢
  rw [hA0, hH0] at hS
  have hXH : va_X b Lx xs s H := hX.kept (hS.2.1 b hbl (Nat.not_le.mpr hbl))
  have hbH : b < H.size := Nat.lt_of_lt_of_le hbl hS.1
  refine xs_go (va_runS (As := [.ref b, .int (iZ k)]) (rest := rest) ⟨hx, hb, hml, hown, hts⟩ (m_L_cell l b Lx xs k hk hLx) (va_cwS 2 hts (al_gs qM_L_44 qT_L_cell qi_L qC_L_cell) rfl rfl rfl (by decide +kernel) ⟨Nat.le_of_ble_eq_true rfl, Nat.le_of_ble_eq_true rfl⟩) ⟨sP9_blind, fun U hU hW => ⟨rfl, by rw [hU]; exact hXH.moved hW.alike, by rw [hU]; exact hbH⟩⟩ rfl rfl (by show ls.size = _; rw [hl.1, hnl]) rfl (lv_room hcat) hdg ⟨Nat.le_of_ble_eq_true rfl, Nat.le_of_ble_eq_true rfl⟩) hS (fun v H1 locs1 q1 q2 q3 => ?_)
  refine K v q1 H1 locs1 (hH.beside (B := fun _ => False) (fun q _ z => z) (fun q h1 _ => q2 q h1)) ?_
  rw [hA0, hH0]
  exact q3
theorem xk {r : Value} {Q : zM → Prop} (kk : ∀ μ', Q μ' → X Γ G ca ac μ' pc L (r :: rest)) : ∀ (v : Option Value) (μ' : zM), zpI r Q v μ' → X Γ G ca ac μ' pc L (v.toList ++ rest) := by
  intro v μ' h
  rw [h.1]
  exact kk μ' h.2
end XCR
