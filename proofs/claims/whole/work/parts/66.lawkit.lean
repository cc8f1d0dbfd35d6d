/-! THE LAW: both sides' cells in one heap -/
def X (Γ : zG) (G : va_G) (ca : Nat → ClassId) (ac ar : Int → Nat) (μ ν : zM) (pc : Nat) (L : List (Nat × Value)) (st : List Value) : Prop :=
  ∀ (H : Heap) (locs : List Loc) (ls : Array Slot), zH (cω G ca ac) (cA ac 163) μ H → zH (rω G ca ar) (cA ar 4) ν H → va_S Γ.2.2.1 Γ.2.1 H locs → zL ls Γ.2.2.2 L → Γ.1 H locs pc ls st
def xC (Γ : zG) (G : va_G) (ca : Nat → ClassId) (ac ar : Int → Nat) (b Lx : Nat) (xs : Nat → Int32) : Prop :=
  ∃ (p : Program) (l : Launch) (e : Env) (s : State) (m : MethodId) (below : List Frame) (meth : Method) (c : Code),
    (Γ.1 = fun H locs pc ls st => W p l e room_1 s m #[Value.ref b] below meth c H locs 167 2824 (lw_Z below #[Value.ref b] s) (F0 m pc ls st)) ∧ Γ.2.1 = s.heap ∧ (Γ.2.2.1 = fun q : Nat => s.heap.size ≤ q) ∧ Γ.2.2.2 = 4 ∧ p.tables.exec = Jvm.exec ∧ c.code = cL_law ∧ c.maxLocals = 4 ∧ s.vm.findClass RL = some m.cls ∧ (∀ w ∈ AL, w.before #[Value.ref b] s = true) ∧ yK G ca s ∧ va_X b Lx xs s s.heap ∧ b < s.heap.size ∧ Lx ≤ 3584 ∧ (∀ q : Nat, cA ac 163 q → s.heap.size ≤ q) ∧ (∀ q : Nat, cA ar 4 q → s.heap.size ≤ q) ∧ (∀ q : Nat, cA ac 163 q → ¬ cA ar 4 q) ∧ meth.sig.returnType = ret ∧ meth.locks = false
/-- an int of the script -/
def sx (xs : Nat → Int32) (i : Int) : Int := (xs i.toNat).toInt
theorem sx_r (xs : Nat → Int32) (i : Int) : -2147483648 ≤ sx xs i ∧ sx xs i ≤ 2147483647 := by
  obtain ⟨z, hz, e⟩ := iZ_of (xs i.toNat)
  unfold sx
  rw [e, iZ_toInt hz]
  exact hz
theorem sx_e (xs : Nat → Int32) (i : Int) : xs i.toNat = iZ (sx xs i) := (Int32.ofInt_toInt _).symm
theorem iZ_ofNat {n : Nat} (h : n < 4294967296) : Int32.ofNat n = iZ (n : Int) := by
  refine i32_nat ?_
  rw [iZn h]
  show (BitVec.ofNat 32 n).toNat = n
  rw [BitVec.toNat_ofNat]
  omega
section XR
variable {Γ : zG} {G : va_G} {ca : Nat → ClassId} {ac ar : Int → Nat} {b Lx : Nat} {xs : Nat → Int32} {μ ν : zM} {pc : Nat} {L : List (Nat × Value)} {st : List Value}

theorem x_aload_n (h : xC Γ G ca ac ar b Lx xs) {k : Fin 4} {x : Nat} (hdg : decode cL_law pc = .ok (.aload_n k, 1)) (hl0 : zlk L k = some (.ref x)) (kk : X Γ G ca ac ar μ ν (pc + 1) L (.ref x :: st)) : X Γ G ca ac ar μ ν pc L st := by
  obtain ⟨p, l, e, s, m, below, meth, c, hV, hH0, hA0, hnl, hx, hb, hml, hown, hts, hK, hX, hbl, hLx, hAc, hAr, hdj, hr, hlk⟩ := h
  intro H locs ls hH hJ hS hl
  rw [hV]
  have K := kk H locs ls hH hJ hS hl
  rw [hV] at K
  refine lv_aload_n hx hb hdg rfl (hl.2.2 _ _ hl0) ?_
  exact K

theorem x_iload_n (h : xC Γ G ca ac ar b Lx xs) {k : Fin 4} {x : Int32} (hdg : decode cL_law pc = .ok (.iload_n k, 1)) (hl0 : zlk L k = some (.int x)) (kk : X Γ G ca ac ar μ ν (pc + 1) L (.int x :: st)) : X Γ G ca ac ar μ ν pc L st := by
  obtain ⟨p, l, e, s, m, below, meth, c, hV, hH0, hA0, hnl, hx, hb, hml, hown, hts, hK, hX, hbl, hLx, hAc, hAr, hdj, hr, hlk⟩ := h
  intro H locs ls hH hJ hS hl
  rw [hV]
  have K := kk H locs ls hH hJ hS hl
  rw [hV] at K
  refine lv_iload_n hx hb hdg rfl (hl.2.2 _ _ hl0) ?_
  exact K

theorem x_istore_n (h : xC Γ G ca ac ar b Lx xs) {k : Fin 4} {x : Int32} (hdg : decode cL_law pc = .ok (.istore_n k, 1)) (hn : (k : Nat) < 4) (hc : zcat L (k : Nat) = true) (kk : X Γ G ca ac ar μ ν (pc + 1) (((k : Nat), .int x) :: L) st) : X Γ G ca ac ar μ ν pc L (.int x :: st) := by
  obtain ⟨p, l, e, s, m, below, meth, c, hV, hH0, hA0, hnl, hx, hb, hml, hown, hts, hK, hX, hbl, hLx, hAc, hAr, hdj, hr, hlk⟩ := h
  intro H locs ls hH hJ hS hl
  rw [hV]
  refine lv_istore_n hx hb hdg rfl hl.has (by omega) rfl (fun ls9 h9 => ?_)
  have K := kk H locs ls9 hH hJ hS (zL.st hc h9)
  rw [hV] at K
  exact K

theorem x_astore_n (h : xC Γ G ca ac ar b Lx xs) {k : Fin 4} {x : Nat} (hdg : decode cL_law pc = .ok (.astore_n k, 1)) (hn : (k : Nat) < 4) (hc : zcat L (k : Nat) = true) (kk : X Γ G ca ac ar μ ν (pc + 1) (((k : Nat), .ref x) :: L) st) : X Γ G ca ac ar μ ν pc L (.ref x :: st) := by
  obtain ⟨p, l, e, s, m, below, meth, c, hV, hH0, hA0, hnl, hx, hb, hml, hown, hts, hK, hX, hbl, hLx, hAc, hAr, hdj, hr, hlk⟩ := h
  intro H locs ls hH hJ hS hl
  rw [hV]
  refine lv_astore_n hx hb hdg rfl hl.has (by omega) rfl (fun ls9 h9 => ?_)
  have K := kk H locs ls9 hH hJ hS (zL.st hc h9)
  rw [hV] at K
  exact K

theorem x_iconst (h : xC Γ G ca ac ar b Lx xs) {n : Int} (hdg : decode cL_law pc = .ok (.iconst n, 1)) (kk : X Γ G ca ac ar μ ν (pc + 1) L (.int (iZ n) :: st)) : X Γ G ca ac ar μ ν pc L st := by
  obtain ⟨p, l, e, s, m, below, meth, c, hV, hH0, hA0, hnl, hx, hb, hml, hown, hts, hK, hX, hbl, hLx, hAc, hAr, hdj, hr, hlk⟩ := h
  intro H locs ls hH hJ hS hl
  rw [hV]
  have K := kk H locs ls hH hJ hS hl
  rw [hV] at K
  refine lv_iconst hx hb hdg rfl ?_
  exact K

theorem x_bipush (h : xC Γ G ca ac ar b Lx xs) {n : Int} (hdg : decode cL_law pc = .ok (.bipush n, 2)) (hv : (Int8.ofInt n).toInt32 = iZ n) (kk : X Γ G ca ac ar μ ν (pc + 2) L (.int (iZ n) :: st)) : X Γ G ca ac ar μ ν pc L st := by
  obtain ⟨p, l, e, s, m, below, meth, c, hV, hH0, hA0, hnl, hx, hb, hml, hown, hts, hK, hX, hbl, hLx, hAc, hAr, hdj, hr, hlk⟩ := h
  intro H locs ls hH hJ hS hl
  rw [hV]
  have K := kk H locs ls hH hJ hS hl
  rw [hV] at K
  refine lv_bipush hx hb hdg hv ?_
  exact K

theorem x_iadd (h : xC Γ G ca ac ar b Lx xs) {a b9 : Int} (hdg : decode cL_law pc = .ok (.iadd, 1)) (kk : X Γ G ca ac ar μ ν (pc + 1) L (.int (iZ (a + b9)) :: st)) : X Γ G ca ac ar μ ν pc L (.int (iZ b9) :: .int (iZ a) :: st) := by
  obtain ⟨p, l, e, s, m, below, meth, c, hV, hH0, hA0, hnl, hx, hb, hml, hown, hts, hK, hX, hbl, hLx, hAc, hAr, hdj, hr, hlk⟩ := h
  intro H locs ls hH hJ hS hl
  rw [hV]
  have K := kk H locs ls hH hJ hS hl
  rw [hV] at K
  refine lv_iadd hx hb hdg ?_
  rw [iZ_add]
  exact K

theorem x_isub (h : xC Γ G ca ac ar b Lx xs) {a b9 : Int} (hdg : decode cL_law pc = .ok (.isub, 1)) (kk : X Γ G ca ac ar μ ν (pc + 1) L (.int (iZ (a - b9)) :: st)) : X Γ G ca ac ar μ ν pc L (.int (iZ b9) :: .int (iZ a) :: st) := by
  obtain ⟨p, l, e, s, m, below, meth, c, hV, hH0, hA0, hnl, hx, hb, hml, hown, hts, hK, hX, hbl, hLx, hAc, hAr, hdj, hr, hlk⟩ := h
  intro H locs ls hH hJ hS hl
  rw [hV]
  have K := kk H locs ls hH hJ hS hl
  rw [hV] at K
  refine lv_isub hx hb hdg ?_
  rw [iZ_sub]
  exact K

theorem x_iand (h : xC Γ G ca ac ar b Lx xs) {a b9 : Int32} (hdg : decode cL_law pc = .ok (.iand, 1)) (kk : X Γ G ca ac ar μ ν (pc + 1) L (.int (a &&& b9) :: st)) : X Γ G ca ac ar μ ν pc L (.int b9 :: .int a :: st) := by
  obtain ⟨p, l, e, s, m, below, meth, c, hV, hH0, hA0, hnl, hx, hb, hml, hown, hts, hK, hX, hbl, hLx, hAc, hAr, hdj, hr, hlk⟩ := h
  intro H locs ls hH hJ hS hl
  rw [hV]
  have K := kk H locs ls hH hJ hS hl
  rw [hV] at K
  refine lv_iand hx hb hdg ?_
  exact K

theorem x_goto (h : xC Γ G ca ac ar b Lx xs) {off : Int} (tgt : Nat) (hdg : decode cL_law pc = .ok (.goto off, 3)) (ht : (pc : Int) + off = (tgt : Int)) (kk : X Γ G ca ac ar μ ν tgt L st) : X Γ G ca ac ar μ ν pc L st := by
  obtain ⟨p, l, e, s, m, below, meth, c, hV, hH0, hA0, hnl, hx, hb, hml, hown, hts, hK, hX, hbl, hLx, hAc, hAr, hdj, hr, hlk⟩ := h
  intro H locs ls hH hJ hS hl
  rw [hV]
  have K := kk H locs ls hH hJ hS hl
  rw [hV] at K
  refine lv_goto hx hb hdg ht ?_
  exact K

theorem x_icmp_gt (h : xC Γ G ca ac ar b Lx xs) {a b9 off : Int} (tgt : Nat) (hdg : decode cL_law pc = .ok (.if_icmp .gt off, 3)) (ht : (pc : Int) + off = (tgt : Int)) (ha : -2147483648 ≤ a ∧ a ≤ 2147483647) (hb1 : -2147483648 ≤ b9 ∧ b9 ≤ 2147483647) (kt : b9 < a → X Γ G ca ac ar μ ν tgt L st) (kf : ¬ (b9 < a) → X Γ G ca ac ar μ ν (pc + 3) L st) : X Γ G ca ac ar μ ν pc L (.int (iZ b9) :: .int (iZ a) :: st) := by
  obtain ⟨p, l, e, s, m, below, meth, c, hV, hH0, hA0, hnl, hx, hb, hml, hown, hts, hK, hX, hbl, hLx, hAc, hAr, hdj, hr, hlk⟩ := h
  intro H locs ls hH hJ hS hl
  rw [hV]
  have KT := fun q => kt q H locs ls hH hJ hS hl
  have KF := fun q => kf q H locs ls hH hJ hS hl
  rw [hV] at KT KF
  exact lv_icmp_gt hx hb hdg ht (fun q => KT ((iZ_lt hb1 ha).mp q)) (fun q => KF (fun z => q ((iZ_lt hb1 ha).mpr z)))

theorem x_iinc (h : xC Γ G ca ac ar b Lx xs) {k : Nat} {n x : Int} (hdg : decode cL_law pc = .ok (.iinc k n, 3)) (hl0 : zlk L k = some (.int (iZ x))) (hn : k < 4) (hc : zcat L k = true) (kk : X Γ G ca ac ar μ ν (pc + 3) ((k, .int (iZ (x + n))) :: L) st) : X Γ G ca ac ar μ ν pc L st := by
  obtain ⟨p, l, e, s, m, below, meth, c, hV, hH0, hA0, hnl, hx, hb, hml, hown, hts, hK, hX, hbl, hLx, hAc, hAr, hdj, hr, hlk⟩ := h
  intro H locs ls hH hJ hS hl
  rw [hV]
  obtain ⟨j, hj⟩ := List.getElem?_of_mem (zdd_mem (q := (k, .int (iZ x))) |>.mpr hl0)
  refine lv_iinc hx hb hdg hl.has hj (iZ_add x n) (by omega) rfl (fun ls9 h9 => ?_)
  have K := kk H locs ls9 hH hJ hS (zL.st hc h9)
  rw [hV] at K
  exact K

theorem x_tableIn (h : xC Γ G ca ac ar b Lx xs) {dflt l0 h0 off : Int} {offs : Array Int} {len : Nat} {a : Int} (tgt : Nat) (hdg : decode cL_law pc = .ok (.tableswitch dflt l0 h0 offs, len)) (ha : -2147483648 ≤ a ∧ a ≤ 2147483647) (h1 : l0 ≤ a) (h2 : a ≤ h0) (ho : offs[(a - l0).toNat]? = some off) (ht : (pc : Int) + off = (tgt : Int)) (kk : X Γ G ca ac ar μ ν tgt L st) : X Γ G ca ac ar μ ν pc L (.int (iZ a) :: st) := by
  obtain ⟨p, l, e, s, m, below, meth, c, hV, hH0, hA0, hnl, hx, hb, hml, hown, hts, hK, hX, hbl, hLx, hAc, hAr, hdj, hr, hlk⟩ := h
  intro H locs ls hH hJ hS hl
  rw [hV]
  have K := kk H locs ls hH hJ hS hl
  rw [hV] at K
  exact lv_tableIn hx hb hdg (by rw [iZ_toInt ha]; omega) (by rw [iZ_toInt ha]; omega) (by rw [iZ_toInt ha]; exact ho) ht K

theorem x_tableOut (h : xC Γ G ca ac ar b Lx xs) {dflt l0 h0 : Int} {offs : Array Int} {len : Nat} {a : Int} (tgt : Nat) (hdg : decode cL_law pc = .ok (.tableswitch dflt l0 h0 offs, len)) (ha : -2147483648 ≤ a ∧ a ≤ 2147483647) (h1 : a < l0 ∨ h0 < a) (ht : (pc : Int) + dflt = (tgt : Int)) (kk : X Γ G ca ac ar μ ν tgt L st) : X Γ G ca ac ar μ ν pc L (.int (iZ a) :: st) := by
  obtain ⟨p, l, e, s, m, below, meth, c, hV, hH0, hA0, hnl, hx, hb, hml, hown, hts, hK, hX, hbl, hLx, hAc, hAr, hdj, hr, hlk⟩ := h
  intro H locs ls hH hJ hS hl
  rw [hV]
  have K := kk H locs ls hH hJ hS hl
  rw [hV] at K
  exact lv_tableOut hx hb hdg (by rw [iZ_toInt ha]; exact h1) ht K

theorem x_weak {L' : List (Nat × Value)} (hs : zsub L' L) (kk : X Γ G ca ac ar μ ν pc L' st) : X Γ G ca ac ar μ ν pc L st := fun H locs ls hH hJ hS hl => kk H locs ls hH hJ hS ⟨hl.1, hl.2.1, fun k v hk => hl.2.2 k v (zsub_lk hs hk)⟩
theorem x_any {v : Int32} (kk : ∀ z : Int, -2147483648 ≤ z ∧ z ≤ 2147483647 → X Γ G ca ac ar μ ν pc L (.int (iZ z) :: st)) : X Γ G ca ac ar μ ν pc L (.int v :: st) := by
  obtain ⟨z, hz, e⟩ := iZ_of v
  rw [e]
  exact kk z hz
theorem x_alen (h : xC Γ G ca ac ar b Lx xs) (hdg : decode cL_law pc = .ok (.arraylength, 1)) (kk : X Γ G ca ac ar μ ν (pc + 1) L (.int (iZ (Lx : Int)) :: st)) : X Γ G ca ac ar μ ν pc L (.ref b :: st) := by
  obtain ⟨p, l, e, s, m, below, meth, c, hV, hH0, hA0, hnl, hx, hb, hml, hown, hts, hK, hX, hbl, hLx, hAc, hAr, hdj, hr, hlk⟩ := h
  intro H locs ls hH hJ hS hl
  have K := kk H locs ls hH hJ hS hl
  rw [hV] at K ⊢
  rw [hA0, hH0] at hS
  refine va_slen hx hb hX hbl (Nat.not_le.mpr hbl) hS hdg ?_
  rw [iZ_ofNat (by omega)]
  exact K
theorem x_ald (h : xC Γ G ca ac ar b Lx xs) {i : Int} (hi0 : 0 ≤ i) (hi : i < (Lx : Int)) (hdg : decode cL_law pc = .ok (.iaload, 1)) (kk : X Γ G ca ac ar μ ν (pc + 1) L (.int (iZ (sx xs i)) :: st)) : X Γ G ca ac ar μ ν pc L (.int (iZ i) :: .ref b :: st) := by
  obtain ⟨p, l, e, s, m, below, meth, c, hV, hH0, hA0, hnl, hx, hb, hml, hown, hts, hK, hX, hbl, hLx, hAc, hAr, hdj, hr, hlk⟩ := h
  intro H locs ls hH hJ hS hl
  have K := kk H locs ls hH hJ hS hl
  rw [hV] at K ⊢
  rw [hA0, hH0] at hS
  refine va_sld hx hb hX hbl (Nat.not_le.mpr hbl) hS (iZ_in hi0 hi (by omega)) hdg ?_
  rw [iZ_clamp hi0 (by omega), sx_e xs i]
  exact K
/-- both answers are the same -/
theorem x_same (h : xC Γ G ca ac ar b Lx xs) {v1 v2 : Int32} {off : Int} (tgt : Nat) (hv : v1 = v2) (hdg : decode cL_law pc = .ok (.if_icmp .eq off, 3)) (ht : (pc : Int) + off = (tgt : Int)) (kk : X Γ G ca ac ar μ ν tgt L st) : X Γ G ca ac ar μ ν pc L (.int v2 :: .int v1 :: st) := by
  obtain ⟨p, l, e, s, m, below, meth, c, hV, hH0, hA0, hnl, hx, hb, hml, hown, hts, hK, hX, hbl, hLx, hAc, hAr, hdj, hr, hlk⟩ := h
  intro H locs ls hH hJ hS hl
  have K := kk H locs ls hH hJ hS hl
  rw [hV] at K ⊢
  exact lv_icmp_eq hx hb hdg ht (fun _ => K) (fun q => absurd hv q)
/-- the law's own end -/
theorem x_end (h : xC Γ G ca ac ar b Lx xs) (hdg : decode cL_law pc = .ok (.ireturn, 1)) : X Γ G ca ac ar μ ν pc L [.int (iZ 1)] := by
  obtain ⟨p, l, e, s, m, below, meth, c, hV, hH0, hA0, hnl, hx, hb, hml, hown, hts, hK, hX, hbl, hLx, hAc, hAr, hdj, hr, hlk⟩ := h
  intro H locs ls hH hJ hS hl
  rw [hV]
  rw [hA0] at hS
  refine W.widen (k := 600000) (n := 7302250) (Nat.le_of_ble_eq_true rfl) (Nat.le_of_ble_eq_true rfl) ?_
  refine va_forget (fun q hq => hS.2.2 q hq) ?_
  exact W.base (lw_ret (Drawn.sameBut.refl s.drawn lw_cs) hx hb hr hlk hdg)
end XR
section XCALL
variable {p : Program} {l : Launch} {e : Env} {R : Room} {s : State} {m : MethodId} {args : Array Value} {below : List Frame} {meth : Method} {c : Code} {H : Heap} {locs : List Loc} {Q : State → Prop}
variable {pc : Nat} {ls : Array Slot} {rest st0 : List Value} {a : Array Value} {A A1 : Nat → Prop} {H0 : Heap} {ω : zO} {post : Option Value → zM → Prop} {nc ns : Nat}
theorem xc_go (hr : va_Run p l e R s m args below meth c H locs nc ns 0 0 (F0 m pc ls st0) rest (zQ ω A1 post a) A1) (hS : va_S A H0 H locs) (hA : ∀ q, A1 q → A q)
    (kk : ∀ (v : Option Value) (μ' : zM) (H1 : Heap) (locs1 : List Loc), post v μ' → zH ω A1 μ' H1 → (∀ q : Nat, q < H.size → ¬ A1 q → H1[q]? = H[q]?) → va_S A H0 H1 locs1 → W p l e R s m args below meth c H1 locs1 nc ns Q (F0 m (pc + 3) ls (v.toList ++ rest))) : W p l e R s m args below meth c H locs nc ns Q (F0 m pc ls st0) := by
  intro T hT X
  obtain ⟨v, st₀, t, T', L, h0, X', hL, e1, e2, ⟨⟨v', μ', hv, hp, hb⟩, hz, hk⟩, st⟩ := hr T hT X
  cases hv
  rw [h0] at hz hk
  obtain ⟨t2, a1, b1⟩ := kk v μ' T'.heap (locs ++ L) hp (by rw [e1]; exact hb) (fun q h1 h2 => by rw [e1]; exact hk q h1 h2)
    ⟨Nat.le_trans hS.1 (by rw [e1]; exact hz), fun q h1 h2 => by rw [e1, hk q (Nat.lt_of_lt_of_le h1 hS.1) (fun z => h2 (hA q z))]; exact hS.2.1 q h1 h2, fun q hq => by
      rcases List.mem_append.mp hq with h | h
      · exact hS.2.2 q h
      · exact hA _ (hL q h)⟩ T' rfl X'
  exact ⟨t2, st t2 a1, b1⟩
/-- a world beside which another one has changed -/
theorem zH.beside {A B : Nat → Prop} {μ : zM} {H1 : Heap} (h : zH ω A μ H) (hd : ∀ q, A q → ¬ B q) (hk : ∀ q : Nat, q < H.size → ¬ B q → H1[q]? = H[q]?) : zH ω A μ H1 := ⟨h.1.kept (fun k q hq => hk q.1 (h.1 k q hq).lt (hd _ (h.2.2 k q hq))), h.2⟩
end XCALL
section XCR
variable {Γ : zG} {G : va_G} {ca : Nat → ClassId} {ac ar : Int → Nat} {b Lx : Nat} {xs : Nat → Int32} {μ ν : zM} {pc : Nat} {L : List (Nat × Value)} {rest : List Value}
variable {y : MethodName} {bytes : ByteArray} {maxL fr1 lo1 index : Nat} {rt : Option FieldType} {post1 : Option Value → zM → Prop}

/-- a call of the class's method -/
theorem x_callC (h : xC Γ G ca ac ar b Lx xs) (As : List Value) (nA : Nat) (hnA : As.length = nA) (hdg : decode cL_law pc = .ok (.invokevirtual index, 3)) (hM : ∀ l, zMet l (cω G ca ac) (cA ac 163) y bytes maxL rt fr1 lo1 (.ref (ac 156) :: As) μ post1)
    (h1 : Cond.methodLink RL index y ∈ AL) (h2 : Cond.instanceMethod y ∈ AL) (h3 : Cond.selects y.cls y y ∈ AL) (h4 : Cond.initialized y.cls ∈ AL) (h5 : Cond.code y bytes maxL rt ∈ AL) (hd : y.cls = y.cls ∧ y.cls ≠ "java/lang/invoke/MethodHandle" ∧ y.cls ≠ "java/lang/invoke/VarHandle" ∧ (parseMethodDescriptor y.desc).map (fun d => d.parameters.length) = some nA) (hfr1 : fr1 + 1 ≤ 13) (hlo1 : 8 + (maxL + 11) + lo1 ≤ 518)
    {T : u_T} {N ci : Nat} {F : (Int → Int) → List Value} (he : ∀ r, (cω G ca ac).2.2.2.2 156 r = .inr (ci, F r)) (hc : zcl[ci]? = some (y.cls, T, N)) (hcat : (rest.map fun v => v.category).sum ≤ 8)
    (kk : ∀ (v : Option Value) (μ' : zM), post1 v μ' → X Γ G ca ac ar μ' ν (pc + 3) L (v.toList ++ rest)) {st : List Value} (hst : st = As.reverse ++ .ref (ac 156) :: rest) : X Γ G ca ac ar μ ν pc L st := by
  obtain ⟨p, l, e, s, m, below, meth, c, hV, hH0, hA0, hnl, hx, hb, hml, hown, hts, hK, hX, hbl, hLx, hAc, hAr, hdj, hr, hlk⟩ := h
  intro H locs ls hH hJ hS hl
  have K := fun v μ' H locs q hH hJ hS => kk v μ' q H locs ls hH hJ hS hl
  rw [hV] at K ⊢
  refine xc_go (va_runV (As := As) (rest := rest) ⟨hx, hb, hml, hown, hts⟩ (hM l) (cwV nA hts (al_gv h1 h2 h3 h4 h5) rfl rfl rfl hd ⟨hfr1, hlo1⟩) ⟨zP_blind, va_recv hK.1 hH.1 hc (by rw [zws_at (ω := cω G ca ac) (c := 156) cl_main.1 cl_main.2, he]), fun U hU hW => ⟨rfl, ⟨(hK.warm hW).1, (hK.warm hW).2.1⟩, by rw [hU]; exact hH⟩⟩ rfl hnA (by show ls.size = _; rw [hl.1, hnl]) hst (lv_room hcat) hdg ⟨Nat.le_of_ble_eq_true rfl, Nat.le_of_ble_eq_true rfl⟩) hS (fun q h => by rw [hA0]; exact hAc q h) (fun v μ' H1 locs1 q1 q2 q3 q4 => ?_)
  exact K v μ' H1 locs1 q1 q2 (hJ.beside (fun q a b9 => hdj q b9 a) q3) q4
/-- a call of the reference's method -/
theorem x_callR (h : xC Γ G ca ac ar b Lx xs) (As : List Value) (nA : Nat) (hnA : As.length = nA) (hdg : decode cL_law pc = .ok (.invokevirtual index, 3)) (hM : ∀ l, zMet l (rω G ca ar) (cA ar 4) y bytes maxL rt fr1 lo1 (.ref (ar 0) :: As) ν post1)
    (h1 : Cond.methodLink RL index y ∈ AL) (h2 : Cond.instanceMethod y ∈ AL) (h3 : Cond.selects y.cls y y ∈ AL) (h4 : Cond.initialized y.cls ∈ AL) (h5 : Cond.code y bytes maxL rt ∈ AL) (hd : y.cls = y.cls ∧ y.cls ≠ "java/lang/invoke/MethodHandle" ∧ y.cls ≠ "java/lang/invoke/VarHandle" ∧ (parseMethodDescriptor y.desc).map (fun d => d.parameters.length) = some nA) (hfr1 : fr1 + 1 ≤ 13) (hlo1 : 8 + (maxL + 11) + lo1 ≤ 518)
    {T : u_T} {N ci : Nat} {F : (Int → Int) → List Value} (he : ∀ r, (rω G ca ar).2.2.2.2 0 r = .inr (ci, F r)) (hc : zcl[ci]? = some (y.cls, T, N)) (hcat : (rest.map fun v => v.category).sum ≤ 8)
    (kk : ∀ (v : Option Value) (μ' : zM), post1 v μ' → X Γ G ca ac ar μ μ' (pc + 3) L (v.toList ++ rest)) {st : List Value} (hst : st = As.reverse ++ .ref (ar 0) :: rest) : X Γ G ca ac ar μ ν pc L st := by
  obtain ⟨p, l, e, s, m, below, meth, c, hV, hH0, hA0, hnl, hx, hb, hml, hown, hts, hK, hX, hbl, hLx, hAc, hAr, hdj, hr, hlk⟩ := h
  intro H locs ls hH hJ hS hl
  have K := fun v μ' H locs q hH hJ hS => kk v μ' q H locs ls hH hJ hS hl
  rw [hV] at K ⊢
  refine xc_go (va_runV (As := As) (rest := rest) ⟨hx, hb, hml, hown, hts⟩ (hM l) (cwV nA hts (al_gv h1 h2 h3 h4 h5) rfl rfl rfl hd ⟨hfr1, hlo1⟩) ⟨zP_blind, va_recv hK.1 hJ.1 hc (by rw [zws_at (ω := rω G ca ar) (c := 0) rl_0.1 rl_0.2, he]), fun U hU hW => ⟨rfl, ⟨(hK.warm hW).1, (hK.warm hW).2.1⟩, by rw [hU]; exact hJ⟩⟩ rfl hnA (by show ls.size = _; rw [hl.1, hnl]) hst (lv_room hcat) hdg ⟨Nat.le_of_ble_eq_true rfl, Nat.le_of_ble_eq_true rfl⟩) hS (fun q h => by rw [hA0]; exact hAr q h) (fun v μ' H1 locs1 q1 q2 q3 q4 => ?_)
  exact K v μ' H1 locs1 q1 (hH.beside hdj q3) q2 q4
end XCR
