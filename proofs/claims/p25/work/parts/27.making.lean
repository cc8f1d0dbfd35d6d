/-! MAKING: a world that grows: n cells at the addresses α 0 .. α (n-1), with the contents ε 0 .. ε (n-1) -/
abbrev fws (n : Nat) (α : Nat → Nat) (ε : Nat → va_E) : va_W := (List.range n).map (fun k => (α k, ε k))
theorem fws_at {n : Nat} {α : Nat → Nat} {ε : Nat → va_E} {k : Nat} (h : k < n) : (fws n α ε)[k]? = some (α k, ε k) := by
  simp only [fws, List.getElem?_map, List.getElem?_range h, Option.map_some]
theorem fws_q {n : Nat} {α : Nat → Nat} {ε : Nat → va_E} {k : Nat} {q : Nat × va_E} (h : (fws n α ε)[k]? = some q) : k < n ∧ q = (α k, ε k) := by
  by_cases hk : k < n
  · rw [fws_at hk] at h
    exact ⟨hk, (Option.some.inj h).symm⟩
  · simp [fws, List.getElem?_eq_none (l := List.range n) (by simpa using hk)] at h
theorem fws_n {n : Nat} {α : Nat → Nat} {ε : Nat → va_E} {k : Nat} (h : ¬ k < n) : (fws n α ε)[k]? = none := by
  simp [fws, List.getElem?_eq_none (l := List.range n) (by simpa using h)]
theorem fws_cg {n : Nat} {α α' : Nat → Nat} {ε ε' : Nat → va_E} (h : ∀ k, k < n → α k = α' k ∧ ε k = ε' k) : fws n α ε = fws n α' ε' := by
  apply List.ext_getElem?
  intro k
  by_cases hk : k < n
  · rw [fws_at hk, fws_at hk, (h k hk).1, (h k hk).2]
  · rw [fws_n hk, fws_n hk]
theorem fws_set {n : Nat} {α : Nat → Nat} {ε : Nat → va_E} {k : Nat} (h : k < n) {x : va_E} : (fws n α ε).set k (α k, x) = fws n α (va_up ε k x) := by
  apply List.ext_getElem?
  intro j
  rw [List.getElem?_set]
  by_cases hj : k = j
  · subst hj
    rw [if_pos rfl, if_pos (by simpa [fws] using h), fws_at h]
    simp [va_up]
  · rw [if_neg hj]
    by_cases hk : j < n
    · rw [fws_at hk, fws_at hk]
      simp [va_up, Ne.symm hj]
    · rw [fws_n hk, fws_n hk]
theorem fws_push {n : Nat} {α : Nat → Nat} {ε : Nat → va_E} {q : Nat} {x : va_E} : fws n α ε ++ [(q, x)] = fws (n + 1) (va_up α n q) (va_up ε n x) := by
  apply List.ext_getElem?
  intro j
  have hl : (fws n α ε).length = n := by simp [fws]
  by_cases hj : j < n
  · rw [List.getElem?_append_left (by rw [hl]; exact hj), fws_at hj, fws_at (by omega)]
    have : ¬ j = n := by omega
    simp [va_up, this]
  · rw [List.getElem?_append_right (by rw [hl]; omega), hl]
    by_cases hn : j = n
    · subst hn
      rw [fws_at (by omega)]
      simp [va_up]
    · rw [fws_n (by omega)]
      have : 1 ≤ j - n := by omega
      rw [List.getElem?_eq_none (by simpa using this)]
/-- what is known of the tables: the classes, the array classes, the nest's links, the arrays of objects -/
def yK (G : va_G) (ca : Nat → ClassId) (U : State) : Prop := va_K G zcl (zty ca) U ∧ zN U ∧ va_AO RX6 U ∧ va_AO RX0 U ∧ va_AO RX2 U
theorem yK.warm {G : va_G} {ca : Nat → ClassId} {s U : State} (hW : s.WarmedH U.vm) (h : yK G ca s) : yK G ca U := ⟨va_K.moved hW.alike h.1, h.2.1.warm hW, h.2.2.1.moved hW.alike, h.2.2.2.1.moved hW.alike, h.2.2.2.2.moved hW.alike⟩
theorem yK.same {G : va_G} {ca : Nat → ClassId} {u U : State} (hvm : u.vm = U.vm) (h : yK G ca u) : yK G ca U := ⟨va_K.moved (by rw [hvm]; exact Vm.Alike.refl _) h.1, h.2.1.same hvm, h.2.2.1.moved (by rw [hvm]; exact Vm.Alike.refl _), h.2.2.2.1.moved (by rw [hvm]; exact Vm.Alike.refl _), h.2.2.2.2.moved (by rw [hvm]; exact Vm.Alike.refl _)⟩
def yH (G : va_G) (A : Nat → Prop) (n : Nat) (α : Nat → Nat) (ε : Nat → va_E) (H : Heap) : Prop := va_P G zcl (fws n α ε) H ∧ va_D A (fws n α ε)
theorem yH.cg {G : va_G} {A : Nat → Prop} {n : Nat} {α α' : Nat → Nat} {ε ε' : Nat → va_E} {H : Heap} (h : ∀ k, k < n → α k = α' k ∧ ε k = ε' k) (q : yH G A n α ε H) : yH G A n α' ε' H := by
  unfold yH at q ⊢
  rw [← fws_cg h]
  exact q
/-- the walk's judgement (cells and elements made so far), the heap at its beginning, the cells that may be written, how many locals -/
abbrev yG : Type := (Nat → Nat → zV) × Heap × (Nat → Prop) × Nat
def Y (Γ : yG) (G : va_G) (nc ns n : Nat) (α : Nat → Nat) (ε : Nat → va_E) (pc : Nat) (L : List (Nat × Value)) (st : List Value) : Prop :=
  ∀ (H : Heap) (locs : List Loc) (ls : Array Slot), yH G Γ.2.2.1 n α ε H → va_S Γ.2.2.1 Γ.2.1 H locs → zL ls Γ.2.2.2 L → Γ.1 nc ns H locs pc ls st
/-- a constructor's end: the object h0 and what it has made -/
def yQ (G : va_G) (A : Nat → Prop) (h0 n' : Nat) (E : (Nat → Nat) → Nat → va_E) : Array Value → State → Outcome → State → Prop := fun _ st oc t => (∃ α' : Nat → Nat, oc = .returned none ∧ α' 0 = h0 ∧ yH G A n' α' (E α') t.heap) ∧ va_F A st t
def yC (Γ : yG) (G : va_G) (ca : Nat → ClassId) (own : String) (cc : ByteArray) (nL fr lo mc ms h0 n' : Nat) (E : (Nat → Nat) → Nat → va_E) : Prop :=
  ∃ (p : Program) (l : Launch) (e : Env) (R : Room) (s : State) (m : MethodId) (args : Array Value) (below : List Frame) (meth : Method) (c : Code),
    (Γ.1 = fun nc ns H locs pc ls st => W p l e R s m args below meth c H locs nc ns (MQ below (yQ G Γ.2.2.1 h0 n' E) args s mc ms Γ.2.2.1) (F0 m pc ls st)) ∧ Γ.2.1 = s.heap ∧ Γ.2.2.2 = nL ∧ p.tables.exec = Jvm.exec ∧ c.code = cc ∧ c.maxLocals = nL ∧ s.vm.findClass own = some m.cls ∧ (∀ w ∈ AL, w.before args s = true) ∧ yK G ca s ∧ meth.sig.returnType = none ∧ meth.locks = false ∧ fr ≤ R.frames ∧ lo ≤ R.locals ∧ mc ≤ R.cells ∧ ms ≤ R.slots ∧ (∀ q : Nat, s.heap.size ≤ q → Γ.2.2.1 q) ∧ meth.name = "<init>"
/-- a constructor's contract -/
def yMet (l : Launch) (G : va_G) (ca : Nat → ClassId) (y : MethodName) (cc : ByteArray) (nL fr lo mc ms h0 : Nat) (x0 : va_E) (n' : Nat) (E : (Nat → Nat) → Nat → va_E) : Prop :=
  ∀ sz : Nat, Met l y (.code y cc nL none :: AL) { frames := fr, cells := mc, slots := ms, locals := lo } (va_Pc [.ref h0] (fun U => U.heap.size = sz ∧ yK G ca U ∧ va_P G zcl [(h0, x0)] U.heap)) (yQ G (va_A [(h0, x0)] sz) h0 n' E) mc ms (va_A [(h0, x0)] sz)
theorem va_D1 {h0 sz : Nat} {x0 : va_E} : va_D (va_A [(h0, x0)] sz) [(h0, x0)] := by
  refine ⟨fun i j p q hi hj _ => ?_, fun k q hk => va_A.in hk⟩
  have h1 := (List.getElem?_eq_some_iff.mp hi).1
  have h2 := (List.getElem?_eq_some_iff.mp hj).1
  simp at h1 h2
  omega
theorem yMet_of {l : Launch} {G : va_G} {ca : Nat → ClassId} {y : MethodName} {cc : ByteArray} {nL fr lo mc ms h0 : Nat} {x0 : va_E} {n' : Nat} {E : (Nat → Nat) → Nat → va_E} (hy : plainName y.cls = true) (hyn : y.name = "<init>") (hn : 1 ≤ nL)
    (body : ∀ Γ : yG, yC Γ G ca y.cls cc nL fr lo mc ms h0 n' E → Y Γ G 0 0 1 (fun _ => h0) (fun _ => x0) 0 [(0, .ref h0)] []) : yMet l G ca y cc nL fr lo mc ms h0 x0 n' E := by
  intro sz
  refine Met.ofW (cc := cc) (maxL := nL) (ret := none) hy rfl ?_
  intro p e s m args below meth c s₁ B hml hv
  obtain ⟨rfl, hsz, hK, hP⟩ := hv
  subst hsz
  have hts := atoms_spec (ws := .code y cc nL none :: AL) B.pre
  have hl := lv_entry [.ref h0] (n := nL) hn
  rw [lg_entry_eq]
  exact body (fun nc ns H locs pc ls st => W p l e _ s m ([.ref h0] : List Value).toArray below meth c H locs nc ns (MQ below (yQ G (va_A [(h0, x0)] s.heap.size) h0 n' E) ([.ref h0] : List Value).toArray s mc ms (va_A [(h0, x0)] s.heap.size)) (F0 m pc ls st), s.heap, va_A [(h0, x0)] s.heap.size, nL)
    ⟨p, l, e, _, s, m, ([.ref h0] : List Value).toArray, below, meth, c, rfl, rfl, rfl, B.exec, B.bytes, hml, findClass_of_methodNamed B.named, fun w h => hts w (List.mem_cons_of_mem _ h), hK, B.returns, B.notSynchronized, Nat.le_refl _, Nat.le_refl _, Nat.le_refl _, Nat.le_refl _, fun q h => Or.inr h, by rw [(name_of_methodNamed B.named B.method).1, hyn]⟩
    s.heap [] _ ⟨hP, va_D1⟩ va_S.rf (zL.of hl)
section YR
variable {Γ : yG} {G : va_G} {ca : Nat → ClassId} {own : String} {cc : ByteArray} {nL fr lo mc ms h0 n' : Nat} {E : (Nat → Nat) → Nat → va_E} {nc ns n κ : Nat} {α : Nat → Nat} {ε : Nat → va_E} {pc : Nat} {L : List (Nat × Value)} {st : List Value}

theorem y_aload_n (h : yC Γ G ca own cc nL fr lo mc ms h0 n' E) {k : Fin 4} {x : Nat} (hdg : decode cc pc = .ok (.aload_n k, 1)) (hl0 : zlk L k = some (.ref x)) (kk : Y Γ G nc ns κ α ε (pc + 1) L (.ref x :: st)) : Y Γ G nc ns κ α ε pc L st := by
  obtain ⟨p, l, e, R, s, m, args, below, meth, c, hV, hH0, hnl, hx, hb, hml, hown, hts, hK, hr, hlk, hfr, hlo, hmc, hms, hAz, hin9⟩ := h
  intro H locs ls hH hS hl
  rw [hV]
  have K := kk H locs ls hH hS hl
  rw [hV] at K
  refine lv_aload_n hx hb hdg rfl (hl.2.2 _ _ hl0) ?_
  exact K

theorem y_iload_n (h : yC Γ G ca own cc nL fr lo mc ms h0 n' E) {k : Fin 4} {x : Int32} (hdg : decode cc pc = .ok (.iload_n k, 1)) (hl0 : zlk L k = some (.int x)) (kk : Y Γ G nc ns κ α ε (pc + 1) L (.int x :: st)) : Y Γ G nc ns κ α ε pc L st := by
  obtain ⟨p, l, e, R, s, m, args, below, meth, c, hV, hH0, hnl, hx, hb, hml, hown, hts, hK, hr, hlk, hfr, hlo, hmc, hms, hAz, hin9⟩ := h
  intro H locs ls hH hS hl
  rw [hV]
  have K := kk H locs ls hH hS hl
  rw [hV] at K
  refine lv_iload_n hx hb hdg rfl (hl.2.2 _ _ hl0) ?_
  exact K

theorem y_istore_n (h : yC Γ G ca own cc nL fr lo mc ms h0 n' E) {k : Fin 4} {x : Int32} (hdg : decode cc pc = .ok (.istore_n k, 1)) (hn : (k : Nat) < nL) (hc : zcat L (k : Nat) = true) (kk : Y Γ G nc ns κ α ε (pc + 1) (((k : Nat), .int x) :: L) st) : Y Γ G nc ns κ α ε pc L (.int x :: st) := by
  obtain ⟨p, l, e, R, s, m, args, below, meth, c, hV, hH0, hnl, hx, hb, hml, hown, hts, hK, hr, hlk, hfr, hlo, hmc, hms, hAz, hin9⟩ := h
  intro H locs ls hH hS hl
  rw [hV]
  refine lv_istore_n hx hb hdg rfl hl.has (by omega) rfl (fun ls9 h9 => ?_)
  have K := kk H locs ls9 hH hS (zL.st hc h9)
  rw [hV] at K
  exact K

theorem y_iconst (h : yC Γ G ca own cc nL fr lo mc ms h0 n' E) {n : Int} (hdg : decode cc pc = .ok (.iconst n, 1)) (kk : Y Γ G nc ns κ α ε (pc + 1) L (.int (iZ n) :: st)) : Y Γ G nc ns κ α ε pc L st := by
  obtain ⟨p, l, e, R, s, m, args, below, meth, c, hV, hH0, hnl, hx, hb, hml, hown, hts, hK, hr, hlk, hfr, hlo, hmc, hms, hAz, hin9⟩ := h
  intro H locs ls hH hS hl
  rw [hV]
  have K := kk H locs ls hH hS hl
  rw [hV] at K
  refine lv_iconst hx hb hdg rfl ?_
  exact K

theorem y_bipush (h : yC Γ G ca own cc nL fr lo mc ms h0 n' E) {n : Int} (hdg : decode cc pc = .ok (.bipush n, 2)) (hv : (Int8.ofInt n).toInt32 = iZ n) (kk : Y Γ G nc ns κ α ε (pc + 2) L (.int (iZ n) :: st)) : Y Γ G nc ns κ α ε pc L st := by
  obtain ⟨p, l, e, R, s, m, args, below, meth, c, hV, hH0, hnl, hx, hb, hml, hown, hts, hK, hr, hlk, hfr, hlo, hmc, hms, hAz, hin9⟩ := h
  intro H locs ls hH hS hl
  rw [hV]
  have K := kk H locs ls hH hS hl
  rw [hV] at K
  refine lv_bipush hx hb hdg hv ?_
  exact K

theorem y_sipush (h : yC Γ G ca own cc nL fr lo mc ms h0 n' E) {n : Int} (hdg : decode cc pc = .ok (.sipush n, 3)) (hv : (Int16.ofInt n).toInt32 = iZ n) (kk : Y Γ G nc ns κ α ε (pc + 3) L (.int (iZ n) :: st)) : Y Γ G nc ns κ α ε pc L st := by
  obtain ⟨p, l, e, R, s, m, args, below, meth, c, hV, hH0, hnl, hx, hb, hml, hown, hts, hK, hr, hlk, hfr, hlo, hmc, hms, hAz, hin9⟩ := h
  intro H locs ls hH hS hl
  rw [hV]
  have K := kk H locs ls hH hS hl
  rw [hV] at K
  refine lv_sipush hx hb hdg hv ?_
  exact K

theorem y_iadd (h : yC Γ G ca own cc nL fr lo mc ms h0 n' E) {a b : Int} (hdg : decode cc pc = .ok (.iadd, 1)) (kk : Y Γ G nc ns κ α ε (pc + 1) L (.int (iZ (a + b)) :: st)) : Y Γ G nc ns κ α ε pc L (.int (iZ b) :: .int (iZ a) :: st) := by
  obtain ⟨p, l, e, R, s, m, args, below, meth, c, hV, hH0, hnl, hx, hb, hml, hown, hts, hK, hr, hlk, hfr, hlo, hmc, hms, hAz, hin9⟩ := h
  intro H locs ls hH hS hl
  rw [hV]
  have K := kk H locs ls hH hS hl
  rw [hV] at K
  refine lv_iadd hx hb hdg ?_
  rw [iZ_add]
  exact K

theorem y_imul (h : yC Γ G ca own cc nL fr lo mc ms h0 n' E) {a b : Int} (hdg : decode cc pc = .ok (.imul, 1)) (kk : Y Γ G nc ns κ α ε (pc + 1) L (.int (iZ (a * b)) :: st)) : Y Γ G nc ns κ α ε pc L (.int (iZ b) :: .int (iZ a) :: st) := by
  obtain ⟨p, l, e, R, s, m, args, below, meth, c, hV, hH0, hnl, hx, hb, hml, hown, hts, hK, hr, hlk, hfr, hlo, hmc, hms, hAz, hin9⟩ := h
  intro H locs ls hH hS hl
  rw [hV]
  have K := kk H locs ls hH hS hl
  rw [hV] at K
  refine lv_imul hx hb hdg ?_
  rw [iZ_mul]
  exact K

theorem y_irem (h : yC Γ G ca own cc nL fr lo mc ms h0 n' E) {a b : Int} (hdg : decode cc pc = .ok (.irem, 1)) (ha : 0 ≤ a ∧ a ≤ 2147483647) (hb0 : 0 < b ∧ b ≤ 2147483647) (kk : Y Γ G nc ns κ α ε (pc + 1) L (.int (iZ (a % b)) :: st)) : Y Γ G nc ns κ α ε pc L (.int (iZ b) :: .int (iZ a) :: st) := by
  obtain ⟨p, l, e, R, s, m, args, below, meth, c, hV, hH0, hnl, hx, hb, hml, hown, hts, hK, hr, hlk, hfr, hlo, hmc, hms, hAz, hin9⟩ := h
  intro H locs ls hH hS hl
  rw [hV]
  have K := kk H locs ls hH hS hl
  rw [hV] at K
  refine lv_irem hx hb hdg (fun q => ?_) ?_
  · have := (iZ_eq (a := b) (b := 0) ⟨by omega, hb0.2⟩ ⟨by omega, by omega⟩).mp q
    omega
  · rw [iZ_div ha hb0, iZ_mul, iZ_sub, show a - a / b * b = a % b by rw [Int.emod_def, Int.mul_comm]]
    exact K

theorem y_dup (h : yC Γ G ca own cc nL fr lo mc ms h0 n' E) {v : Value} (hdg : decode cc pc = .ok (.dup, 1)) (hv : v.category = 1) (kk : Y Γ G nc ns κ α ε (pc + 1) L (v :: v :: st)) : Y Γ G nc ns κ α ε pc L (v :: st) := by
  obtain ⟨p, l, e, R, s, m, args, below, meth, c, hV, hH0, hnl, hx, hb, hml, hown, hts, hK, hr, hlk, hfr, hlo, hmc, hms, hAz, hin9⟩ := h
  intro H locs ls hH hS hl
  rw [hV]
  have K := kk H locs ls hH hS hl
  rw [hV] at K
  refine lv_dup hx hb hdg hv ?_
  exact K

theorem y_goto (h : yC Γ G ca own cc nL fr lo mc ms h0 n' E) {off : Int} (tgt : Nat) (hdg : decode cc pc = .ok (.goto off, 3)) (ht : (pc : Int) + off = (tgt : Int)) (kk : Y Γ G nc ns κ α ε tgt L st) : Y Γ G nc ns κ α ε pc L st := by
  obtain ⟨p, l, e, R, s, m, args, below, meth, c, hV, hH0, hnl, hx, hb, hml, hown, hts, hK, hr, hlk, hfr, hlo, hmc, hms, hAz, hin9⟩ := h
  intro H locs ls hH hS hl
  rw [hV]
  have K := kk H locs ls hH hS hl
  rw [hV] at K
  refine lv_goto hx hb hdg ht ?_
  exact K

theorem y_icmp_ge (h : yC Γ G ca own cc nL fr lo mc ms h0 n' E) {a b off : Int} (tgt : Nat) (hdg : decode cc pc = .ok (.if_icmp .ge off, 3)) (ht : (pc : Int) + off = (tgt : Int)) (ha : -2147483648 ≤ a ∧ a ≤ 2147483647) (hb1 : -2147483648 ≤ b ∧ b ≤ 2147483647) (kt : b ≤ a → Y Γ G nc ns κ α ε tgt L st) (kf : ¬ (b ≤ a) → Y Γ G nc ns κ α ε (pc + 3) L st) : Y Γ G nc ns κ α ε pc L (.int (iZ b) :: .int (iZ a) :: st) := by
  obtain ⟨p, l, e, R, s, m, args, below, meth, c, hV, hH0, hnl, hx, hb, hml, hown, hts, hK, hr, hlk, hfr, hlo, hmc, hms, hAz, hin9⟩ := h
  intro H locs ls hH hS hl
  rw [hV]
  have KT := fun q => kt q H locs ls hH hS hl
  have KF := fun q => kf q H locs ls hH hS hl
  rw [hV] at KT KF
  exact lv_icmp_ge hx hb hdg ht (fun q => KT ((iZ_le hb1 ha).mp q)) (fun q => KF (fun z => q ((iZ_le hb1 ha).mpr z)))

theorem y_iinc (h : yC Γ G ca own cc nL fr lo mc ms h0 n' E) {k : Nat} {n x : Int} (hdg : decode cc pc = .ok (.iinc k n, 3)) (hl0 : zlk L k = some (.int (iZ x))) (hn : k < nL) (hc : zcat L k = true) (kk : Y Γ G nc ns κ α ε (pc + 3) ((k, .int (iZ (x + n))) :: L) st) : Y Γ G nc ns κ α ε pc L st := by
  obtain ⟨p, l, e, R, s, m, args, below, meth, c, hV, hH0, hnl, hx, hb, hml, hown, hts, hK, hr, hlk, hfr, hlo, hmc, hms, hAz, hin9⟩ := h
  intro H locs ls hH hS hl
  rw [hV]
  obtain ⟨j, hj⟩ := List.getElem?_of_mem (zdd_mem (q := (k, .int (iZ x))) |>.mpr hl0)
  refine lv_iinc hx hb hdg hl.has hj (iZ_add x n) (by omega) rfl (fun ls9 h9 => ?_)
  have K := kk H locs ls9 hH hS (zL.st hc h9)
  rw [hV] at K
  exact K

theorem y_weak {L' : List (Nat × Value)} (hs : zsub L' L) (kk : Y Γ G nc ns n α ε pc L' st) : Y Γ G nc ns n α ε pc L st := fun H locs ls hH hS hl => kk H locs ls hH hS ⟨hl.1, hl.2.1, fun k v hk => hl.2.2 k v (zsub_lk hs hk)⟩
theorem y_top {a b : Int} (e : a = b) (kk : Y Γ G nc ns n α ε pc L (.int (iZ b) :: st)) : Y Γ G nc ns n α ε pc L (.int (iZ a) :: st) := e ▸ kk
/-- the world under other names -/
theorem y_cg {α' : Nat → Nat} {ε' : Nat → va_E} (h : ∀ k, k < n → α k = α' k ∧ ε k = ε' k) (kk : Y Γ G nc ns n α' ε' pc L st) : Y Γ G nc ns n α ε pc L st := fun H locs ls hH hS hl => kk H locs ls (hH.cg h) hS hl
theorem y_obj (h : yC Γ G ca own cc nL fr lo mc ms h0 n' E) {idx : Nat} (hlink : Cond.methodLink own idx objectInit ∈ AL) {a : Nat} (hdg : decode cc pc = .ok (.invokespecial idx, 3)) (hfr1 : 1 ≤ fr) (hlo1 : (st.map fun v => v.category).sum + 12 ≤ lo) (kk : Y Γ G nc ns n α ε (pc + 3) L st) : Y Γ G nc ns n α ε pc L (.ref a :: st) := by
  obtain ⟨p, l, e, R, s, m, args, below, meth, c, hV, hH0, hnl, hx, hb, hml, hown, hts, hK, hr, hlk, hfr, hlo, hmc, hms, hAz, hin9⟩ := h
  intro H locs ls hH hS hl
  rw [hV]
  have K := kk H locs ls hH hS hl
  rw [hV] at K
  exact W.objInit hx hb hown (hts _ hlink) (hts _ qI_O_init) (hts _ qC_O_init) rfl (by show ls.size = _; rw [hl.1, hnl, hml]) rfl hdg (Nat.le_trans hfr1 hfr) (by show 2 * 0 + _ + 12 ≤ _; omega) K
theorem y_new (h : yC Γ G ca own cc nL fr lo mc ms h0 n' E) {ci N index : Nat} {C : String} {T : u_T} (hin : ∀ w ∈ u_ws C T N, w ∈ AL) (hc : zcl[ci]? = some (C, T, N)) (ty0 : Nat → FieldType) (hty : ∀ k, k < N → parseFieldDescriptor (T k).2.2.1 = some (ty0 k)) (hlinkK : Cond.classLink own index C ∈ AL) (hinst : Cond.instantiable C N ∈ AL) (hini : Cond.initialized C ∈ AL) {fs : List Value} (hfs : ∀ j, j < N → defaultValue (ty0 j) = vp_V fs j) (hdg : decode cc pc = .ok (.new index, 3)) (hcells : nc + 1 ≤ mc) (hslots : ns + N ≤ ms) (kk : ∀ q : Nat, Y Γ G (nc + 1) (ns + N) (n + 1) (va_up α n q) (va_up ε n (.inr (ci, fs))) (pc + 3) L (.ref q :: st)) : Y Γ G nc ns n α ε pc L st := by
  obtain ⟨p, l, e, R, s, m, args, below, meth, c, hV, hH0, hnl, hx, hb, hml, hown, hts, hK, hr, hlk, hfr, hlo, hmc, hms, hAz, hin9⟩ := h
  intro H locs ls hH hS hl
  have K := fun q H locs hH hS => kk q H locs ls hH hS hl
  rw [hV] at K ⊢
  refine va_new hx hb hts hin ty0 hty hown (hts _ hlinkK) (hts _ hinst) (hts _ hini) hK.1 hH.1 hH.2 hS (fun q h => hAz q (by rw [← hH0]; exact h)) hc hfs (Nat.le_trans hcells hmc) (Nat.le_trans hslots hms) hdg (fun q H1 hP hD hS1 => ?_)
  rw [fws_push] at hP hD
  exact K q H1 locs ⟨hP, hD⟩ hS1
theorem y_newi (h : yC Γ G ca own cc nL fr lo mc ms h0 n' E) {z : Int} {len : Nat} (hz : z = (len : Int)) (hlen : len ≤ 2000) (hdg : decode cc pc = .ok (.newarray .int, 2)) (hcells : nc + 1 ≤ mc) (hslots : ns + len ≤ ms) (kk : ∀ q : Nat, Y Γ G (nc + 1) (ns + len) (n + 1) (va_up α n q) (va_up ε n (.inl (ca 0, len, .inl (fun _ => iZ 0)))) (pc + 2) L (.ref q :: st)) : Y Γ G nc ns n α ε pc L (.int (iZ z) :: st) := by
  obtain ⟨p, l, e, R, s, m, args, below, meth, c, hV, hH0, hnl, hx, hb, hml, hown, hts, hK, hr, hlk, hfr, hlo, hmc, hms, hAz, hin9⟩ := h
  intro H locs ls hH hS hl
  have K := fun q H locs hH hS => kk q H locs ls hH hS hl
  rw [hV] at K ⊢
  subst hz
  refine va_newa (a0 := (len, .inl (fun _ => iZ 0))) hx hb (atype := .int) (hts _ qA_int) (ty := .int) rfl hK.1 hH.1 hH.2 hS (fun q h => hAz q (by rw [← hH0]; exact h)) (fun _ => rfl) (nI_pos (by omega)) (by rw [iZ_clamp (by omega) (by omega)]; omega) (by show len * 4 ≤ _; omega) (Nat.le_trans hcells hmc) (Nat.le_trans hslots hms) hdg (fun q cA H1 hK1 hP hD hS1 => ?_)
  have e9 : cA = ca 0 := by
    have h1 : s.vm.findClass ("[" ++ FieldType.int.toString) = some cA := (hK1.2 5 (cA, .int) rfl).2
    have h2 : s.vm.findClass ("[" ++ FieldType.int.toString) = some (ca 0) := (hK.1.2 0 (ca 0, .int) rfl).2
    exact Option.some.inj (h1.symm.trans h2)
  subst e9
  rw [fws_push] at hP hD
  exact K q H1 locs ⟨hP, hD⟩ hS1
theorem y_newc (h : yC Γ G ca own cc nL fr lo mc ms h0 n' E) {z : Int} {len : Nat} (hz : z = (len : Int)) (hlen : len ≤ 2000) (hdg : decode cc pc = .ok (.newarray .char, 2)) (hcells : nc + 1 ≤ mc) (hslots : ns + len ≤ ms) (kk : ∀ q : Nat, Y Γ G (nc + 1) (ns + len) (n + 1) (va_up α n q) (va_up ε n (.inl (ca 1, len, .inl (fun _ => iZ 0)))) (pc + 2) L (.ref q :: st)) : Y Γ G nc ns n α ε pc L (.int (iZ z) :: st) := by
  obtain ⟨p, l, e, R, s, m, args, below, meth, c, hV, hH0, hnl, hx, hb, hml, hown, hts, hK, hr, hlk, hfr, hlo, hmc, hms, hAz, hin9⟩ := h
  intro H locs ls hH hS hl
  have K := fun q H locs hH hS => kk q H locs ls hH hS hl
  rw [hV] at K ⊢
  subst hz
  refine va_newa (a0 := (len, .inl (fun _ => iZ 0))) hx hb (atype := .char) (hts _ qA_char) (ty := .char) rfl hK.1 hH.1 hH.2 hS (fun q h => hAz q (by rw [← hH0]; exact h)) (fun _ => rfl) (nI_pos (by omega)) (by rw [iZ_clamp (by omega) (by omega)]; omega) (by show len * 2 ≤ _; omega) (Nat.le_trans hcells hmc) (Nat.le_trans hslots hms) hdg (fun q cA H1 hK1 hP hD hS1 => ?_)
  have e9 : cA = ca 1 := by
    have h1 : s.vm.findClass ("[" ++ FieldType.char.toString) = some cA := (hK1.2 5 (cA, .char) rfl).2
    have h2 : s.vm.findClass ("[" ++ FieldType.char.toString) = some (ca 1) := (hK.1.2 1 (ca 1, .char) rfl).2
    exact Option.some.inj (h1.symm.trans h2)
  subst e9
  rw [fws_push] at hP hD
  exact K q H1 locs ⟨hP, hD⟩ hS1
theorem y_newr (h : yC Γ G ca own cc nL fr lo mc ms h0 n' E) {z : Int} {len index : Nat} (t0 : Nat) {C : String} (ht : (zty ca)[t0]? = some (ca t0, .object C)) (hover : ∀ U : State, yK G ca U → va_AO C U) (hlinkK : Cond.classLink own index C ∈ AL) (hz : z = (len : Int)) (hlen : len ≤ 2000) (hdg : decode cc pc = .ok (.anewarray index, 3)) (hcells : nc + 1 ≤ mc) (hslots : ns + len ≤ ms) (kk : ∀ q : Nat, Y Γ G (nc + 1) (ns + len) (n + 1) (va_up α n q) (va_up ε n (.inl (ca t0, len, .inr (.inr (.inr (.inr (fun _ => none))))))) (pc + 3) L (.ref q :: st)) : Y Γ G nc ns n α ε pc L (.int (iZ z) :: st) := by
  obtain ⟨p, l, e, R, s, m, args, below, meth, c, hV, hH0, hnl, hx, hb, hml, hown, hts, hK, hr, hlk, hfr, hlo, hmc, hms, hAz, hin9⟩ := h
  intro H locs ls hH hS hl
  have K := fun q H locs hH hS => kk q H locs ls hH hS hl
  rw [hV] at K ⊢
  subst hz
  refine va_newq hx hb hown (hts _ hlinkK) (hover s hK) hK.1 hH.1 hH.2 hS (fun q h => hAz q (by rw [← hH0]; exact h)) (nI_pos (by omega)) (N' := len) (by rw [iZ_clamp (by omega) (by omega)]; omega) (by omega) (Nat.le_trans hcells hmc) (Nat.le_trans hslots hms) hdg (fun q cA H1 hK1 hP hD hS1 => ?_)
  have e9 : cA = ca t0 := by
    obtain ⟨-, kA, comp, f2, f3, f4, h1⟩ := hK1.2 5 (cA, .object C) rfl
    obtain ⟨-, kA', comp', f2', f3', f4', h2⟩ := hK.1.2 t0 (ca t0, .object C) ht
    exact Option.some.inj (h1.symm.trans h2)
  subst e9
  rw [fws_push] at hP hD
  exact K q H1 locs ⟨hP, hD⟩ hS1
theorem y_get (h : yC Γ G ca own cc nL fr lo mc ms h0 n' E) {ci N index : Nat} {C ref : String} {T : u_T} (hin : ∀ w ∈ u_ws C T N, w ∈ AL) (hc : zcl[ci]? = some (C, T, N)) (k : Nat) (hk : k < N) (hlink : Cond.fieldLink own index ref (T k).2.1 (T k).2.2.1 ∈ AL) (href : ref = (T k).1) (hdg : decode cc pc = .ok (.getfield index, 3)) (q0 : Nat) (hq0 : q0 < n) {a : Nat} (ha : α q0 = a) {fs : List Value} (he : ε q0 = .inr (ci, fs)) {v : Value} (hv : fs[k]? = some v) (kk : Y Γ G nc ns n α ε (pc + 3) L (v :: st)) : Y Γ G nc ns n α ε pc L (.ref a :: st) := by
  obtain ⟨p, l, e, R, s, m, args, below, meth, c, hV, hH0, hnl, hx, hb, hml, hown, hts, hK, hr, hlk, hfr, hlo, hmc, hms, hAz, hin9⟩ := h
  intro H locs ls hH hS hl
  have K := kk H locs ls hH hS hl
  rw [hV] at K ⊢
  subst href
  subst ha
  exact va_get hx hb hts hin hown hK.1 hH.1 q0 (by rw [fws_at hq0, he]) hc k hk (hts _ hlink) (fun _ h9 => h9) hv hdg K
/-- a final field of the object that is made gets a reference -/
theorem y_put (h : yC Γ G ca own cc nL fr lo mc ms h0 n' E) {ci N index : Nat} {C ref : String} {T : u_T} (hin : ∀ w ∈ u_ws C T N, w ∈ AL) (hc : zcl[ci]? = some (C, T, N)) (ty0 : Nat → FieldType) (hty : ∀ k, k < N → parseFieldDescriptor (T k).2.2.1 = some (ty0 k)) (hnm : ∀ a, a < N → ∀ b, b < N → a ≠ b → (T a).2.1 ≠ (T b).2.1) (k : Nat) (hk : k < N) (hlink : Cond.fieldLink own index ref (T k).2.1 (T k).2.2.1 ∈ AL) (href : ref = (T k).1) (hfin : (T k).2.2.2 = true) (hdecl : (T k).1 = own) (hdg : decode cc pc = .ok (.putfield index, 3)) (q0 : Nat) (hq0 : q0 < n) {a v : Nat} (ha : α q0 = a) {fs : List Value} (he : ε q0 = .inr (ci, fs)) (hn9 : narrow (ty0 k) (.ref v) = .ref v) (hf9 : fits (ty0 k) (.ref v) = true) (hl9 : k < fs.length) (kk : Y Γ G nc ns n α (va_up ε q0 (.inr (ci, fs.set k (.ref v)))) (pc + 3) L st) : Y Γ G nc ns n α ε pc L (.ref v :: .ref a :: st) := by
  obtain ⟨p, l, e, R, s, m, args, below, meth, c, hV, hH0, hnl, hx, hb, hml, hown, hts, hK, hr, hlk, hfr, hlo, hmc, hms, hAz, hin9⟩ := h
  intro H locs ls hH hS hl
  have K := fun H locs hH hS => kk H locs ls hH hS hl
  rw [hV] at K ⊢
  subst href
  subst ha
  refine va_putF hx hb hts hin ty0 hty hnm hown hK.1 hH.1 hH.2 hS q0 (by rw [fws_at hq0, he]) hc k hk (hts _ hlink) (fun _ h9 => h9) hfin hin9 hdecl (ty := ty0 k) (hty k hk) hn9 hf9 hl9 hdg (fun H1 locs1 hP hD hS1 => ?_)
  rw [fws_set hq0] at hP hD
  exact K H1 locs1 ⟨hP, hD⟩ hS1
theorem y_iast (h : yC Γ G ca own cc nL fr lo mc ms h0 n' E) (hdg : decode cc pc = .ok (.iastore, 1)) (q0 : Nat) (hq0 : q0 < n) {a len : Nat} (ha : α q0 = a) {f : Nat → Int32} (he : ε q0 = .inl (ca 0, len, .inl f)) {i z : Int} (hi0 : 0 ≤ i) (hi : i < (len : Int)) (hn9 : len ≤ 2000) (kk : Y Γ G nc ns n α (va_up ε q0 (.inl (ca 0, len, .inl (upd f i.toNat (iZ z))))) (pc + 1) L st) : Y Γ G nc ns n α ε pc L (.int (iZ z) :: .int (iZ i) :: .ref a :: st) := by
  obtain ⟨p, l, e, R, s, m, args, below, meth, c, hV, hH0, hnl, hx, hb, hml, hown, hts, hK, hr, hlk, hfr, hlo, hmc, hms, hAz, hin9⟩ := h
  intro H locs ls hH hS hl
  have K := fun H locs hH hS => kk H locs ls hH hS hl
  rw [hV] at K ⊢
  subst ha
  refine va_iast hx hb hK.1 hH.1 hH.2 hS q0 0 (by rw [fws_at hq0, he]) rfl (iZ_in hi0 hi (by omega)) hdg (fun H1 locs1 hP hD hS1 => ?_)
  rw [fws_set hq0, iZ_clamp hi0 (by omega)] at hP hD
  exact K H1 locs1 ⟨hP, hD⟩ hS1
theorem y_aast (h : yC Γ G ca own cc nL fr lo mc ms h0 n' E) (hdg : decode cc pc = .ok (.aastore, 1)) (t0 : Nat) {r0 : vw_C} {ci : Nat} (ht : (zty ca)[t0]? = some (ca t0, .object r0.1)) (hci : zcl[ci]? = some r0) (q0 : Nat) (hq0 : q0 < n) {a v len : Nat} (ha : α q0 = a) {f : Nat → Option Nat} (he : ε q0 = .inl (ca t0, len, .inr (.inr (.inr (.inr f))))) (q1 : Nat) (hq1 : q1 < n) (hv : α q1 = v) {fs : List Value} (he2 : ε q1 = .inr (ci, fs)) {i : Int} (hi0 : 0 ≤ i) (hi : i < (len : Int)) (hn9 : len ≤ 2000) (kk : Y Γ G nc ns n α (va_up ε q0 (.inl (ca t0, len, .inr (.inr (.inr (.inr (va_up f i.toNat (some v)))))))) (pc + 1) L st) : Y Γ G nc ns n α ε pc L (.ref v :: .int (iZ i) :: .ref a :: st) := by
  obtain ⟨p, l, e, R, s, m, args, below, meth, c, hV, hH0, hnl, hx, hb, hml, hown, hts, hK, hr, hlk, hfr, hlo, hmc, hms, hAz, hin9⟩ := h
  intro H locs ls hH hS hl
  have K := fun H locs hH hS => kk H locs ls hH hS hl
  rw [hV] at K ⊢
  subst ha
  subst hv
  refine va_astq hx hb hK.1 hH.1 hH.2 hS q0 t0 q1 ci (by rw [fws_at hq0, he]) ht (by rw [fws_at hq1, he2]) hci (iZ_in hi0 hi (by omega)) hdg (fun H1 locs1 hP hD hS1 => ?_)
  rw [fws_set hq0, iZ_clamp hi0 (by omega)] at hP hD
  exact K H1 locs1 ⟨hP, hD⟩ hS1
theorem y_ret (h : yC Γ G ca own cc nL fr lo mc ms h0 n' E) (hnc : nc ≤ mc) (hns : ns ≤ ms) (hnn : n = n') (ha : α 0 = h0) (hE : ∀ k, k < n → ε k = E α k) (hdg : decode cc pc = .ok (.return_, 1)) : Y Γ G nc ns n α ε pc L [] := by
  obtain ⟨p, l, e, R, s, m, args, below, meth, c, hV, hH0, hnl, hx, hb, hml, hown, hts, hK, hr, hlk, hfr, hlo, hmc, hms, hAz, hin9⟩ := h
  intro H locs ls hH hS hl
  rw [hV]
  rw [hH0] at hS
  subst hnn
  refine W.widen (k := mc) (n := ms) hnc hns ?_
  exact W.vret hx hb hr (fun t ht hW => ⟨⟨α, rfl, ha, by rw [ht]; exact hH.cg (fun k hk => ⟨rfl, hE k hk⟩)⟩, hS.F ht⟩) hS.2.2 hdg hlk

end YR
/-! a constructor called on the object that was just made -/
section YCALL
variable {p : Program} {l : Launch} {e : Env} {R : Room} {s : State} {m : MethodId} {args : Array Value} {below : List Frame} {meth : Method} {c : Code} {H : Heap} {locs : List Loc} {Q : State → Prop}
variable {pc : Nat} {ls : Array Slot} {rest st0 : List Value} {a : Array Value} {A A1 : Nat → Prop} {H0 : Heap} {G : va_G} {nc ns mc1 ms1 h1 n2 : Nat} {E2 : (Nat → Nat) → Nat → va_E}
theorem yc_go (hr : va_Run p l e R s m args below meth c H locs nc ns mc1 ms1 (F0 m pc ls st0) rest (yQ G A1 h1 n2 E2 a) A1) (hS : va_S A H0 H locs) (hA : ∀ q, A1 q → A q)
    (kk : ∀ (α2 : Nat → Nat) (H1 : Heap) (locs1 : List Loc), α2 0 = h1 → yH G A1 n2 α2 (E2 α2) H1 → H.size ≤ H1.size → (∀ q : Nat, q < H.size → ¬ A1 q → H1[q]? = H[q]?) → va_S A H0 H1 locs1 → W p l e R s m args below meth c H1 locs1 (nc + mc1) (ns + ms1) Q (F0 m (pc + 3) ls rest)) : W p l e R s m args below meth c H locs nc ns Q (F0 m pc ls st0) := by
  intro T hT X
  obtain ⟨v, st₀, t, T', L, h0, X', hL, e1, e2, ⟨⟨α2, hv, hp, hb⟩, hz, hk⟩, st⟩ := hr T hT X
  cases hv
  rw [h0] at hz hk
  obtain ⟨t2, a1, b1⟩ := kk α2 T'.heap (locs ++ L) hp (by rw [e1]; exact hb) (by rw [e1]; exact hz) (fun q h1 h2 => by rw [e1]; exact hk q h1 h2)
    ⟨Nat.le_trans hS.1 (by rw [e1]; exact hz), fun q h1 h2 => by rw [e1, hk q (Nat.lt_of_lt_of_le h1 hS.1) (fun z => h2 (hA q z))]; exact hS.2.1 q h1 h2, fun q hq => by
      rcases List.mem_append.mp hq with h | h
      · exact hS.2.2 q h
      · exact hA _ (hL q h)⟩ T' rfl X'
  exact ⟨t2, st t2 a1, b1⟩
theorem va_A1 {h1 sz q : Nat} {x : va_E} (h : va_A [(h1, x)] sz q) : q = h1 ∨ sz ≤ q := by
  rcases h with ⟨k, e, hk⟩ | h
  · have h2 := (List.getElem?_eq_some_iff.mp hk).1
    simp at h2
    subst h2
    cases hk
    exact Or.inl rfl
  · exact Or.inr h
theorem y_join {n : Nat} {α α2 : Nat → Nat} {ε ε2 : Nat → va_E} {H1 : Heap} (hH : yH G A (n + 1) α ε H) (hA : ∀ q, va_A [(α n, ε n)] H.size q → A q) (h2 : yH G (va_A [(α n, ε n)] H.size) n2 α2 ε2 H1) (hk : ∀ q : Nat, q < H.size → ¬ va_A [(α n, ε n)] H.size q → H1[q]? = H[q]?) :
    yH G A (n + n2) (fun k => if k < n then α k else α2 (k - n)) (fun k => if k < n then ε k else ε2 (k - n)) H1 := by
  have old : ∀ k, k < n → α k < H.size ∧ ¬ va_A [(α n, ε n)] H.size (α k) := by
    intro k hk1
    have l1 := (hH.1 k _ (fws_at (by omega))).lt
    refine ⟨l1, fun z => ?_⟩
    rcases va_A1 z with q | q
    · have := hH.2.1 k n _ _ (fws_at (by omega)) (fws_at (by omega)) q
      omega
    · exact absurd (show α k < H.size from l1) (by omega)
  constructor
  · intro k q hq
    obtain ⟨hk1, rfl⟩ := fws_q hq
    by_cases hk2 : k < n
    · simp only [hk2, if_true]
      exact (hH.1 k _ (fws_at (by omega))).kept (hk _ (old k hk2).1 (old k hk2).2)
    · simp only [hk2, if_false]
      exact h2.1 (k - n) _ (fws_at (by omega))
  · constructor
    · intro i j x y hi hj hxy
      obtain ⟨hi1, rfl⟩ := fws_q hi
      obtain ⟨hj1, rfl⟩ := fws_q hj
      by_cases hi2 : i < n <;> by_cases hj2 : j < n
      · simp only [hi2, hj2, if_true] at hxy
        exact hH.2.1 i j _ _ (fws_at (by omega)) (fws_at (by omega)) hxy
      · simp only [hi2, hj2, if_true, if_false] at hxy
        have := h2.2.2 (j - n) _ (fws_at (by omega))
        exact absurd (by rw [hxy]; exact this) (old i hi2).2
      · simp only [hi2, hj2, if_true, if_false] at hxy
        have := h2.2.2 (i - n) _ (fws_at (by omega))
        exact absurd (by rw [← hxy]; exact this) (old j hj2).2
      · simp only [hi2, hj2, if_false] at hxy
        have := h2.2.1 (i - n) (j - n) _ _ (fws_at (by omega)) (fws_at (by omega)) hxy
        omega
    · intro k q hq
      obtain ⟨hk1, rfl⟩ := fws_q hq
      by_cases hk2 : k < n
      · simp only [hk2, if_true]
        exact hH.2.2 k _ (fws_at (by omega))
      · simp only [hk2, if_false]
        exact hA _ (h2.2.2 (k - n) _ (fws_at (by omega)))
end YCALL
section YCR
variable {Γ : yG} {G : va_G} {ca : Nat → ClassId} {own : String} {cc : ByteArray} {nL fr lo mc ms h0 n' : Nat} {E : (Nat → Nat) → Nat → va_E} {nc ns n : Nat} {α : Nat → Nat} {ε : Nat → va_E} {pc : Nat} {L : List (Nat × Value)} {rest : List Value}
variable {y : MethodName} {bytes : ByteArray} {maxL fr1 lo1 mc1 ms1 index n2 : Nat} {E2 : (Nat → Nat) → Nat → va_E}
theorem y_free {A : Nat → Prop} {H0 H : Heap} {locs : List Loc} (hH : yH G A (n + 1) α ε H) (hS : va_S A H0 H locs) (hA : ∀ q : Nat, H0.size ≤ q → A q) : ∀ q, va_A [(α n, ε n)] H.size q → A q := by
  intro q hq
  rcases va_A1 hq with h | h
  · rw [h]; exact hH.2.2 n _ (fws_at (by omega))
  · exact hA q (Nat.le_trans hS.1 h)
theorem y_P1 {A : Nat → Prop} {H : Heap} (hH : yH G A (n + 1) α ε H) : va_P G zcl [(α n, ε n)] H := by
  intro k q hq
  have h2 := (List.getElem?_eq_some_iff.mp hq).1
  simp at h2
  subst h2
  cases hq
  exact hH.1 n _ (fws_at (by omega))
theorem al_g1 {cw : Cond} (h5 : cw ∈ AL) : GoodIn AL (cw :: AL) := by
  intro w hw
  have hm : w ∈ AL := by
    rcases List.mem_cons.mp hw with h | h
    · subst h; exact h5
    · exact h
  exact ⟨hm, good_of_word (List.all_eq_true.mp al_good w hm)⟩
/-- the constructor of the last cell, by a link of its own class -/
theorem y_call (h : yC Γ G ca own cc nL fr lo mc ms h0 n' E) {x : Nat} (hxa : α n = x) (hdg : decode cc pc = .ok (.invokespecial index, 3)) (hM : ∀ l, yMet l G ca y bytes maxL fr1 lo1 mc1 ms1 (α n) (ε n) n2 E2) (hyn : y.name = "<init>") (h1 : Cond.methodLink own index y ∈ AL) (h2 : Cond.instanceMethod y ∈ AL) (h4 : Cond.initialized y.cls ∈ AL) (h5 : Cond.code y bytes maxL none ∈ AL) (hd : y.cls ≠ "java/lang/invoke/MethodHandle" ∧ y.cls ≠ "java/lang/invoke/VarHandle" ∧ (parseMethodDescriptor y.desc).map (fun d => d.parameters.length) = some 0) (hfr1 : fr1 + 1 ≤ fr) (hlo1 : 8 + (maxL + 11) + lo1 ≤ lo) (hcells : nc + mc1 ≤ mc) (hslots : ns + ms1 ≤ ms) (hcat : (rest.map fun v => v.category).sum ≤ 8)
    (kk : ∀ α2 : Nat → Nat, α2 0 = α n → Y Γ G (nc + mc1) (ns + ms1) (n + n2) (fun k => if k < n then α k else α2 (k - n)) (fun k => if k < n then ε k else E2 α2 (k - n)) (pc + 3) L rest) : Y Γ G nc ns (n + 1) α ε pc L (.ref x :: rest) := by
  obtain ⟨p, l, e, R, s, m, args, below, meth, c, hV, hH0, hnl, hx, hb, hml, hown, hts, hK, hr, hlk, hfr, hlo, hmc, hms, hAz, hin9⟩ := h
  intro H locs ls hH hS hl
  have K := fun α2 hα H locs hH hS => kk α2 hα H locs ls hH hS hl
  rw [hV] at K ⊢
  subst hxa
  have hF := y_free hH hS (fun q h => hAz q (by rw [← hH0]; exact h))
  refine yc_go (va_runI (As := []) (rest := rest) ⟨hx, hb, hml, hown, hts⟩ (hM l H.size) (cwI 0 hts (al_g1 h5) rfl rfl rfl (hts _ h4) (hts _ h1) (hts _ h2) hyn hd ⟨Nat.le_trans hfr1 hfr, Nat.le_trans hlo1 hlo⟩) ⟨fun a U g mk q => ⟨q.1, q.2.1, q.2.2.1.same (u := U) (U := U.calling g mk a) rfl, q.2.2.2⟩, fun U hU hW => ⟨rfl, by rw [hU], hK.warm hW, by rw [hU]; exact y_P1 hH⟩⟩ rfl rfl (by show ls.size = _; rw [hl.1, hnl]) rfl (lv_room hcat) hdg ⟨Nat.le_trans hcells hmc, Nat.le_trans hslots hms⟩) hS hF (fun α2 H1 locs1 hα h2 hz hk hS1 => ?_)
  exact K α2 hα H1 locs1 (y_join hH hF h2 hk) hS1
/-- the private constructor of the last cell's class, a mate of the nest -/
theorem y_callN (h : yC Γ G ca own cc nL fr lo mc ms h0 n' E) {x : Nat} (hxa : α n = x) (hdg : decode cc pc = .ok (.invokespecial index, 3)) (hM : ∀ l, yMet l G ca y bytes maxL fr1 lo1 mc1 ms1 (α n) (ε n) n2 E2) (hyn : y.name = "<init>") (h1 : Cond.methodLinkNest own index y RX7 ∈ zNst) (h2 : Cond.instanceMethod y ∈ AL) (h4 : Cond.initialized y.cls ∈ AL) (h5 : Cond.code y bytes maxL none ∈ AL) (hd : y.cls ≠ "java/lang/invoke/MethodHandle" ∧ y.cls ≠ "java/lang/invoke/VarHandle" ∧ (parseMethodDescriptor y.desc).map (fun d => d.parameters.length) = some 0) (hfr1 : fr1 + 1 ≤ fr) (hlo1 : 8 + (maxL + 11) + lo1 ≤ lo) (hcells : nc + mc1 ≤ mc) (hslots : ns + ms1 ≤ ms) (hcat : (rest.map fun v => v.category).sum ≤ 8)
    (kk : ∀ α2 : Nat → Nat, α2 0 = α n → Y Γ G (nc + mc1) (ns + ms1) (n + n2) (fun k => if k < n then α k else α2 (k - n)) (fun k => if k < n then ε k else E2 α2 (k - n)) (pc + 3) L rest) : Y Γ G nc ns (n + 1) α ε pc L (.ref x :: rest) := by
  obtain ⟨p, l, e, R, s, m, args, below, meth, c, hV, hH0, hnl, hx, hb, hml, hown, hts, hK, hr, hlk, hfr, hlo, hmc, hms, hAz, hin9⟩ := h
  intro H locs ls hH hS hl
  have K := fun α2 hα H locs hH hS => kk α2 hα H locs ls hH hS hl
  rw [hV] at K ⊢
  subst hxa
  have hF := y_free hH hS (fun q h => hAz q (by rw [← hH0]; exact h))
  refine yc_go (va_runIN (As := []) (rest := rest) ⟨hx, hb, hml, hown, hts⟩ (hM l H.size) ⟨va_cnB 0 hts (al_g1 h5) rfl rfl rfl (hK.2.1 _ h1) (hts _ h4) hd ⟨Nat.le_trans hfr1 hfr, Nat.le_trans hlo1 hlo⟩, hyn, hts _ h2⟩ ⟨fun a U g mk q => ⟨q.1, q.2.1, q.2.2.1.same (u := U) (U := U.calling g mk a) rfl, q.2.2.2⟩, fun U hU hW => ⟨rfl, by rw [hU], hK.warm hW, by rw [hU]; exact y_P1 hH⟩⟩ rfl rfl (by show ls.size = _; rw [hl.1, hnl]) rfl (lv_room hcat) hdg ⟨Nat.le_trans hcells hmc, Nat.le_trans hslots hms⟩) hS hF (fun α2 H1 locs1 hα h2 hz hk hS1 => ?_)
  exact K α2 hα H1 locs1 (y_join hH hF h2 hk) hS1
end YCR
