/-! THE JUDGEMENT: a fixed number of cells at addresses ad c (c an Int), what is in cell c is a function cd c of its row of ints; no cell comes or goes. -/
abbrev zM : Type := Int → Int → Int
def zup (μ : zM) (c i z : Int) : zM := fun c' i' => if c' = c ∧ i' = i then z else μ c' i'
def iZ (z : Int) : Int32 := Int32.ofInt z
abbrev zV : Type := Heap → List Loc → Nat → Array Slot → List Value → Prop
/-- the walk's judgement, the heap at its beginning, the cells that may be written, how many locals -/
abbrev zG : Type := zV × Heap × (Nat → Prop) × Nat
/-- the classes' numbers, the array classes, how many cells, their addresses, what they hold -/
abbrev zO : Type := va_G × (Nat → ClassId) × Nat × (Int → Nat) × (Int → (Int → Int) → va_E)
abbrev zcl : List vw_C := [(RX0, TX0, 8), (RX1, TX1, 8), (RX2, TX2, 12), (RX3, TX3, 4), (RX4, TX4, 2), (RX5, TX5, 5), (RX6, TX6, 8), (RX7, TX7, 5)]
abbrev zty (ca : Nat → ClassId) : List (ClassId × FieldType) := [(ca 0, .int), (ca 1, .char), (ca 2, .object RX6), (ca 3, .object RX0), (ca 4, .object RX2)]
def zws (ω : zO) (μ : zM) : va_W := (List.range ω.2.2.1).map (fun k : Nat => (ω.2.2.2.1 (k : Int), ω.2.2.2.2 (k : Int) (μ (k : Int))))
def zH (ω : zO) (A : Nat → Prop) (μ : zM) (H : Heap) : Prop := va_P ω.1 zcl (zws ω μ) H ∧ va_D A (zws ω μ)
def zNst : List Cond := [.methodLinkNest RX2 32 yX1_init RX7, .methodLinkNest RX2 37 yX6_init RX7, .methodLinkNest RX2 38 yX0_init RX7, .methodLinkNest RX7 28 yX5_init RX7, .methodLinkNest RX7 35 yX3_init RX7, .methodLinkNest RX2 65 yX7_isPort RX7, .methodLinkNest RX2 69 yX7_isIn RX7, .methodLinkNest RX2 149 yX7_divideUp RX7]
def zN (U : State) : Prop := ∀ w ∈ zNst, va_Nw w U
def zK (ω : zO) (U : State) : Prop := va_K ω.1 zcl (zty ω.2.1) U ∧ zN U
theorem zNst_tab : ∀ w ∈ zNst, w.onTables = true := by
  intro w hw
  simp only [zNst, List.mem_cons, List.not_mem_nil, or_false] at hw
  rcases hw with h | h | h | h | h | h | h | h <;> subst h <;> rfl
theorem zN.warm {s U : State} (hW : s.WarmedH U.vm) (h : zN s) : zN U := by
  intro w hw
  have h1 := h w hw
  simp only [zNst, List.mem_cons, List.not_mem_nil, or_false] at hw
  rcases hw with q | q | q | q | q | q | q | q <;> subst q <;> exact va_Nw.warmM hW h1
theorem zN.same {u U : State} (hvm : u.vm = U.vm) (h : zN u) : zN U := fun w hw => va_Nw.same (zNst_tab w hw) hvm (h w hw)
theorem zK.warm {ω : zO} {s U : State} (hW : s.WarmedH U.vm) (h : zK ω s) : zK ω U := ⟨va_K.moved hW.alike h.1, h.2.warm hW⟩
theorem zK.same {ω : zO} {u U : State} (hvm : u.vm = U.vm) (h : zK ω u) : zK ω U := ⟨va_K.moved (by rw [hvm]; exact Vm.Alike.refl _) h.1, h.2.same hvm⟩
/-! locals: the first pair of a slot counts -/
def zlk : List (Nat × Value) → Nat → Option Value
  | [], _ => none
  | q :: l, k => if q.1 = k then some q.2 else zlk l k
def zL (ls : Array Slot) (nL : Nat) (L : List (Nat × Value)) : Prop := ls.size = nL ∧ lv_wf ls ∧ ∀ (k : Nat) (v : Value), zlk L k = some v → ls[k]? = some (.val v)
def zcat (L : List (Nat × Value)) : Nat → Bool
  | 0 => true
  | i + 1 => match zlk L i with
    | some v => v.category == 1
    | none => true
def zdd (L : List (Nat × Value)) : List (Nat × Value) := L.filterMap (fun q => (zlk L q.1).map (fun v => (q.1, v)))
theorem zlk_mem {L : List (Nat × Value)} {k : Nat} {v : Value} (h : zlk L k = some v) : (k, v) ∈ L := by
  induction L with
  | nil => simp [zlk] at h
  | cons q l ih =>
    unfold zlk at h
    by_cases hq : q.1 = k
    · rw [if_pos hq] at h
      cases h
      subst hq
      exact List.mem_cons_self
    · rw [if_neg hq] at h
      exact List.mem_cons_of_mem _ (ih h)
theorem zdd_mem {L : List (Nat × Value)} {q : Nat × Value} : q ∈ zdd L ↔ zlk L q.1 = some q.2 := by
  constructor
  · intro h
    obtain ⟨a, ha, hb⟩ := List.mem_filterMap.mp h
    cases hz : zlk L a.1 with
    | none => rw [hz] at hb; cases hb
    | some v => rw [hz] at hb; cases hb; exact hz
  · intro h
    refine List.mem_filterMap.mpr ⟨q, zlk_mem h, ?_⟩
    rw [h]
    rfl
theorem zL.has {ls : Array Slot} {nL : Nat} {L : List (Nat × Value)} (h : zL ls nL L) : lv_has ls nL (zdd L) := ⟨h.1, h.2.1, fun q hq => h.2.2 q.1 q.2 (zdd_mem.mp hq)⟩
theorem zL.of {ls : Array Slot} {nL : Nat} {L : List (Nat × Value)} (h : lv_has ls nL L) : zL ls nL L := ⟨h.1, h.2.1, fun k v hk => h.2.2 (k, v) (zlk_mem hk)⟩
theorem zL.st {ls : Array Slot} {nL i : Nat} {v : Value} {L : List (Nat × Value)} (hc : zcat L i = true) (h : lv_has ls nL ((i, v) :: (zdd L).filter (fun q => !(q.1 == i) && !(q.1 + 1 == i && q.2.category == 2)))) : zL ls nL ((i, v) :: L) := by
  refine ⟨h.1, h.2.1, fun k v' hk => ?_⟩
  unfold zlk at hk
  by_cases hq : i = k
  · rw [if_pos hq] at hk
    cases hk
    subst hq
    exact h.2.2 _ List.mem_cons_self
  · rw [if_neg hq] at hk
    refine h.2.2 (k, v') (List.mem_cons_of_mem _ (List.mem_filter.mpr ⟨zdd_mem.mpr hk, ?_⟩))
    have h1 : (k == i) = false := by simpa using fun e => hq e.symm
    simp only [h1, Bool.not_false, Bool.true_and, Bool.not_eq_true']
    by_cases h2 : k + 1 = i
    · subst h2
      simp only [zcat, hk, beq_iff_eq] at hc
      simp [hc]
    · have : (k + 1 == i) = false := by simpa using h2
      simp [this]
theorem zL.st2 {ls : Array Slot} {nL i : Nat} {v : Value} {L : List (Nat × Value)} (hc : zcat L i = true) (hn : zlk L (i + 1) = none) (h : lv_has ls nL ((i, v) :: (zdd L).filter (fun q => !(q.1 == i) && (!(q.1 == i + 1) && !(q.1 + 1 == i && q.2.category == 2))))) : zL ls nL ((i, v) :: L) := by
  refine ⟨h.1, h.2.1, fun k v' hk => ?_⟩
  unfold zlk at hk
  by_cases hq : i = k
  · rw [if_pos hq] at hk
    cases hk
    subst hq
    exact h.2.2 _ List.mem_cons_self
  · rw [if_neg hq] at hk
    refine h.2.2 (k, v') (List.mem_cons_of_mem _ (List.mem_filter.mpr ⟨zdd_mem.mpr hk, ?_⟩))
    have h1 : (k == i) = false := by simpa using fun e => hq e.symm
    have h3 : (k == i + 1) = false := by
      have : ¬ k = i + 1 := fun e => by rw [e, hn] at hk; cases hk
      simpa using this
    simp only [h1, h3, Bool.not_false, Bool.true_and, Bool.not_eq_true']
    by_cases h2 : k + 1 = i
    · subst h2
      simp only [zcat, hk, beq_iff_eq] at hc
      simp [hc]
    · have : (k + 1 == i) = false := by simpa using h2
      simp [this]
/-- of two lists of locals the first says no more -/
def zsub : List (Nat × Value) → List (Nat × Value) → Prop
  | [], _ => True
  | q :: l, L => zlk L q.1 = some q.2 ∧ zsub l L
theorem zsub_lk {l L : List (Nat × Value)} (h : zsub l L) {k : Nat} {v : Value} (hk : zlk l k = some v) : zlk L k = some v := by
  induction l with
  | nil => simp [zlk] at hk
  | cons q l ih =>
    unfold zlk at hk
    by_cases hq : q.1 = k
    · rw [if_pos hq] at hk
      cases hk
      rw [← hq]
      exact h.1
    · rw [if_neg hq] at hk
      exact ih h.2 hk
def Z (Γ : zG) (ω : zO) (μ : zM) (pc : Nat) (L : List (Nat × Value)) (st : List Value) : Prop :=
  ∀ (H : Heap) (locs : List Loc) (ls : Array Slot), zH ω Γ.2.2.1 μ H → va_S Γ.2.2.1 Γ.2.1 H locs → zL ls Γ.2.2.2 L → Γ.1 H locs pc ls st
/-- a method's end: what it answers, and the memory behind it -/
def zQ (ω : zO) (A : Nat → Prop) (post : Option Value → zM → Prop) : Array Value → State → Outcome → State → Prop := fun _ st oc t => (∃ (v : Option Value) (μ' : zM), oc = .returned v ∧ post v μ' ∧ zH ω A μ' t.heap) ∧ va_F A st t
def zP (ω : zO) (A : Nat → Prop) (μ : zM) : State → Prop := fun U => zK ω U ∧ zH ω A μ U.heap
/-- what a walk knows of its machine -/
def zC (Γ : zG) (ω : zO) (own : String) (cc : ByteArray) (nL fr lo : Nat) (rt : Option FieldType) (post : Option Value → zM → Prop) : Prop :=
  ∃ (p : Program) (l : Launch) (e : Env) (R : Room) (s : State) (m : MethodId) (args : Array Value) (below : List Frame) (meth : Method) (c : Code),
    (Γ.1 = fun H locs pc ls st => W p l e R s m args below meth c H locs 0 0 (MQ below (zQ ω Γ.2.2.1 post) args s 0 0 Γ.2.2.1) (F0 m pc ls st)) ∧ Γ.2.1 = s.heap ∧ Γ.2.2.2 = nL ∧ p.tables.exec = Jvm.exec ∧ c.code = cc ∧ c.maxLocals = nL ∧ s.vm.findClass own = some m.cls ∧ (∀ w ∈ AL, w.before args s = true) ∧ zK ω s ∧ meth.sig.returnType = rt ∧ meth.locks = false ∧ fr ≤ R.frames ∧ lo ≤ R.locals
/-- a contract -/
abbrev zMet (l : Launch) (ω : zO) (A : Nat → Prop) (y : MethodName) (cc : ByteArray) (nL : Nat) (rt : Option FieldType) (fr lo : Nat) (vs : List Value) (μ : zM) (post : Option Value → zM → Prop) : Prop :=
  Met l y (.code y cc nL rt :: AL) { frames := fr, cells := 0, slots := 0, locals := lo } (va_Pc vs (zP ω A μ)) (zQ ω A post) 0 0 A
theorem zMet_of {l : Launch} {ω : zO} {A : Nat → Prop} {y : MethodName} {cc : ByteArray} {nL : Nat} {rt : Option FieldType} {fr lo : Nat} {vs : List Value} {μ : zM} {post : Option Value → zM → Prop} (hy : plainName y.cls = true) (hn : (lg_sl vs).length ≤ nL)
    (body : ∀ Γ : zG, zC Γ ω y.cls cc nL fr lo rt post → Z Γ ω μ 0 (lv_args 0 vs) []) : zMet l ω A y cc nL rt fr lo vs μ post := by
  refine Met.ofW (cc := cc) (maxL := nL) (ret := rt) hy rfl ?_
  intro p e s m args below meth c s₁ B hml hv
  obtain ⟨rfl, hK, hH⟩ := hv
  have hts := atoms_spec (ws := .code y cc nL rt :: AL) B.pre
  have hl := lv_entry vs hn
  rw [lg_entry_eq]
  exact body (fun H locs pc ls st => W p l e _ s m vs.toArray below meth c H locs 0 0 (MQ below (zQ ω A post) vs.toArray s 0 0 A) (F0 m pc ls st), s.heap, A, nL)
    ⟨p, l, e, _, s, m, vs.toArray, below, meth, c, rfl, rfl, rfl, B.exec, B.bytes, hml, findClass_of_methodNamed B.named, fun w h => hts w (List.mem_cons_of_mem _ h), hK, B.returns, B.notSynchronized, Nat.le_refl _, Nat.le_refl _⟩
    s.heap [] _ hH va_S.rf (zL.of hl)
/-! the world's list -/
theorem zws_at {ω : zO} {μ : zM} {c : Int} (h0 : 0 ≤ c) (hn : c < (ω.2.2.1 : Int)) : (zws ω μ)[c.toNat]? = some (ω.2.2.2.1 c, ω.2.2.2.2 c (μ c)) := by
  have h1 : c.toNat < ω.2.2.1 := by omega
  have h2 : ((c.toNat : Nat) : Int) = c := Int.toNat_of_nonneg h0
  simp only [zws, List.getElem?_map, List.getElem?_range h1, Option.map_some, h2]
theorem zws_set {ω : zO} {μ μ' : zM} {c : Int} {e : va_E} (h0 : 0 ≤ c) (hn : c < (ω.2.2.1 : Int)) (he : ω.2.2.2.2 c (μ' c) = e) (ho : ∀ c', c' ≠ c → μ' c' = μ c') : (zws ω μ).set c.toNat (ω.2.2.2.1 c, e) = zws ω μ' := by
  have h1 : c.toNat < ω.2.2.1 := by omega
  have h2 : ((c.toNat : Nat) : Int) = c := Int.toNat_of_nonneg h0
  apply List.ext_getElem?
  intro k
  rw [List.getElem?_set]
  by_cases hk : c.toNat = k
  · subst hk
    rw [if_pos rfl, if_pos (by simpa [zws] using h1), zws_at h0 hn, he]
  · rw [if_neg hk]
    by_cases hk2 : k < ω.2.2.1
    · have h3 : ((k : Nat) : Int) ≠ c := fun h => hk (by omega)
      simp only [zws, List.getElem?_map, List.getElem?_range hk2, Option.map_some, ho _ h3]
    · simp only [zws, List.getElem?_map, List.getElem?_eq_none (l := List.range ω.2.2.1) (by simpa using hk2), Option.map_none]
theorem zup_o {μ : zM} {c i z c' : Int} (h : c' ≠ c) : zup μ c i z c' = μ c' := by
  funext i'
  simp only [zup, h, false_and, if_false]
theorem zup_c {μ : zM} {c i z : Int} : zup μ c i z c = fun i' => if i' = i then z else μ c i' := by
  funext i'
  simp only [zup, true_and]
theorem zup_s {μ : zM} {c i z : Int} : zup μ c i z c i = z := by simp [zup]
theorem zup_n {μ : zM} {c i z c' i' : Int} (h : c' ≠ c ∨ i' ≠ i) : zup μ c i z c' i' = μ c' i' := by
  unfold zup
  rw [if_neg]
  omega
theorem zws_ad {ω : zO} {μ μ' : zM} (k : Nat) (q : Nat × va_E) (h : (zws ω μ')[k]? = some q) : ∃ q0, (zws ω μ)[k]? = some q0 ∧ q0.1 = q.1 := by
  by_cases hk : k < ω.2.2.1
  · simp only [zws, List.getElem?_map, List.getElem?_range hk, Option.map_some, Option.some.injEq] at h ⊢
    exact ⟨_, rfl, by rw [← h]⟩
  · simp [zws, List.getElem?_eq_none (l := List.range ω.2.2.1) (by simpa using hk)] at h
/-! ints -/
theorem iZ_add (a b : Int) : iZ a + iZ b = iZ (a + b) := (Int32.ofInt_add a b).symm
theorem iZ_sub (a b : Int) : iZ a - iZ b = iZ (a - b) := (Int32.ofInt_sub a b).symm
theorem iZ_mul (a b : Int) : iZ a * iZ b = iZ (a * b) := (Int32.ofInt_mul a b).symm
theorem iZ_neg (a : Int) : -iZ a = iZ (-a) := (Int32.ofInt_neg a).symm
theorem iZ_toInt {a : Int} (h : -2147483648 ≤ a ∧ a ≤ 2147483647) : (iZ a).toInt = a := Int32.toInt_ofInt_of_le (by simpa using h.1) (by have := h.2; show a < _; simp; omega)
theorem iZ_of (x : Int32) : ∃ z : Int, (-2147483648 ≤ z ∧ z ≤ 2147483647) ∧ x = iZ z := by
  refine ⟨x.toInt, ⟨by have := x.le_toInt; simpa using this, by have := x.toInt_lt; simp at this; omega⟩, (Int32.ofInt_toInt x).symm⟩
theorem iZ_lt {a b : Int} (ha : -2147483648 ≤ a ∧ a ≤ 2147483647) (hb : -2147483648 ≤ b ∧ b ≤ 2147483647) : iZ a < iZ b ↔ a < b := by rw [Int32.lt_iff_toInt_lt, iZ_toInt ha, iZ_toInt hb]
theorem iZ_le {a b : Int} (ha : -2147483648 ≤ a ∧ a ≤ 2147483647) (hb : -2147483648 ≤ b ∧ b ≤ 2147483647) : iZ a ≤ iZ b ↔ a ≤ b := by rw [Int32.le_iff_toInt_le, iZ_toInt ha, iZ_toInt hb]
theorem iZ_eq {a b : Int} (ha : -2147483648 ≤ a ∧ a ≤ 2147483647) (hb : -2147483648 ≤ b ∧ b ≤ 2147483647) : iZ a = iZ b ↔ a = b := by
  constructor
  · intro h
    have := congrArg Int32.toInt h
    rwa [iZ_toInt ha, iZ_toInt hb] at this
  · intro h; rw [h]
theorem iZ_0 : iZ 0 = 0 := rfl
theorem iZ_clamp {a : Int} (h0 : 0 ≤ a) (h : a ≤ 2147483647) : (iZ a).toNatClampNeg = a.toNat := by
  show (iZ a).toInt.toNat = _
  rw [iZ_toInt ⟨by omega, h⟩]
theorem iZ_in {a : Int} {n : Nat} (h0 : 0 ≤ a) (hn : a < (n : Int)) (hb : a ≤ 2147483647) : vp_in (iZ a) n := by
  refine vp_in_iff.mpr ?_
  rw [iZ_toInt ⟨by omega, hb⟩]
  exact ⟨h0, hn⟩
theorem iZ_div {a b : Int} (ha : 0 ≤ a ∧ a ≤ 2147483647) (hb : 0 < b ∧ b ≤ 2147483647) : iZ a / iZ b = iZ (a / b) := by
  have h1 : ((iZ a / iZ b).toInt) = (iZ a).toInt.tdiv (iZ b).toInt := by
    rw [Int32.toInt_div, iZ_toInt ⟨by omega, ha.2⟩, iZ_toInt ⟨by omega, hb.2⟩]
    rw [Int.tdiv_eq_ediv_of_nonneg ha.1]
    have h2 : a / b ≤ a := Int.ediv_le_self b ha.1
    have h3 : 0 ≤ a / b := Int.ediv_nonneg ha.1 (by omega)
    rw [Int.bmod_eq_of_le (by omega) (by omega)]
  rw [iZ_toInt ⟨by omega, ha.2⟩, iZ_toInt ⟨by omega, hb.2⟩, Int.tdiv_eq_ediv_of_nonneg ha.1] at h1
  apply Int32.toInt.inj
  have h2 : a / b ≤ a := Int.ediv_le_self b ha.1
  have h3 : 0 ≤ a / b := Int.ediv_nonneg ha.1 (by omega)
  rw [h1, iZ_toInt ⟨by omega, by omega⟩]

section ZR
variable {Γ : zG} {ω : zO} {own : String} {cc : ByteArray} {nL fr lo : Nat} {rt : Option FieldType} {post : Option Value → zM → Prop} {μ : zM} {pc : Nat} {L : List (Nat × Value)} {st : List Value}
theorem z_iload_n (h : zC Γ ω own cc nL fr lo rt post) {k : Fin 4} {x : Int32} (hdg : decode cc pc = .ok (.iload_n k, 1)) (hl0 : zlk L k = some (.int x)) (kk : Z Γ ω μ (pc + 1) L (.int x :: st)) : Z Γ ω μ pc L st := by
  obtain ⟨p, l, e, R, s, m, args, below, meth, c, hV, hH0, hnl, hx, hb, hml, hown, hts, hK, hr, hlk, hfr, hlo⟩ := h
  intro H locs ls hH hS hl
  rw [hV]
  have K := kk H locs ls hH hS hl
  rw [hV] at K
  refine lv_iload_n hx hb hdg rfl (hl.2.2 _ _ hl0) ?_
  exact K
theorem z_iload (h : zC Γ ω own cc nL fr lo rt post) {k : Nat} {x : Int32} (hdg : decode cc pc = .ok (.iload k, 2)) (hl0 : zlk L k = some (.int x)) (kk : Z Γ ω μ (pc + 2) L (.int x :: st)) : Z Γ ω μ pc L st := by
  obtain ⟨p, l, e, R, s, m, args, below, meth, c, hV, hH0, hnl, hx, hb, hml, hown, hts, hK, hr, hlk, hfr, hlo⟩ := h
  intro H locs ls hH hS hl
  rw [hV]
  have K := kk H locs ls hH hS hl
  rw [hV] at K
  refine lv_iload hx hb hdg (hl.2.2 _ _ hl0) ?_
  exact K
theorem z_istore_n (h : zC Γ ω own cc nL fr lo rt post) {k : Fin 4} {x : Int32} (hdg : decode cc pc = .ok (.istore_n k, 1)) (hn : (k : Nat) < nL) (hc : zcat L (k : Nat) = true) (kk : Z Γ ω μ (pc + 1) (((k : Nat), .int x) :: L) st) : Z Γ ω μ pc L (.int x :: st) := by
  obtain ⟨p, l, e, R, s, m, args, below, meth, c, hV, hH0, hnl, hx, hb, hml, hown, hts, hK, hr, hlk, hfr, hlo⟩ := h
  intro H locs ls hH hS hl
  rw [hV]
  refine lv_istore_n hx hb hdg rfl hl.has (by omega) rfl (fun ls9 h9 => ?_)
  have K := kk H locs ls9 hH hS (zL.st hc h9)
  rw [hV] at K
  exact K
theorem z_istore (h : zC Γ ω own cc nL fr lo rt post) {k : Nat} {x : Int32} (hdg : decode cc pc = .ok (.istore k, 2)) (hn : k < nL) (hc : zcat L k = true) (kk : Z Γ ω μ (pc + 2) ((k, .int x) :: L) st) : Z Γ ω μ pc L (.int x :: st) := by
  obtain ⟨p, l, e, R, s, m, args, below, meth, c, hV, hH0, hnl, hx, hb, hml, hown, hts, hK, hr, hlk, hfr, hlo⟩ := h
  intro H locs ls hH hS hl
  rw [hV]
  refine lv_istore hx hb hdg hl.has (by omega) rfl (fun ls9 h9 => ?_)
  have K := kk H locs ls9 hH hS (zL.st hc h9)
  rw [hV] at K
  exact K
theorem z_aload_n (h : zC Γ ω own cc nL fr lo rt post) {k : Fin 4} {x : Nat} (hdg : decode cc pc = .ok (.aload_n k, 1)) (hl0 : zlk L k = some (.ref x)) (kk : Z Γ ω μ (pc + 1) L (.ref x :: st)) : Z Γ ω μ pc L st := by
  obtain ⟨p, l, e, R, s, m, args, below, meth, c, hV, hH0, hnl, hx, hb, hml, hown, hts, hK, hr, hlk, hfr, hlo⟩ := h
  intro H locs ls hH hS hl
  rw [hV]
  have K := kk H locs ls hH hS hl
  rw [hV] at K
  refine lv_aload_n hx hb hdg rfl (hl.2.2 _ _ hl0) ?_
  exact K
theorem z_aload (h : zC Γ ω own cc nL fr lo rt post) {k : Nat} {x : Nat} (hdg : decode cc pc = .ok (.aload k, 2)) (hl0 : zlk L k = some (.ref x)) (kk : Z Γ ω μ (pc + 2) L (.ref x :: st)) : Z Γ ω μ pc L st := by
  obtain ⟨p, l, e, R, s, m, args, below, meth, c, hV, hH0, hnl, hx, hb, hml, hown, hts, hK, hr, hlk, hfr, hlo⟩ := h
  intro H locs ls hH hS hl
  rw [hV]
  have K := kk H locs ls hH hS hl
  rw [hV] at K
  refine lv_aload hx hb hdg (hl.2.2 _ _ hl0) ?_
  exact K
theorem z_astore_n (h : zC Γ ω own cc nL fr lo rt post) {k : Fin 4} {x : Nat} (hdg : decode cc pc = .ok (.astore_n k, 1)) (hn : (k : Nat) < nL) (hc : zcat L (k : Nat) = true) (kk : Z Γ ω μ (pc + 1) (((k : Nat), .ref x) :: L) st) : Z Γ ω μ pc L (.ref x :: st) := by
  obtain ⟨p, l, e, R, s, m, args, below, meth, c, hV, hH0, hnl, hx, hb, hml, hown, hts, hK, hr, hlk, hfr, hlo⟩ := h
  intro H locs ls hH hS hl
  rw [hV]
  refine lv_astore_n hx hb hdg rfl hl.has (by omega) rfl (fun ls9 h9 => ?_)
  have K := kk H locs ls9 hH hS (zL.st hc h9)
  rw [hV] at K
  exact K
theorem z_astore (h : zC Γ ω own cc nL fr lo rt post) {k : Nat} {x : Nat} (hdg : decode cc pc = .ok (.astore k, 2)) (hn : k < nL) (hc : zcat L k = true) (kk : Z Γ ω μ (pc + 2) ((k, .ref x) :: L) st) : Z Γ ω μ pc L (.ref x :: st) := by
  obtain ⟨p, l, e, R, s, m, args, below, meth, c, hV, hH0, hnl, hx, hb, hml, hown, hts, hK, hr, hlk, hfr, hlo⟩ := h
  intro H locs ls hH hS hl
  rw [hV]
  refine lv_astore hx hb hdg hl.has (by omega) rfl (fun ls9 h9 => ?_)
  have K := kk H locs ls9 hH hS (zL.st hc h9)
  rw [hV] at K
  exact K
theorem z_fload_n (h : zC Γ ω own cc nL fr lo rt post) {k : Fin 4} {x : UInt32} (hdg : decode cc pc = .ok (.fload_n k, 1)) (hl0 : zlk L k = some (.float x)) (kk : Z Γ ω μ (pc + 1) L (.float x :: st)) : Z Γ ω μ pc L st := by
  obtain ⟨p, l, e, R, s, m, args, below, meth, c, hV, hH0, hnl, hx, hb, hml, hown, hts, hK, hr, hlk, hfr, hlo⟩ := h
  intro H locs ls hH hS hl
  rw [hV]
  have K := kk H locs ls hH hS hl
  rw [hV] at K
  refine lv_fload_n hx hb hdg rfl (hl.2.2 _ _ hl0) ?_
  exact K
theorem z_fstore_n (h : zC Γ ω own cc nL fr lo rt post) {k : Fin 4} {x : UInt32} (hdg : decode cc pc = .ok (.fstore_n k, 1)) (hn : (k : Nat) < nL) (hc : zcat L (k : Nat) = true) (kk : Z Γ ω μ (pc + 1) (((k : Nat), .float x) :: L) st) : Z Γ ω μ pc L (.float x :: st) := by
  obtain ⟨p, l, e, R, s, m, args, below, meth, c, hV, hH0, hnl, hx, hb, hml, hown, hts, hK, hr, hlk, hfr, hlo⟩ := h
  intro H locs ls hH hS hl
  rw [hV]
  refine lv_fstore_n hx hb hdg rfl hl.has (by omega) rfl (fun ls9 h9 => ?_)
  have K := kk H locs ls9 hH hS (zL.st hc h9)
  rw [hV] at K
  exact K
theorem z_fstore (h : zC Γ ω own cc nL fr lo rt post) {k : Nat} {x : UInt32} (hdg : decode cc pc = .ok (.fstore k, 2)) (hn : k < nL) (hc : zcat L k = true) (kk : Z Γ ω μ (pc + 2) ((k, .float x) :: L) st) : Z Γ ω μ pc L (.float x :: st) := by
  obtain ⟨p, l, e, R, s, m, args, below, meth, c, hV, hH0, hnl, hx, hb, hml, hown, hts, hK, hr, hlk, hfr, hlo⟩ := h
  intro H locs ls hH hS hl
  rw [hV]
  refine lv_fstore hx hb hdg hl.has (by omega) rfl (fun ls9 h9 => ?_)
  have K := kk H locs ls9 hH hS (zL.st hc h9)
  rw [hV] at K
  exact K
theorem z_lload_n (h : zC Γ ω own cc nL fr lo rt post) {k : Fin 4} {x : Int64} (hdg : decode cc pc = .ok (.lload_n k, 1)) (hl0 : zlk L k = some (.long x)) (kk : Z Γ ω μ (pc + 1) L (.long x :: st)) : Z Γ ω μ pc L st := by
  obtain ⟨p, l, e, R, s, m, args, below, meth, c, hV, hH0, hnl, hx, hb, hml, hown, hts, hK, hr, hlk, hfr, hlo⟩ := h
  intro H locs ls hH hS hl
  rw [hV]
  have K := kk H locs ls hH hS hl
  rw [hV] at K
  refine lv_lload_n hx hb hdg rfl (hl.2.2 _ _ hl0) ?_
  exact K
theorem z_lload (h : zC Γ ω own cc nL fr lo rt post) {k : Nat} {x : Int64} (hdg : decode cc pc = .ok (.lload k, 2)) (hl0 : zlk L k = some (.long x)) (kk : Z Γ ω μ (pc + 2) L (.long x :: st)) : Z Γ ω μ pc L st := by
  obtain ⟨p, l, e, R, s, m, args, below, meth, c, hV, hH0, hnl, hx, hb, hml, hown, hts, hK, hr, hlk, hfr, hlo⟩ := h
  intro H locs ls hH hS hl
  rw [hV]
  have K := kk H locs ls hH hS hl
  rw [hV] at K
  refine lv_lload hx hb hdg (hl.2.2 _ _ hl0) ?_
  exact K
theorem z_lstore_n (h : zC Γ ω own cc nL fr lo rt post) {k : Fin 4} {x : Int64} (hdg : decode cc pc = .ok (.lstore_n k, 1)) (hn : (k : Nat) + 1 < nL) (hc : zcat L (k : Nat) = true) (hn2 : zlk L ((k : Nat) + 1) = none) (kk : Z Γ ω μ (pc + 1) (((k : Nat), .long x) :: L) st) : Z Γ ω μ pc L (.long x :: st) := by
  obtain ⟨p, l, e, R, s, m, args, below, meth, c, hV, hH0, hnl, hx, hb, hml, hown, hts, hK, hr, hlk, hfr, hlo⟩ := h
  intro H locs ls hH hS hl
  rw [hV]
  refine lv_lstore_n hx hb hdg rfl hl.has (by omega) rfl (fun ls9 h9 => ?_)
  have K := kk H locs ls9 hH hS (zL.st2 hc hn2 h9)
  rw [hV] at K
  exact K
theorem z_lstore (h : zC Γ ω own cc nL fr lo rt post) {k : Nat} {x : Int64} (hdg : decode cc pc = .ok (.lstore k, 2)) (hn : k + 1 < nL) (hc : zcat L k = true) (hn2 : zlk L (k + 1) = none) (kk : Z Γ ω μ (pc + 2) ((k, .long x) :: L) st) : Z Γ ω μ pc L (.long x :: st) := by
  obtain ⟨p, l, e, R, s, m, args, below, meth, c, hV, hH0, hnl, hx, hb, hml, hown, hts, hK, hr, hlk, hfr, hlo⟩ := h
  intro H locs ls hH hS hl
  rw [hV]
  refine lv_lstore hx hb hdg hl.has (by omega) rfl (fun ls9 h9 => ?_)
  have K := kk H locs ls9 hH hS (zL.st2 hc hn2 h9)
  rw [hV] at K
  exact K
theorem z_iinc (h : zC Γ ω own cc nL fr lo rt post) {k : Nat} {n x : Int} (hdg : decode cc pc = .ok (.iinc k n, 3)) (hl0 : zlk L k = some (.int (iZ x))) (hn : k < nL) (hc : zcat L k = true) (kk : Z Γ ω μ (pc + 3) ((k, .int (iZ (x + n))) :: L) st) : Z Γ ω μ pc L st := by
  obtain ⟨p, l, e, R, s, m, args, below, meth, c, hV, hH0, hnl, hx, hb, hml, hown, hts, hK, hr, hlk, hfr, hlo⟩ := h
  intro H locs ls hH hS hl
  rw [hV]
  obtain ⟨j, hj⟩ := List.getElem?_of_mem (zdd_mem (q := (k, .int (iZ x))) |>.mpr hl0)
  refine lv_iinc hx hb hdg hl.has hj (iZ_add x n) (by omega) rfl (fun ls9 h9 => ?_)
  have K := kk H locs ls9 hH hS (zL.st hc h9)
  rw [hV] at K
  exact K
theorem z_iconst (h : zC Γ ω own cc nL fr lo rt post) {n : Int} (hdg : decode cc pc = .ok (.iconst n, 1)) (kk : Z Γ ω μ (pc + 1) L (.int (iZ n) :: st)) : Z Γ ω μ pc L st := by
  obtain ⟨p, l, e, R, s, m, args, below, meth, c, hV, hH0, hnl, hx, hb, hml, hown, hts, hK, hr, hlk, hfr, hlo⟩ := h
  intro H locs ls hH hS hl
  rw [hV]
  have K := kk H locs ls hH hS hl
  rw [hV] at K
  refine lv_iconst hx hb hdg rfl ?_
  exact K
theorem z_bipush (h : zC Γ ω own cc nL fr lo rt post) {n : Int} (hdg : decode cc pc = .ok (.bipush n, 2)) (hv : (Int8.ofInt n).toInt32 = iZ n) (kk : Z Γ ω μ (pc + 2) L (.int (iZ n) :: st)) : Z Γ ω μ pc L st := by
  obtain ⟨p, l, e, R, s, m, args, below, meth, c, hV, hH0, hnl, hx, hb, hml, hown, hts, hK, hr, hlk, hfr, hlo⟩ := h
  intro H locs ls hH hS hl
  rw [hV]
  have K := kk H locs ls hH hS hl
  rw [hV] at K
  refine lv_bipush hx hb hdg hv ?_
  exact K
theorem z_sipush (h : zC Γ ω own cc nL fr lo rt post) {n : Int} (hdg : decode cc pc = .ok (.sipush n, 3)) (hv : (Int16.ofInt n).toInt32 = iZ n) (kk : Z Γ ω μ (pc + 3) L (.int (iZ n) :: st)) : Z Γ ω μ pc L st := by
  obtain ⟨p, l, e, R, s, m, args, below, meth, c, hV, hH0, hnl, hx, hb, hml, hown, hts, hK, hr, hlk, hfr, hlo⟩ := h
  intro H locs ls hH hS hl
  rw [hV]
  have K := kk H locs ls hH hS hl
  rw [hV] at K
  refine lv_sipush hx hb hdg hv ?_
  exact K
theorem z_ldc (h : zC Γ ω own cc nL fr lo rt post) {i : Nat} {v : Int32} (n : Int) (hw : Cond.constant own i v ∈ AL) (hv : v = iZ n) (hdg : decode cc pc = .ok (.ldc i, 2)) (kk : Z Γ ω μ (pc + 2) L (.int (iZ n) :: st)) : Z Γ ω μ pc L st := by
  obtain ⟨p, l, e, R, s, m, args, below, meth, c, hV, hH0, hnl, hx, hb, hml, hown, hts, hK, hr, hlk, hfr, hlo⟩ := h
  intro H locs ls hH hS hl
  rw [hV]
  subst hv
  have K := kk H locs ls hH hS hl
  rw [hV] at K
  refine lv_ldc hx hb hown (hts _ hw) hdg ?_
  exact K
theorem z_ldcw (h : zC Γ ω own cc nL fr lo rt post) {i : Nat} {v : Int32} (n : Int) (hw : Cond.constant own i v ∈ AL) (hv : v = iZ n) (hdg : decode cc pc = .ok (.ldc_w i, 3)) (kk : Z Γ ω μ (pc + 3) L (.int (iZ n) :: st)) : Z Γ ω μ pc L st := by
  obtain ⟨p, l, e, R, s, m, args, below, meth, c, hV, hH0, hnl, hx, hb, hml, hown, hts, hK, hr, hlk, hfr, hlo⟩ := h
  intro H locs ls hH hS hl
  rw [hV]
  subst hv
  have K := kk H locs ls hH hS hl
  rw [hV] at K
  refine lv_ldcw hx hb hown (hts _ hw) hdg ?_
  exact K
theorem z_ldcf (h : zC Γ ω own cc nL fr lo rt post) {i : Nat} {v : UInt32} (hw : Cond.constantFloat own i v ∈ AL) (hdg : decode cc pc = .ok (.ldc i, 2)) (kk : Z Γ ω μ (pc + 2) L (.float v :: st)) : Z Γ ω μ pc L st := by
  obtain ⟨p, l, e, R, s, m, args, below, meth, c, hV, hH0, hnl, hx, hb, hml, hown, hts, hK, hr, hlk, hfr, hlo⟩ := h
  intro H locs ls hH hS hl
  rw [hV]
  have K := kk H locs ls hH hS hl
  rw [hV] at K
  refine lv_ldcf hx hb hown (hts _ hw) hdg ?_
  exact K
theorem z_ldc2 (h : zC Γ ω own cc nL fr lo rt post) {i : Nat} {v : Int64} (hw : Cond.constantLong own i v ∈ AL) (hdg : decode cc pc = .ok (.ldc2_w i, 3)) (kk : Z Γ ω μ (pc + 3) L (.long v :: st)) : Z Γ ω μ pc L st := by
  obtain ⟨p, l, e, R, s, m, args, below, meth, c, hV, hH0, hnl, hx, hb, hml, hown, hts, hK, hr, hlk, hfr, hlo⟩ := h
  intro H locs ls hH hS hl
  rw [hV]
  have K := kk H locs ls hH hS hl
  rw [hV] at K
  refine lv_ldc2 hx hb hown (hts _ hw) hdg ?_
  exact K
theorem z_lconst (h : zC Γ ω own cc nL fr lo rt post) {n : Fin 2} {v : Int64} (hdg : decode cc pc = .ok (.lconst n, 1)) (hv : Int64.ofNat (n : Nat) = v) (kk : Z Γ ω μ (pc + 1) L (.long v :: st)) : Z Γ ω μ pc L st := by
  obtain ⟨p, l, e, R, s, m, args, below, meth, c, hV, hH0, hnl, hx, hb, hml, hown, hts, hK, hr, hlk, hfr, hlo⟩ := h
  intro H locs ls hH hS hl
  rw [hV]
  have K := kk H locs ls hH hS hl
  rw [hV] at K
  refine lv_lconst hx hb hdg hv ?_
  exact K
theorem z_iadd (h : zC Γ ω own cc nL fr lo rt post) {a b : Int} (hdg : decode cc pc = .ok (.iadd, 1)) (kk : Z Γ ω μ (pc + 1) L (.int (iZ (a + b)) :: st)) : Z Γ ω μ pc L (.int (iZ b) :: .int (iZ a) :: st) := by
  obtain ⟨p, l, e, R, s, m, args, below, meth, c, hV, hH0, hnl, hx, hb, hml, hown, hts, hK, hr, hlk, hfr, hlo⟩ := h
  intro H locs ls hH hS hl
  rw [hV]
  have K := kk H locs ls hH hS hl
  rw [hV] at K
  refine lv_iadd hx hb hdg ?_
  rw [iZ_add]
  exact K
theorem z_isub (h : zC Γ ω own cc nL fr lo rt post) {a b : Int} (hdg : decode cc pc = .ok (.isub, 1)) (kk : Z Γ ω μ (pc + 1) L (.int (iZ (a - b)) :: st)) : Z Γ ω μ pc L (.int (iZ b) :: .int (iZ a) :: st) := by
  obtain ⟨p, l, e, R, s, m, args, below, meth, c, hV, hH0, hnl, hx, hb, hml, hown, hts, hK, hr, hlk, hfr, hlo⟩ := h
  intro H locs ls hH hS hl
  rw [hV]
  have K := kk H locs ls hH hS hl
  rw [hV] at K
  refine lv_isub hx hb hdg ?_
  rw [iZ_sub]
  exact K
theorem z_imul (h : zC Γ ω own cc nL fr lo rt post) {a b : Int} (hdg : decode cc pc = .ok (.imul, 1)) (kk : Z Γ ω μ (pc + 1) L (.int (iZ (a * b)) :: st)) : Z Γ ω μ pc L (.int (iZ b) :: .int (iZ a) :: st) := by
  obtain ⟨p, l, e, R, s, m, args, below, meth, c, hV, hH0, hnl, hx, hb, hml, hown, hts, hK, hr, hlk, hfr, hlo⟩ := h
  intro H locs ls hH hS hl
  rw [hV]
  have K := kk H locs ls hH hS hl
  rw [hV] at K
  refine lv_imul hx hb hdg ?_
  rw [iZ_mul]
  exact K
theorem z_ineg (h : zC Γ ω own cc nL fr lo rt post) {a : Int} (hdg : decode cc pc = .ok (.ineg, 1)) (kk : Z Γ ω μ (pc + 1) L (.int (iZ (-a)) :: st)) : Z Γ ω μ pc L (.int (iZ a) :: st) := by
  obtain ⟨p, l, e, R, s, m, args, below, meth, c, hV, hH0, hnl, hx, hb, hml, hown, hts, hK, hr, hlk, hfr, hlo⟩ := h
  intro H locs ls hH hS hl
  rw [hV]
  have K := kk H locs ls hH hS hl
  rw [hV] at K
  refine lv_ineg hx hb hdg ?_
  rw [iZ_neg]
  exact K
theorem z_idiv (h : zC Γ ω own cc nL fr lo rt post) {a b : Int} (hdg : decode cc pc = .ok (.idiv, 1)) (ha : 0 ≤ a ∧ a ≤ 2147483647) (hb0 : 0 < b ∧ b ≤ 2147483647) (kk : Z Γ ω μ (pc + 1) L (.int (iZ (a / b)) :: st)) : Z Γ ω μ pc L (.int (iZ b) :: .int (iZ a) :: st) := by
  obtain ⟨p, l, e, R, s, m, args, below, meth, c, hV, hH0, hnl, hx, hb, hml, hown, hts, hK, hr, hlk, hfr, hlo⟩ := h
  intro H locs ls hH hS hl
  rw [hV]
  have K := kk H locs ls hH hS hl
  rw [hV] at K
  refine lv_idiv hx hb hdg (fun q => ?_) ?_
  · have := (iZ_eq (a := b) (b := 0) ⟨by omega, hb0.2⟩ ⟨by omega, by omega⟩).mp q
    omega
  · rw [iZ_div ha hb0]
    exact K
theorem z_irem (h : zC Γ ω own cc nL fr lo rt post) {a b : Int} (hdg : decode cc pc = .ok (.irem, 1)) (ha : 0 ≤ a ∧ a ≤ 2147483647) (hb0 : 0 < b ∧ b ≤ 2147483647) (kk : Z Γ ω μ (pc + 1) L (.int (iZ (a % b)) :: st)) : Z Γ ω μ pc L (.int (iZ b) :: .int (iZ a) :: st) := by
  obtain ⟨p, l, e, R, s, m, args, below, meth, c, hV, hH0, hnl, hx, hb, hml, hown, hts, hK, hr, hlk, hfr, hlo⟩ := h
  intro H locs ls hH hS hl
  rw [hV]
  have K := kk H locs ls hH hS hl
  rw [hV] at K
  refine lv_irem hx hb hdg (fun q => ?_) ?_
  · have := (iZ_eq (a := b) (b := 0) ⟨by omega, hb0.2⟩ ⟨by omega, by omega⟩).mp q
    omega
  · rw [iZ_div ha hb0, iZ_mul, iZ_sub, show a - a / b * b = a % b by rw [Int.emod_def, Int.mul_comm]]
    exact K
theorem z_ladd (h : zC Γ ω own cc nL fr lo rt post) {a b : Int64} (hdg : decode cc pc = .ok (.ladd, 1)) (kk : Z Γ ω μ (pc + 1) L (.long (a + b) :: st)) : Z Γ ω μ pc L (.long b :: .long a :: st) := by
  obtain ⟨p, l, e, R, s, m, args, below, meth, c, hV, hH0, hnl, hx, hb, hml, hown, hts, hK, hr, hlk, hfr, hlo⟩ := h
  intro H locs ls hH hS hl
  rw [hV]
  have K := kk H locs ls hH hS hl
  rw [hV] at K
  refine lv_ladd hx hb hdg ?_
  exact K
theorem z_lsub (h : zC Γ ω own cc nL fr lo rt post) {a b : Int64} (hdg : decode cc pc = .ok (.lsub, 1)) (kk : Z Γ ω μ (pc + 1) L (.long (a - b) :: st)) : Z Γ ω μ pc L (.long b :: .long a :: st) := by
  obtain ⟨p, l, e, R, s, m, args, below, meth, c, hV, hH0, hnl, hx, hb, hml, hown, hts, hK, hr, hlk, hfr, hlo⟩ := h
  intro H locs ls hH hS hl
  rw [hV]
  have K := kk H locs ls hH hS hl
  rw [hV] at K
  refine lv_lsub hx hb hdg ?_
  exact K
theorem z_land (h : zC Γ ω own cc nL fr lo rt post) {a b : Int64} (hdg : decode cc pc = .ok (.land, 1)) (kk : Z Γ ω μ (pc + 1) L (.long (a &&& b) :: st)) : Z Γ ω μ pc L (.long b :: .long a :: st) := by
  obtain ⟨p, l, e, R, s, m, args, below, meth, c, hV, hH0, hnl, hx, hb, hml, hown, hts, hK, hr, hlk, hfr, hlo⟩ := h
  intro H locs ls hH hS hl
  rw [hV]
  have K := kk H locs ls hH hS hl
  rw [hV] at K
  refine lv_land hx hb hdg ?_
  exact K
theorem z_lor (h : zC Γ ω own cc nL fr lo rt post) {a b : Int64} (hdg : decode cc pc = .ok (.lor, 1)) (kk : Z Γ ω μ (pc + 1) L (.long (a ||| b) :: st)) : Z Γ ω μ pc L (.long b :: .long a :: st) := by
  obtain ⟨p, l, e, R, s, m, args, below, meth, c, hV, hH0, hnl, hx, hb, hml, hown, hts, hK, hr, hlk, hfr, hlo⟩ := h
  intro H locs ls hH hS hl
  rw [hV]
  have K := kk H locs ls hH hS hl
  rw [hV] at K
  refine lv_lor hx hb hdg ?_
  exact K
theorem z_lshl (h : zC Γ ω own cc nL fr lo rt post) {a v : Int64} {b : Int32} (hdg : decode cc pc = .ok (.lshl, 1)) (hv : a <<< (b.toInt64 &&& 63) = v) (kk : Z Γ ω μ (pc + 1) L (.long v :: st)) : Z Γ ω μ pc L (.int b :: .long a :: st) := by
  obtain ⟨p, l, e, R, s, m, args, below, meth, c, hV, hH0, hnl, hx, hb, hml, hown, hts, hK, hr, hlk, hfr, hlo⟩ := h
  intro H locs ls hH hS hl
  rw [hV]
  have K := kk H locs ls hH hS hl
  rw [hV] at K
  refine lv_lshl hx hb hdg hv ?_
  exact K
theorem z_lshr (h : zC Γ ω own cc nL fr lo rt post) {a v : Int64} {b : Int32} (hdg : decode cc pc = .ok (.lshr, 1)) (hv : a >>> (b.toInt64 &&& 63) = v) (kk : Z Γ ω μ (pc + 1) L (.long v :: st)) : Z Γ ω μ pc L (.int b :: .long a :: st) := by
  obtain ⟨p, l, e, R, s, m, args, below, meth, c, hV, hH0, hnl, hx, hb, hml, hown, hts, hK, hr, hlk, hfr, hlo⟩ := h
  intro H locs ls hH hS hl
  rw [hV]
  have K := kk H locs ls hH hS hl
  rw [hV] at K
  refine lv_lshr hx hb hdg hv ?_
  exact K
theorem z_lushr (h : zC Γ ω own cc nL fr lo rt post) {a v : Int64} {b : Int32} (hdg : decode cc pc = .ok (.lushr, 1)) (hv : (a.toUInt64 >>> (b.toInt64.toUInt64 &&& Int64.toUInt64 63)).toInt64 = v) (kk : Z Γ ω μ (pc + 1) L (.long v :: st)) : Z Γ ω μ pc L (.int b :: .long a :: st) := by
  obtain ⟨p, l, e, R, s, m, args, below, meth, c, hV, hH0, hnl, hx, hb, hml, hown, hts, hK, hr, hlk, hfr, hlo⟩ := h
  intro H locs ls hH hS hl
  rw [hV]
  have K := kk H locs ls hH hS hl
  rw [hV] at K
  refine lv_lushr hx hb hdg hv ?_
  exact K
theorem z_l2i (h : zC Γ ω own cc nL fr lo rt post) {a : Int64} {v : Int32} (hdg : decode cc pc = .ok (.l2i, 1)) (hv : a.toInt32 = v) (kk : Z Γ ω μ (pc + 1) L (.int v :: st)) : Z Γ ω μ pc L (.long a :: st) := by
  obtain ⟨p, l, e, R, s, m, args, below, meth, c, hV, hH0, hnl, hx, hb, hml, hown, hts, hK, hr, hlk, hfr, hlo⟩ := h
  intro H locs ls hH hS hl
  rw [hV]
  have K := kk H locs ls hH hS hl
  rw [hV] at K
  refine lv_l2i hx hb hdg hv ?_
  exact K
theorem z_iand (h : zC Γ ω own cc nL fr lo rt post) {a b : Int32} (hdg : decode cc pc = .ok (.iand, 1)) (kk : Z Γ ω μ (pc + 1) L (.int (a &&& b) :: st)) : Z Γ ω μ pc L (.int b :: .int a :: st) := by
  obtain ⟨p, l, e, R, s, m, args, below, meth, c, hV, hH0, hnl, hx, hb, hml, hown, hts, hK, hr, hlk, hfr, hlo⟩ := h
  intro H locs ls hH hS hl
  rw [hV]
  have K := kk H locs ls hH hS hl
  rw [hV] at K
  refine lv_iand hx hb hdg ?_
  exact K
theorem z_ior (h : zC Γ ω own cc nL fr lo rt post) {a b : Int32} (hdg : decode cc pc = .ok (.ior, 1)) (kk : Z Γ ω μ (pc + 1) L (.int (a ||| b) :: st)) : Z Γ ω μ pc L (.int b :: .int a :: st) := by
  obtain ⟨p, l, e, R, s, m, args, below, meth, c, hV, hH0, hnl, hx, hb, hml, hown, hts, hK, hr, hlk, hfr, hlo⟩ := h
  intro H locs ls hH hS hl
  rw [hV]
  have K := kk H locs ls hH hS hl
  rw [hV] at K
  refine lv_ior hx hb hdg ?_
  exact K
theorem z_ishl (h : zC Γ ω own cc nL fr lo rt post) {a b : Int32} (hdg : decode cc pc = .ok (.ishl, 1)) (kk : Z Γ ω μ (pc + 1) L (.int (a <<< (b &&& 31)) :: st)) : Z Γ ω μ pc L (.int b :: .int a :: st) := by
  obtain ⟨p, l, e, R, s, m, args, below, meth, c, hV, hH0, hnl, hx, hb, hml, hown, hts, hK, hr, hlk, hfr, hlo⟩ := h
  intro H locs ls hH hS hl
  rw [hV]
  have K := kk H locs ls hH hS hl
  rw [hV] at K
  refine lv_ishl hx hb hdg ?_
  exact K
theorem z_i2c (h : zC Γ ω own cc nL fr lo rt post) {a : Int} (hdg : decode cc pc = .ok (.i2c, 1)) (ha : 0 ≤ a ∧ a ≤ 65535) (kk : Z Γ ω μ (pc + 1) L (.int (iZ a) :: st)) : Z Γ ω μ pc L (.int (iZ a) :: st) := by
  obtain ⟨p, l, e, R, s, m, args, below, meth, c, hV, hH0, hnl, hx, hb, hml, hown, hts, hK, hr, hlk, hfr, hlo⟩ := h
  intro H locs ls hH hS hl
  rw [hV]
  have K := kk H locs ls hH hS hl
  rw [hV] at K
  refine lv_i2c hx hb hdg ?_ K
  obtain ⟨n, rfl⟩ := Int.eq_ofNat_of_zero_le ha.1
  have h1 : iZ (n : Int) = nI n := rfl
  rw [h1, pk_char, pk_tn (by omega), Nat.mod_eq_of_lt (by omega)]
theorem z_dup (h : zC Γ ω own cc nL fr lo rt post) {v : Value} (hdg : decode cc pc = .ok (.dup, 1)) (hv : v.category = 1) (kk : Z Γ ω μ (pc + 1) L (v :: v :: st)) : Z Γ ω μ pc L (v :: st) := by
  obtain ⟨p, l, e, R, s, m, args, below, meth, c, hV, hH0, hnl, hx, hb, hml, hown, hts, hK, hr, hlk, hfr, hlo⟩ := h
  intro H locs ls hH hS hl
  rw [hV]
  have K := kk H locs ls hH hS hl
  rw [hV] at K
  refine lv_dup hx hb hdg hv ?_
  exact K
theorem z_pop (h : zC Γ ω own cc nL fr lo rt post) {v : Value} (hdg : decode cc pc = .ok (.pop, 1)) (hv : v.category = 1) (kk : Z Γ ω μ (pc + 1) L st) : Z Γ ω μ pc L (v :: st) := by
  obtain ⟨p, l, e, R, s, m, args, below, meth, c, hV, hH0, hnl, hx, hb, hml, hown, hts, hK, hr, hlk, hfr, hlo⟩ := h
  intro H locs ls hH hS hl
  rw [hV]
  have K := kk H locs ls hH hS hl
  rw [hV] at K
  refine lv_pop hx hb hdg hv ?_
  exact K
theorem z_dup_x1 (h : zC Γ ω own cc nL fr lo rt post) {v u : Value} (hdg : decode cc pc = .ok (.dup_x1, 1)) (hv : v.category = 1) (hu : u.category = 1) (kk : Z Γ ω μ (pc + 1) L (v :: u :: v :: st)) : Z Γ ω μ pc L (v :: u :: st) := by
  obtain ⟨p, l, e, R, s, m, args, below, meth, c, hV, hH0, hnl, hx, hb, hml, hown, hts, hK, hr, hlk, hfr, hlo⟩ := h
  intro H locs ls hH hS hl
  rw [hV]
  have K := kk H locs ls hH hS hl
  rw [hV] at K
  refine lv_dup_x1 hx hb hdg hv hu ?_
  exact K
theorem z_dup2 (h : zC Γ ω own cc nL fr lo rt post) {v u : Value} (hdg : decode cc pc = .ok (.dup2, 1)) (hv : v.category = 1) (hu : u.category = 1) (kk : Z Γ ω μ (pc + 1) L (v :: u :: v :: u :: st)) : Z Γ ω μ pc L (v :: u :: st) := by
  obtain ⟨p, l, e, R, s, m, args, below, meth, c, hV, hH0, hnl, hx, hb, hml, hown, hts, hK, hr, hlk, hfr, hlo⟩ := h
  intro H locs ls hH hS hl
  rw [hV]
  have K := kk H locs ls hH hS hl
  rw [hV] at K
  refine lv_dup2_11 hx hb hdg hv hu ?_
  exact K
theorem z_goto (h : zC Γ ω own cc nL fr lo rt post) {off : Int} (tgt : Nat) (hdg : decode cc pc = .ok (.goto off, 3)) (ht : (pc : Int) + off = (tgt : Int)) (kk : Z Γ ω μ tgt L st) : Z Γ ω μ pc L st := by
  obtain ⟨p, l, e, R, s, m, args, below, meth, c, hV, hH0, hnl, hx, hb, hml, hown, hts, hK, hr, hlk, hfr, hlo⟩ := h
  intro H locs ls hH hS hl
  rw [hV]
  have K := kk H locs ls hH hS hl
  rw [hV] at K
  refine lv_goto hx hb hdg ht ?_
  exact K
theorem z_icmp_eq (h : zC Γ ω own cc nL fr lo rt post) {a b off : Int} (tgt : Nat) (hdg : decode cc pc = .ok (.if_icmp .eq off, 3)) (ht : (pc : Int) + off = (tgt : Int)) (ha : -2147483648 ≤ a ∧ a ≤ 2147483647) (hb1 : -2147483648 ≤ b ∧ b ≤ 2147483647) (kt : a = b → Z Γ ω μ tgt L st) (kf : ¬ (a = b) → Z Γ ω μ (pc + 3) L st) : Z Γ ω μ pc L (.int (iZ b) :: .int (iZ a) :: st) := by
  obtain ⟨p, l, e, R, s, m, args, below, meth, c, hV, hH0, hnl, hx, hb, hml, hown, hts, hK, hr, hlk, hfr, hlo⟩ := h
  intro H locs ls hH hS hl
  rw [hV]
  have KT := fun q => kt q H locs ls hH hS hl
  have KF := fun q => kf q H locs ls hH hS hl
  rw [hV] at KT KF
  exact lv_icmp_eq hx hb hdg ht (fun q => KT ((iZ_eq ha hb1).mp q)) (fun q => KF (fun z => q ((iZ_eq ha hb1).mpr z)))
theorem z_if_eq (h : zC Γ ω own cc nL fr lo rt post) {a off : Int} (tgt : Nat) (hdg : decode cc pc = .ok (.ifCond .eq off, 3)) (ht : (pc : Int) + off = (tgt : Int)) (ha : -2147483648 ≤ a ∧ a ≤ 2147483647) (kt : a = 0 → Z Γ ω μ tgt L st) (kf : ¬ (a = 0) → Z Γ ω μ (pc + 3) L st) : Z Γ ω μ pc L (.int (iZ a) :: st) := by
  have zb0 : (-2147483648 : Int) ≤ 0 ∧ (0 : Int) ≤ 2147483647 := by omega
  obtain ⟨p, l, e, R, s, m, args, below, meth, c, hV, hH0, hnl, hx, hb, hml, hown, hts, hK, hr, hlk, hfr, hlo⟩ := h
  intro H locs ls hH hS hl
  rw [hV]
  have KT := fun q => kt q H locs ls hH hS hl
  have KF := fun q => kf q H locs ls hH hS hl
  rw [hV] at KT KF
  exact lv_if_eq hx hb hdg ht (fun q => KT ((iZ_eq ha zb0).mp q)) (fun q => KF (fun z => q ((iZ_eq ha zb0).mpr z)))
theorem z_icmp_ne (h : zC Γ ω own cc nL fr lo rt post) {a b off : Int} (tgt : Nat) (hdg : decode cc pc = .ok (.if_icmp .ne off, 3)) (ht : (pc : Int) + off = (tgt : Int)) (ha : -2147483648 ≤ a ∧ a ≤ 2147483647) (hb1 : -2147483648 ≤ b ∧ b ≤ 2147483647) (kt : a ≠ b → Z Γ ω μ tgt L st) (kf : a = b → Z Γ ω μ (pc + 3) L st) : Z Γ ω μ pc L (.int (iZ b) :: .int (iZ a) :: st) := by
  obtain ⟨p, l, e, R, s, m, args, below, meth, c, hV, hH0, hnl, hx, hb, hml, hown, hts, hK, hr, hlk, hfr, hlo⟩ := h
  intro H locs ls hH hS hl
  rw [hV]
  have KT := fun q => kt q H locs ls hH hS hl
  have KF := fun q => kf q H locs ls hH hS hl
  rw [hV] at KT KF
  exact lv_icmp_ne hx hb hdg ht (fun q => KT ((not_congr (iZ_eq ha hb1)).mp q)) (fun q => KF ((iZ_eq ha hb1).mp q))
theorem z_if_ne (h : zC Γ ω own cc nL fr lo rt post) {a off : Int} (tgt : Nat) (hdg : decode cc pc = .ok (.ifCond .ne off, 3)) (ht : (pc : Int) + off = (tgt : Int)) (ha : -2147483648 ≤ a ∧ a ≤ 2147483647) (kt : a ≠ 0 → Z Γ ω μ tgt L st) (kf : a = 0 → Z Γ ω μ (pc + 3) L st) : Z Γ ω μ pc L (.int (iZ a) :: st) := by
  have zb0 : (-2147483648 : Int) ≤ 0 ∧ (0 : Int) ≤ 2147483647 := by omega
  obtain ⟨p, l, e, R, s, m, args, below, meth, c, hV, hH0, hnl, hx, hb, hml, hown, hts, hK, hr, hlk, hfr, hlo⟩ := h
  intro H locs ls hH hS hl
  rw [hV]
  have KT := fun q => kt q H locs ls hH hS hl
  have KF := fun q => kf q H locs ls hH hS hl
  rw [hV] at KT KF
  exact lv_if_ne hx hb hdg ht (fun q => KT ((not_congr (iZ_eq ha zb0)).mp q)) (fun q => KF ((iZ_eq ha zb0).mp q))
theorem z_icmp_lt (h : zC Γ ω own cc nL fr lo rt post) {a b off : Int} (tgt : Nat) (hdg : decode cc pc = .ok (.if_icmp .lt off, 3)) (ht : (pc : Int) + off = (tgt : Int)) (ha : -2147483648 ≤ a ∧ a ≤ 2147483647) (hb1 : -2147483648 ≤ b ∧ b ≤ 2147483647) (kt : a < b → Z Γ ω μ tgt L st) (kf : ¬ (a < b) → Z Γ ω μ (pc + 3) L st) : Z Γ ω μ pc L (.int (iZ b) :: .int (iZ a) :: st) := by
  obtain ⟨p, l, e, R, s, m, args, below, meth, c, hV, hH0, hnl, hx, hb, hml, hown, hts, hK, hr, hlk, hfr, hlo⟩ := h
  intro H locs ls hH hS hl
  rw [hV]
  have KT := fun q => kt q H locs ls hH hS hl
  have KF := fun q => kf q H locs ls hH hS hl
  rw [hV] at KT KF
  exact lv_icmp_lt hx hb hdg ht (fun q => KT ((iZ_lt ha hb1).mp q)) (fun q => KF (fun z => q ((iZ_lt ha hb1).mpr z)))
theorem z_if_lt (h : zC Γ ω own cc nL fr lo rt post) {a off : Int} (tgt : Nat) (hdg : decode cc pc = .ok (.ifCond .lt off, 3)) (ht : (pc : Int) + off = (tgt : Int)) (ha : -2147483648 ≤ a ∧ a ≤ 2147483647) (kt : a < 0 → Z Γ ω μ tgt L st) (kf : ¬ (a < 0) → Z Γ ω μ (pc + 3) L st) : Z Γ ω μ pc L (.int (iZ a) :: st) := by
  have zb0 : (-2147483648 : Int) ≤ 0 ∧ (0 : Int) ≤ 2147483647 := by omega
  obtain ⟨p, l, e, R, s, m, args, below, meth, c, hV, hH0, hnl, hx, hb, hml, hown, hts, hK, hr, hlk, hfr, hlo⟩ := h
  intro H locs ls hH hS hl
  rw [hV]
  have KT := fun q => kt q H locs ls hH hS hl
  have KF := fun q => kf q H locs ls hH hS hl
  rw [hV] at KT KF
  exact lv_if_lt hx hb hdg ht (fun q => KT ((iZ_lt ha zb0).mp q)) (fun q => KF (fun z => q ((iZ_lt ha zb0).mpr z)))
theorem z_icmp_ge (h : zC Γ ω own cc nL fr lo rt post) {a b off : Int} (tgt : Nat) (hdg : decode cc pc = .ok (.if_icmp .ge off, 3)) (ht : (pc : Int) + off = (tgt : Int)) (ha : -2147483648 ≤ a ∧ a ≤ 2147483647) (hb1 : -2147483648 ≤ b ∧ b ≤ 2147483647) (kt : b ≤ a → Z Γ ω μ tgt L st) (kf : ¬ (b ≤ a) → Z Γ ω μ (pc + 3) L st) : Z Γ ω μ pc L (.int (iZ b) :: .int (iZ a) :: st) := by
  obtain ⟨p, l, e, R, s, m, args, below, meth, c, hV, hH0, hnl, hx, hb, hml, hown, hts, hK, hr, hlk, hfr, hlo⟩ := h
  intro H locs ls hH hS hl
  rw [hV]
  have KT := fun q => kt q H locs ls hH hS hl
  have KF := fun q => kf q H locs ls hH hS hl
  rw [hV] at KT KF
  exact lv_icmp_ge hx hb hdg ht (fun q => KT ((iZ_le hb1 ha).mp q)) (fun q => KF (fun z => q ((iZ_le hb1 ha).mpr z)))
theorem z_if_ge (h : zC Γ ω own cc nL fr lo rt post) {a off : Int} (tgt : Nat) (hdg : decode cc pc = .ok (.ifCond .ge off, 3)) (ht : (pc : Int) + off = (tgt : Int)) (ha : -2147483648 ≤ a ∧ a ≤ 2147483647) (kt : 0 ≤ a → Z Γ ω μ tgt L st) (kf : ¬ (0 ≤ a) → Z Γ ω μ (pc + 3) L st) : Z Γ ω μ pc L (.int (iZ a) :: st) := by
  have zb0 : (-2147483648 : Int) ≤ 0 ∧ (0 : Int) ≤ 2147483647 := by omega
  obtain ⟨p, l, e, R, s, m, args, below, meth, c, hV, hH0, hnl, hx, hb, hml, hown, hts, hK, hr, hlk, hfr, hlo⟩ := h
  intro H locs ls hH hS hl
  rw [hV]
  have KT := fun q => kt q H locs ls hH hS hl
  have KF := fun q => kf q H locs ls hH hS hl
  rw [hV] at KT KF
  exact lv_if_ge hx hb hdg ht (fun q => KT ((iZ_le zb0 ha).mp q)) (fun q => KF (fun z => q ((iZ_le zb0 ha).mpr z)))
theorem z_icmp_gt (h : zC Γ ω own cc nL fr lo rt post) {a b off : Int} (tgt : Nat) (hdg : decode cc pc = .ok (.if_icmp .gt off, 3)) (ht : (pc : Int) + off = (tgt : Int)) (ha : -2147483648 ≤ a ∧ a ≤ 2147483647) (hb1 : -2147483648 ≤ b ∧ b ≤ 2147483647) (kt : b < a → Z Γ ω μ tgt L st) (kf : ¬ (b < a) → Z Γ ω μ (pc + 3) L st) : Z Γ ω μ pc L (.int (iZ b) :: .int (iZ a) :: st) := by
  obtain ⟨p, l, e, R, s, m, args, below, meth, c, hV, hH0, hnl, hx, hb, hml, hown, hts, hK, hr, hlk, hfr, hlo⟩ := h
  intro H locs ls hH hS hl
  rw [hV]
  have KT := fun q => kt q H locs ls hH hS hl
  have KF := fun q => kf q H locs ls hH hS hl
  rw [hV] at KT KF
  exact lv_icmp_gt hx hb hdg ht (fun q => KT ((iZ_lt hb1 ha).mp q)) (fun q => KF (fun z => q ((iZ_lt hb1 ha).mpr z)))
theorem z_if_gt (h : zC Γ ω own cc nL fr lo rt post) {a off : Int} (tgt : Nat) (hdg : decode cc pc = .ok (.ifCond .gt off, 3)) (ht : (pc : Int) + off = (tgt : Int)) (ha : -2147483648 ≤ a ∧ a ≤ 2147483647) (kt : 0 < a → Z Γ ω μ tgt L st) (kf : ¬ (0 < a) → Z Γ ω μ (pc + 3) L st) : Z Γ ω μ pc L (.int (iZ a) :: st) := by
  have zb0 : (-2147483648 : Int) ≤ 0 ∧ (0 : Int) ≤ 2147483647 := by omega
  obtain ⟨p, l, e, R, s, m, args, below, meth, c, hV, hH0, hnl, hx, hb, hml, hown, hts, hK, hr, hlk, hfr, hlo⟩ := h
  intro H locs ls hH hS hl
  rw [hV]
  have KT := fun q => kt q H locs ls hH hS hl
  have KF := fun q => kf q H locs ls hH hS hl
  rw [hV] at KT KF
  exact lv_if_gt hx hb hdg ht (fun q => KT ((iZ_lt zb0 ha).mp q)) (fun q => KF (fun z => q ((iZ_lt zb0 ha).mpr z)))
theorem z_icmp_le (h : zC Γ ω own cc nL fr lo rt post) {a b off : Int} (tgt : Nat) (hdg : decode cc pc = .ok (.if_icmp .le off, 3)) (ht : (pc : Int) + off = (tgt : Int)) (ha : -2147483648 ≤ a ∧ a ≤ 2147483647) (hb1 : -2147483648 ≤ b ∧ b ≤ 2147483647) (kt : a ≤ b → Z Γ ω μ tgt L st) (kf : ¬ (a ≤ b) → Z Γ ω μ (pc + 3) L st) : Z Γ ω μ pc L (.int (iZ b) :: .int (iZ a) :: st) := by
  obtain ⟨p, l, e, R, s, m, args, below, meth, c, hV, hH0, hnl, hx, hb, hml, hown, hts, hK, hr, hlk, hfr, hlo⟩ := h
  intro H locs ls hH hS hl
  rw [hV]
  have KT := fun q => kt q H locs ls hH hS hl
  have KF := fun q => kf q H locs ls hH hS hl
  rw [hV] at KT KF
  exact lv_icmp_le hx hb hdg ht (fun q => KT ((iZ_le ha hb1).mp q)) (fun q => KF (fun z => q ((iZ_le ha hb1).mpr z)))
theorem z_if_le (h : zC Γ ω own cc nL fr lo rt post) {a off : Int} (tgt : Nat) (hdg : decode cc pc = .ok (.ifCond .le off, 3)) (ht : (pc : Int) + off = (tgt : Int)) (ha : -2147483648 ≤ a ∧ a ≤ 2147483647) (kt : a ≤ 0 → Z Γ ω μ tgt L st) (kf : ¬ (a ≤ 0) → Z Γ ω μ (pc + 3) L st) : Z Γ ω μ pc L (.int (iZ a) :: st) := by
  have zb0 : (-2147483648 : Int) ≤ 0 ∧ (0 : Int) ≤ 2147483647 := by omega
  obtain ⟨p, l, e, R, s, m, args, below, meth, c, hV, hH0, hnl, hx, hb, hml, hown, hts, hK, hr, hlk, hfr, hlo⟩ := h
  intro H locs ls hH hS hl
  rw [hV]
  have KT := fun q => kt q H locs ls hH hS hl
  have KF := fun q => kf q H locs ls hH hS hl
  rw [hV] at KT KF
  exact lv_if_le hx hb hdg ht (fun q => KT ((iZ_le ha zb0).mp q)) (fun q => KF (fun z => q ((iZ_le ha zb0).mpr z)))
theorem z_tableIn (h : zC Γ ω own cc nL fr lo rt post) {dflt l0 h0 off : Int} {offs : Array Int} {len : Nat} {a : Int} (tgt : Nat) (hdg : decode cc pc = .ok (.tableswitch dflt l0 h0 offs, len)) (ha : -2147483648 ≤ a ∧ a ≤ 2147483647) (h1 : l0 ≤ a) (h2 : a ≤ h0) (ho : offs[(a - l0).toNat]? = some off) (ht : (pc : Int) + off = (tgt : Int)) (kk : Z Γ ω μ tgt L st) : Z Γ ω μ pc L (.int (iZ a) :: st) := by
  obtain ⟨p, l, e, R, s, m, args, below, meth, c, hV, hH0, hnl, hx, hb, hml, hown, hts, hK, hr, hlk, hfr, hlo⟩ := h
  intro H locs ls hH hS hl
  rw [hV]
  have K := kk H locs ls hH hS hl
  rw [hV] at K
  exact lv_tableIn hx hb hdg (by rw [iZ_toInt ha]; omega) (by rw [iZ_toInt ha]; omega) (by rw [iZ_toInt ha]; exact ho) ht K
theorem z_tableOut (h : zC Γ ω own cc nL fr lo rt post) {dflt l0 h0 : Int} {offs : Array Int} {len : Nat} {a : Int} (tgt : Nat) (hdg : decode cc pc = .ok (.tableswitch dflt l0 h0 offs, len)) (ha : -2147483648 ≤ a ∧ a ≤ 2147483647) (h1 : a < l0 ∨ h0 < a) (ht : (pc : Int) + dflt = (tgt : Int)) (kk : Z Γ ω μ tgt L st) : Z Γ ω μ pc L (.int (iZ a) :: st) := by
  obtain ⟨p, l, e, R, s, m, args, below, meth, c, hV, hH0, hnl, hx, hb, hml, hown, hts, hK, hr, hlk, hfr, hlo⟩ := h
  intro H locs ls hH hS hl
  rw [hV]
  have K := kk H locs ls hH hS hl
  rw [hV] at K
  exact lv_tableOut hx hb hdg (by rw [iZ_toInt ha]; exact h1) ht K
theorem z_lookup (h : zC Γ ω own cc nL fr lo rt post) {dflt off : Int} {ps : Array (Int × Int)} {len : Nat} {a : Int} (tgt : Nat) (hdg : decode cc pc = .ok (.lookupswitch dflt ps, len)) (ha : -2147483648 ≤ a ∧ a ≤ 2147483647) (hp : (ps.toList.zip (ps.toList.drop 1)).all (fun (a, next) => a.1 < next.1) = true) (ho : Op.lookupswitch.offset ps.toList dflt a = off) (ht : (pc : Int) + off = (tgt : Int)) (kk : Z Γ ω μ tgt L st) : Z Γ ω μ pc L (.int (iZ a) :: st) := by
  obtain ⟨p, l, e, R, s, m, args, below, meth, c, hV, hH0, hnl, hx, hb, hml, hown, hts, hK, hr, hlk, hfr, hlo⟩ := h
  intro H locs ls hH hS hl
  rw [hV]
  have K := kk H locs ls hH hS hl
  rw [hV] at K
  exact lv_lookup hx hb hdg hp (by rw [iZ_toInt ha]; exact ho) ht K
/-- a truth as an int -/
abbrev zB (P : Prop) [Decidable P] : Int := if P then 1 else 0
theorem zB_t {P : Prop} [Decidable P] (h : P) : zB P = 1 := if_pos h
theorem zB_f {P : Prop} [Decidable P] (h : ¬ P) : zB P = 0 := if_neg h
theorem zB_r (P : Prop) [Decidable P] : -2147483648 ≤ zB P ∧ zB P ≤ 2147483647 := by
  unfold zB; split <;> omega
theorem z_ifb_eq (h : zC Γ ω own cc nL fr lo rt post) {P : Prop} [Decidable P] {off : Int} (tgt : Nat) (hdg : decode cc pc = .ok (.ifCond .eq off, 3)) (ht : (pc : Int) + off = (tgt : Int)) (kt : ¬ P → Z Γ ω μ tgt L st) (kf : P → Z Γ ω μ (pc + 3) L st) : Z Γ ω μ pc L (.int (iZ (zB P)) :: st) := by
  refine z_if_eq h tgt hdg ht (zB_r P) (fun q => kt (fun z => ?_)) (fun q => kf ?_)
  · rw [zB_t z] at q; omega
  · by_cases z : P
    · exact z
    · rw [zB_f z] at q; omega
theorem z_ifb_ne (h : zC Γ ω own cc nL fr lo rt post) {P : Prop} [Decidable P] {off : Int} (tgt : Nat) (hdg : decode cc pc = .ok (.ifCond .ne off, 3)) (ht : (pc : Int) + off = (tgt : Int)) (kt : P → Z Γ ω μ tgt L st) (kf : ¬ P → Z Γ ω μ (pc + 3) L st) : Z Γ ω μ pc L (.int (iZ (zB P)) :: st) := by
  refine z_if_ne h tgt hdg ht (zB_r P) (fun q => kt ?_) (fun q => kf (fun z => ?_))
  · by_cases z : P
    · exact z
    · rw [zB_f z] at q; omega
  · rw [zB_t z] at q; omega
theorem z_weak {L' : List (Nat × Value)} (hs : zsub L' L) (kk : Z Γ ω μ pc L' st) : Z Γ ω μ pc L st := fun H locs ls hH hS hl => kk H locs ls hH hS ⟨hl.1, hl.2.1, fun k v hk => hl.2.2 k v (zsub_lk hs hk)⟩
theorem z_mem {μ' : zM} (e : μ = μ') (kk : Z Γ ω μ' pc L st) : Z Γ ω μ pc L st := e ▸ kk
theorem z_nm (kk : ∀ μ1 : zM, μ1 = μ → Z Γ ω μ1 pc L st) : Z Γ ω μ pc L st := kk μ rfl
theorem z_nmi {x : Int32} (kk : ∀ y : Int32, y = x → Z Γ ω μ pc L (.int y :: st)) : Z Γ ω μ pc L (.int x :: st) := kk x rfl
theorem z_topr {a b : Nat} (e : a = b) (kk : Z Γ ω μ pc L (.ref b :: st)) : Z Γ ω μ pc L (.ref a :: st) := e ▸ kk
theorem z_topn {a : Int} (kk : ∀ z : Int, z = a → Z Γ ω μ pc L (.int (iZ z) :: st)) : Z Γ ω μ pc L (.int (iZ a) :: st) := kk a rfl
theorem z_top {a b : Int} (e : a = b) (kk : Z Γ ω μ pc L (.int (iZ b) :: st)) : Z Γ ω μ pc L (.int (iZ a) :: st) := e ▸ kk
/-! the heap -/
theorem z_get (h : zC Γ ω own cc nL fr lo rt post) {ci N index : Nat} {C ref : String} {T : u_T} (hin : ∀ w ∈ u_ws C T N, w ∈ AL) (hc : zcl[ci]? = some (C, T, N)) (k : Nat) (hk : k < N) (hlink : Cond.fieldLink own index ref (T k).2.1 (T k).2.2.1 ∈ AL) (href : ref = (T k).1) (hdg : decode cc pc = .ok (.getfield index, 3))
    {c : Int} (hcl : 0 ≤ c ∧ c < (ω.2.2.1 : Int)) {F : (Int → Int) → List Value} (he : ∀ r, ω.2.2.2.2 c r = .inr (ci, F r)) {v : Value} (hv : (F (μ c))[k]? = some v) (kk : Z Γ ω μ (pc + 3) L (v :: st)) : Z Γ ω μ pc L (.ref (ω.2.2.2.1 c) :: st) := by
  obtain ⟨p, l, e, R, s, m, args, below, meth, cq, hV, hH0, hnl, hx, hb, hml, hown, hts, hK, hr, hlk, hfr, hlo⟩ := h
  intro H locs ls hH hS hl
  have K := kk H locs ls hH hS hl
  rw [hV] at K ⊢
  subst href
  exact va_get hx hb hts hin hown hK.1 hH.1 c.toNat (by rw [zws_at hcl.1 hcl.2, he]) hc k hk (hts _ hlink) (fun _ h9 => h9) hv hdg K
theorem z_put (h : zC Γ ω own cc nL fr lo rt post) {ci N index : Nat} {C ref : String} {T : u_T} (hin : ∀ w ∈ u_ws C T N, w ∈ AL) (hc : zcl[ci]? = some (C, T, N)) (ty0 : Nat → FieldType) (hty : ∀ k, k < N → parseFieldDescriptor (T k).2.2.1 = some (ty0 k)) (hnm : ∀ a, a < N → ∀ b, b < N → a ≠ b → (T a).2.1 ≠ (T b).2.1) (k : Nat) (hk : k < N) (hfin : (T k).2.2.2 = false) (hti : ty0 k = .int) (kI : Int) (hki : kI = (k : Int)) (hlink : Cond.fieldLink own index ref (T k).2.1 (T k).2.2.1 ∈ AL) (href : ref = (T k).1) (hdg : decode cc pc = .ok (.putfield index, 3))
    {c : Int} (hcl : 0 ≤ c ∧ c < (ω.2.2.1 : Int)) {F : (Int → Int) → List Value} (he : ∀ r, ω.2.2.2.2 c r = .inr (ci, F r)) {z : Int} (he2 : ∀ r : Int → Int, F (fun i' => if i' = kI then z else r i') = (F r).set k (.int (iZ z))) (hl9 : ∀ r, k < (F r).length) (kk : Z Γ ω (zup μ c kI z) (pc + 3) L st) : Z Γ ω μ pc L (.int (iZ z) :: .ref (ω.2.2.2.1 c) :: st) := by
  obtain ⟨p, l, e, R, s, m, args, below, meth, cq, hV, hH0, hnl, hx, hb, hml, hown, hts, hK, hr, hlk, hfr, hlo⟩ := h
  intro H locs ls hH hS hl
  have K := fun H locs hH hS => kk H locs ls hH hS hl
  rw [hV] at K ⊢
  subst href
  refine va_put hx hb hts hin ty0 hty hnm hown hK.1 hH.1 hH.2 hS c.toNat (by rw [zws_at hcl.1 hcl.2, he]) hc k hk (hts _ hlink) (fun _ h9 => h9) hfin (ty := .int) (by rw [hty k hk, hti]) rfl rfl (hl9 _) hdg (fun H1 locs1 hP hD hS1 => ?_)
  rw [zws_set (μ' := zup μ c kI z) hcl.1 hcl.2 (by rw [zup_c, he, he2]) (fun c' hc' => zup_o hc')] at hP hD
  exact K H1 locs1 ⟨hP, hD⟩ hS1
theorem z_putc (h : zC Γ ω own cc nL fr lo rt post) {ci N index : Nat} {C ref : String} {T : u_T} (hin : ∀ w ∈ u_ws C T N, w ∈ AL) (hc : zcl[ci]? = some (C, T, N)) (ty0 : Nat → FieldType) (hty : ∀ k, k < N → parseFieldDescriptor (T k).2.2.1 = some (ty0 k)) (hnm : ∀ a, a < N → ∀ b, b < N → a ≠ b → (T a).2.1 ≠ (T b).2.1) (k : Nat) (hk : k < N) (hfin : (T k).2.2.2 = false) (hti : ty0 k = .char) (kI : Int) (hki : kI = (k : Int)) (hlink : Cond.fieldLink own index ref (T k).2.1 (T k).2.2.1 ∈ AL) (href : ref = (T k).1) (hdg : decode cc pc = .ok (.putfield index, 3))
    {c : Int} (hcl : 0 ≤ c ∧ c < (ω.2.2.1 : Int)) {F : (Int → Int) → List Value} (he : ∀ r, ω.2.2.2.2 c r = .inr (ci, F r)) {z : Int} (hz : 0 ≤ z ∧ z ≤ 65535) (he2 : ∀ r : Int → Int, F (fun i' => if i' = kI then z else r i') = (F r).set k (.int (iZ z))) (hl9 : ∀ r, k < (F r).length) (kk : Z Γ ω (zup μ c kI z) (pc + 3) L st) : Z Γ ω μ pc L (.int (iZ z) :: .ref (ω.2.2.2.1 c) :: st) := by
  obtain ⟨p, l, e, R, s, m, args, below, meth, cq, hV, hH0, hnl, hx, hb, hml, hown, hts, hK, hr, hlk, hfr, hlo⟩ := h
  intro H locs ls hH hS hl
  have K := fun H locs hH hS => kk H locs ls hH hS hl
  rw [hV] at K ⊢
  subst href
  have hcn : narrow .char (.int (iZ z)) = .int (iZ z) ∧ fits .char (.int (iZ z)) = true := by
    obtain ⟨n, rfl⟩ := Int.eq_ofNat_of_zero_le hz.1
    exact pk_charN (q := n) (by omega)
  refine va_put hx hb hts hin ty0 hty hnm hown hK.1 hH.1 hH.2 hS c.toNat (by rw [zws_at hcl.1 hcl.2, he]) hc k hk (hts _ hlink) (fun _ h9 => h9) hfin (ty := .char) (by rw [hty k hk, hti]) hcn.1 hcn.2 (hl9 _) hdg (fun H1 locs1 hP hD hS1 => ?_)
  rw [zws_set (μ' := zup μ c kI z) hcl.1 hcl.2 (by rw [zup_c, he, he2]) (fun c' hc' => zup_o hc')] at hP hD
  exact K H1 locs1 ⟨hP, hD⟩ hS1
theorem z_iald (h : zC Γ ω own cc nL fr lo rt post) (hdg : decode cc pc = .ok (.iaload, 1)) {c i : Int} (hcl : 0 ≤ c ∧ c < (ω.2.2.1 : Int)) {n : Nat} (he : ∀ r, ω.2.2.2.2 c r = .inl (ω.2.1 0, n, .inl (fun j => iZ (r j)))) (hi0 : 0 ≤ i) (hi : i < (n : Int)) (hn9 : n ≤ 2000000000) (kk : Z Γ ω μ (pc + 1) L (.int (iZ (μ c i)) :: st)) : Z Γ ω μ pc L (.int (iZ i) :: .ref (ω.2.2.2.1 c) :: st) := by
  obtain ⟨p, l, e, R, s, m, args, below, meth, cq, hV, hH0, hnl, hx, hb, hml, hown, hts, hK, hr, hlk, hfr, hlo⟩ := h
  intro H locs ls hH hS hl
  have K := kk H locs ls hH hS hl
  rw [hV] at K ⊢
  refine va_iald hx hb hK.1 hH.1 c.toNat 0 (by rw [zws_at hcl.1 hcl.2, he]) rfl (iZ_in hi0 hi (by omega)) hdg ?_
  rw [iZ_clamp hi0 (by omega), Int.toNat_of_nonneg hi0]
  exact K
theorem z_cald (h : zC Γ ω own cc nL fr lo rt post) (hdg : decode cc pc = .ok (.caload, 1)) {c i : Int} (hcl : 0 ≤ c ∧ c < (ω.2.2.1 : Int)) {n : Nat} (he : ∀ r, ω.2.2.2.2 c r = .inl (ω.2.1 1, n, .inl (fun j => iZ (r j)))) (hi0 : 0 ≤ i) (hi : i < (n : Int)) (hn9 : n ≤ 2000000000) (kk : Z Γ ω μ (pc + 1) L (.int (iZ (μ c i)) :: st)) : Z Γ ω μ pc L (.int (iZ i) :: .ref (ω.2.2.2.1 c) :: st) := by
  obtain ⟨p, l, e, R, s, m, args, below, meth, cq, hV, hH0, hnl, hx, hb, hml, hown, hts, hK, hr, hlk, hfr, hlo⟩ := h
  intro H locs ls hH hS hl
  have K := kk H locs ls hH hS hl
  rw [hV] at K ⊢
  refine va_cald hx hb hK.1 hH.1 c.toNat 1 (by rw [zws_at hcl.1 hcl.2, he]) rfl (iZ_in hi0 hi (by omega)) hdg ?_
  rw [iZ_clamp hi0 (by omega), Int.toNat_of_nonneg hi0]
  exact K
theorem z_fup {μ : zM} {c i z : Int} (hi0 : 0 ≤ i) : (fun j : Nat => iZ (zup μ c i z c j)) = upd (fun j : Nat => iZ (μ c j)) i.toNat (iZ z) := by
  funext j
  unfold zup upd
  by_cases hj : (j : Int) = i
  · have : j = i.toNat := by omega
    subst this
    simp [Int.toNat_of_nonneg hi0]
  · have : ¬ j = i.toNat := by omega
    simp [hj, this]
theorem z_iast (h : zC Γ ω own cc nL fr lo rt post) (hdg : decode cc pc = .ok (.iastore, 1)) {c i z : Int} (hcl : 0 ≤ c ∧ c < (ω.2.2.1 : Int)) {n : Nat} (he : ∀ r, ω.2.2.2.2 c r = .inl (ω.2.1 0, n, .inl (fun j => iZ (r j)))) (hi0 : 0 ≤ i) (hi : i < (n : Int)) (hn9 : n ≤ 2000000000) (kk : Z Γ ω (zup μ c i z) (pc + 1) L st) : Z Γ ω μ pc L (.int (iZ z) :: .int (iZ i) :: .ref (ω.2.2.2.1 c) :: st) := by
  obtain ⟨p, l, e, R, s, m, args, below, meth, cq, hV, hH0, hnl, hx, hb, hml, hown, hts, hK, hr, hlk, hfr, hlo⟩ := h
  intro H locs ls hH hS hl
  have K := fun H locs hH hS => kk H locs ls hH hS hl
  rw [hV] at K ⊢
  refine va_iast hx hb hK.1 hH.1 hH.2 hS c.toNat 0 (by rw [zws_at hcl.1 hcl.2, he]) rfl (iZ_in hi0 hi (by omega)) hdg (fun H1 locs1 hP hD hS1 => ?_)
  rw [zws_set (μ' := zup μ c i z) hcl.1 hcl.2 (by rw [he, z_fup hi0, iZ_clamp hi0 (by omega)]) (fun c' hc' => zup_o hc')] at hP hD
  exact K H1 locs1 ⟨hP, hD⟩ hS1
theorem z_cast (h : zC Γ ω own cc nL fr lo rt post) (hdg : decode cc pc = .ok (.castore, 1)) {c i z : Int} (hcl : 0 ≤ c ∧ c < (ω.2.2.1 : Int)) {n : Nat} (he : ∀ r, ω.2.2.2.2 c r = .inl (ω.2.1 1, n, .inl (fun j => iZ (r j)))) (hi0 : 0 ≤ i) (hi : i < (n : Int)) (hn9 : n ≤ 2000000000) (hz : 0 ≤ z ∧ z ≤ 65535) (kk : Z Γ ω (zup μ c i z) (pc + 1) L st) : Z Γ ω μ pc L (.int (iZ z) :: .int (iZ i) :: .ref (ω.2.2.2.1 c) :: st) := by
  obtain ⟨p, l, e, R, s, m, args, below, meth, cq, hV, hH0, hnl, hx, hb, hml, hown, hts, hK, hr, hlk, hfr, hlo⟩ := h
  intro H locs ls hH hS hl
  have K := fun H locs hH hS => kk H locs ls hH hS hl
  rw [hV] at K ⊢
  have hcn : vp_nar .char (iZ z) = iZ z := by
    obtain ⟨n, rfl⟩ := Int.eq_ofNat_of_zero_le hz.1
    have h1 := (pk_charN (q := n) (by omega)).1
    show (match narrow .char (.int (nI n)) with | .int v => v | _ => 0) = nI n
    rw [h1]
  refine va_cast hx hb hK.1 hH.1 hH.2 hS c.toNat 1 (by rw [zws_at hcl.1 hcl.2, he]) rfl (iZ_in hi0 hi (by omega)) hdg (fun H1 locs1 hP hD hS1 => ?_)
  rw [zws_set (μ' := zup μ c i z) hcl.1 hcl.2 (by rw [he, z_fup hi0, iZ_clamp hi0 (by omega), hcn]) (fun c' hc' => zup_o hc')] at hP hD
  exact K H1 locs1 ⟨hP, hD⟩ hS1
theorem z_aald (h : zC Γ ω own cc nL fr lo rt post) (hdg : decode cc pc = .ok (.aaload, 1)) (t0 : Nat) {C : String} (ht : (zty ω.2.1)[t0]? = some (ω.2.1 t0, .object C)) {c i : Int} (hcl : 0 ≤ c ∧ c < (ω.2.2.1 : Int)) {n : Nat} (f : (Int → Int) → Int → Int) (he : ∀ r, ω.2.2.2.2 c r = .inl (ω.2.1 t0, n, .inr (.inr (.inr (.inr (fun j => some (ω.2.2.2.1 (f r j)))))))) (hi0 : 0 ≤ i) (hi : i < (n : Int)) (hn9 : n ≤ 2000000000) (kk : Z Γ ω μ (pc + 1) L (.ref (ω.2.2.2.1 (f (μ c) i)) :: st)) : Z Γ ω μ pc L (.int (iZ i) :: .ref (ω.2.2.2.1 c) :: st) := by
  obtain ⟨p, l, e, R, s, m, args, below, meth, cq, hV, hH0, hnl, hx, hb, hml, hown, hts, hK, hr, hlk, hfr, hlo⟩ := h
  intro H locs ls hH hS hl
  have K := kk H locs ls hH hS hl
  rw [hV] at K ⊢
  refine va_aldq hx hb hK.1 hH.1 c.toNat t0 (by rw [zws_at hcl.1 hcl.2, he]) ht (iZ_in hi0 hi (by omega)) hdg ?_
  rw [iZ_clamp hi0 (by omega), Int.toNat_of_nonneg hi0]
  exact K
theorem z_aast (h : zC Γ ω own cc nL fr lo rt post) (hdg : decode cc pc = .ok (.aastore, 1)) (t0 : Nat) {r0 : vw_C} {ci : Nat} (ht : (zty ω.2.1)[t0]? = some (ω.2.1 t0, .object r0.1)) (hci : zcl[ci]? = some r0) {c i z o : Int} (hcl : 0 ≤ c ∧ c < (ω.2.2.1 : Int)) {n : Nat} (f : (Int → Int) → Int → Int) (he : ∀ r, ω.2.2.2.2 c r = .inl (ω.2.1 t0, n, .inr (.inr (.inr (.inr (fun j => some (ω.2.2.2.1 (f r j)))))))) (hf : ∀ (r : Int → Int) (j : Int), f (fun i' => if i' = i then z else r i') j = if j = i then o else f r j) (hcl2 : 0 ≤ o ∧ o < (ω.2.2.1 : Int)) {F : (Int → Int) → List Value} (he2 : ∀ r, ω.2.2.2.2 o r = .inr (ci, F r)) (hi0 : 0 ≤ i) (hi : i < (n : Int)) (hn9 : n ≤ 2000000000) (kk : Z Γ ω (zup μ c i z) (pc + 1) L st) : Z Γ ω μ pc L (.ref (ω.2.2.2.1 o) :: .int (iZ i) :: .ref (ω.2.2.2.1 c) :: st) := by
  obtain ⟨p, l, e, R, s, m, args, below, meth, cq, hV, hH0, hnl, hx, hb, hml, hown, hts, hK, hr, hlk, hfr, hlo⟩ := h
  intro H locs ls hH hS hl
  have K := fun H locs hH hS => kk H locs ls hH hS hl
  rw [hV] at K ⊢
  refine va_astq hx hb hK.1 hH.1 hH.2 hS c.toNat t0 o.toNat ci (by rw [zws_at hcl.1 hcl.2, he]) ht (by rw [zws_at hcl2.1 hcl2.2, he2]) hci (iZ_in hi0 hi (by omega)) hdg (fun H1 locs1 hP hD hS1 => ?_)
  have e9 : (fun j : Nat => some (ω.2.2.2.1 (f (fun i' => if i' = i then z else μ c i') j))) = va_up (fun j : Nat => some (ω.2.2.2.1 (f (μ c) j))) i.toNat (some (ω.2.2.2.1 o)) := by
    funext j
    rw [hf]
    unfold va_up
    by_cases hj : (j : Int) = i
    · have : j = i.toNat := by omega
      rw [if_pos hj, if_pos this]
    · have : ¬ j = i.toNat := by omega
      rw [if_neg hj, if_neg this]
  rw [zws_set (μ' := zup μ c i z) hcl.1 hcl.2 (by rw [zup_c, he, e9, iZ_clamp hi0 (by omega)]) (fun c' hc' => zup_o hc')] at hP hD
  exact K H1 locs1 ⟨hP, hD⟩ hS1
/-- System.arraycopy of the first n ints of one array to another's beginning -/
theorem z_copy (h : zC Γ ω own cc nL fr lo rt post) {index : Nat} (hw : Cond.methodLink own index arraycopyName ∈ AL) (hdg : decode cc pc = .ok (.invokestatic index, 3)) {c0 c1 : Int} (hcl0 : 0 ≤ c0 ∧ c0 < (ω.2.2.1 : Int)) (hcl1 : 0 ≤ c1 ∧ c1 < (ω.2.2.1 : Int)) {n : Nat} (he0 : ∀ r, ω.2.2.2.2 c0 r = .inl (ω.2.1 0, n, .inl (fun j => iZ (r j)))) (he1 : ∀ r, ω.2.2.2.2 c1 r = .inl (ω.2.1 0, n, .inl (fun j => iZ (r j)))) (hn9 : n ≤ 2000000000) (hfr1 : 1 ≤ fr) (hlo1 : (st.map fun v => v.category).sum + (nativeFrameWords "java/lang/System" "arraycopy" 5 + 11) ≤ lo) (kk : Z Γ ω (fun c' i' => if c' = c1 ∧ 0 ≤ i' ∧ i' < (n : Int) then μ c0 i' else μ c' i') (pc + 3) L st) : Z Γ ω μ pc L (.int (iZ (n : Int)) :: .int (iZ 0) :: .ref (ω.2.2.2.1 c1) :: .int (iZ 0) :: .ref (ω.2.2.2.1 c0) :: st) := by
  obtain ⟨p, l, e, R, s, m, args, below, meth, cq, hV, hH0, hnl, hx, hb, hml, hown, hts, hK, hr, hlk, hfr, hlo⟩ := h
  intro H locs ls hH hS hl
  have K := fun H locs hH hS => kk H locs ls hH hS hl
  rw [hV] at K ⊢
  have z0 : (iZ 0).toNatClampNeg = 0 := rfl
  have zn : (iZ (n : Int)).toNatClampNeg = n := by rw [iZ_clamp (by omega) (by omega)]; omega
  refine va_copyi hx hb (by rw [hl.1, hnl, hml]) hown (hts _ hw) (hts _ qN_Sys_arraycopy) (hts _ qT_Sys_arraycopy) (hts _ qi_J10) hK.1 hH.1 hH.2 hS c0.toNat c1.toNat 0 0 (by rw [zws_at hcl0.1 hcl0.2, he0]) (by rw [zws_at hcl1.1 hcl1.2, he1]) rfl rfl rfl (by decide) (by decide) (nI_pos (by omega)) (by rw [z0, zn]; omega) (by rw [z0, zn]; omega) (fun _ _ => rfl) (Nat.le_trans hfr1 hfr) (Nat.le_trans hlo1 hlo) hdg (fun H1 locs1 hP hD hS1 => ?_)
  have e9 : (fun j : Nat => iZ ((fun i' => if c1 = c1 ∧ 0 ≤ i' ∧ i' < (n : Int) then μ c0 i' else μ c1 i') (j : Int))) = va_cpy (fun j : Nat => iZ (μ c0 j)) (fun j : Nat => iZ (μ c1 j)) (iZ 0).toNatClampNeg (iZ 0).toNatClampNeg (iZ (n : Int)).toNatClampNeg := by
    rw [z0, zn]
    funext j
    unfold va_cpy
    by_cases hj : j < n
    · have h1 : c1 = c1 ∧ 0 ≤ (j : Int) ∧ (j : Int) < (n : Int) := ⟨rfl, by omega, by omega⟩
      have h2 : 0 ≤ j ∧ j < 0 + n := by omega
      have h3 : 0 + (j - 0) = j := by omega
      simp only [h1, h2, h3, and_self, if_true]
    · have h1 : ¬ (c1 = c1 ∧ 0 ≤ (j : Int) ∧ (j : Int) < (n : Int)) := by omega
      have h2 : ¬ (0 ≤ j ∧ j < 0 + n) := by omega
      dsimp only
      rw [if_neg h1, if_neg h2]
  rw [zws_set (μ' := fun c' i' => if c' = c1 ∧ 0 ≤ i' ∧ i' < (n : Int) then μ c0 i' else μ c' i') hcl1.1 hcl1.2 (by rw [he1, e9]) (fun c' hc' => by funext i'; simp only [hc', false_and, if_false])] at hP hD
  exact K H1 locs1 ⟨hP, hD⟩ hS1
theorem z_max (h : zC Γ ω own cc nL fr lo rt post) {index : Nat} (hw : Cond.methodLink own index Lib.Math.max.name ∈ AL) {a b : Int} (hdg : decode cc pc = .ok (.invokestatic index, 3)) (ha : -2147483648 ≤ a ∧ a ≤ 2147483647) (hb1 : -2147483648 ≤ b ∧ b ≤ 2147483647) (hfr1 : 1 ≤ fr) (hlo1 : (st.map fun v => v.category).sum + 13 ≤ lo) (kk : Z Γ ω μ (pc + 3) L (.int (iZ (if a < b then b else a)) :: st)) : Z Γ ω μ pc L (.int (iZ b) :: .int (iZ a) :: st) := by
  obtain ⟨p, l, e, R, s, m, args, below, meth, cq, hV, hH0, hnl, hx, hb, hml, hown, hts, hK, hr, hlk, hfr, hlo⟩ := h
  intro H locs ls hH hS hl
  have K := kk H locs ls hH hS hl
  rw [hV] at K ⊢
  refine va_mmax hx hb (by rw [hl.1, hnl, hml]) hown (hts _ hw) (hts _ qT_J9_max_7cf53) (hts _ qi_J9) (hts _ qC_J9_max_7cf53) (Nat.le_trans hfr1 hfr) (Nat.le_trans hlo1 hlo) (Nat.zero_le _) (Nat.zero_le _) hdg ?_
  have e9 : (if iZ a < iZ b then iZ b else iZ a) = iZ (if a < b then b else a) := by
    by_cases q : a < b
    · rw [if_pos q, if_pos ((iZ_lt ha hb1).mpr q)]
    · rw [if_neg q, if_neg (fun z => q ((iZ_lt ha hb1).mp z))]
  rw [e9]
  exact K
theorem z_min (h : zC Γ ω own cc nL fr lo rt post) {index : Nat} (hw : Cond.methodLink own index Lib.Math.min.name ∈ AL) {a b : Int} (hdg : decode cc pc = .ok (.invokestatic index, 3)) (ha : -2147483648 ≤ a ∧ a ≤ 2147483647) (hb1 : -2147483648 ≤ b ∧ b ≤ 2147483647) (hfr1 : 1 ≤ fr) (hlo1 : (st.map fun v => v.category).sum + 13 ≤ lo) (kk : Z Γ ω μ (pc + 3) L (.int (iZ (if b < a then b else a)) :: st)) : Z Γ ω μ pc L (.int (iZ b) :: .int (iZ a) :: st) := by
  obtain ⟨p, l, e, R, s, m, args, below, meth, cq, hV, hH0, hnl, hx, hb, hml, hown, hts, hK, hr, hlk, hfr, hlo⟩ := h
  intro H locs ls hH hS hl
  have K := kk H locs ls hH hS hl
  rw [hV] at K ⊢
  refine va_mmin hx hb (by rw [hl.1, hnl, hml]) hown (hts _ hw) (hts _ qT_J9_min_7cf53) (hts _ qi_J9) (hts _ qC_J9_min_7cf53) (Nat.le_trans hfr1 hfr) (Nat.le_trans hlo1 hlo) (Nat.zero_le _) (Nat.zero_le _) hdg ?_
  have e9 : (if iZ b < iZ a then iZ b else iZ a) = iZ (if b < a then b else a) := by
    by_cases q : b < a
    · rw [if_pos q, if_pos ((iZ_lt hb1 ha).mpr q)]
    · rw [if_neg q, if_neg (fun z => q ((iZ_lt hb1 ha).mp z))]
  rw [e9]
  exact K
/-! ends -/
theorem z_iret (h : zC Γ ω own cc nL fr lo (some .int) post) {v : Int32} (hdg : decode cc pc = .ok (.ireturn, 1)) (hp : post (some (.int v)) μ) : Z Γ ω μ pc L [.int v] := by
  obtain ⟨p, l, e, R, s, m, args, below, meth, c, hV, hH0, hnl, hx, hb, hml, hown, hts, hK, hr, hlk, hfr, hlo⟩ := h
  intro H locs ls hH hS hl
  rw [hV]
  rw [hH0] at hS
  exact W.iret hx hb hr (fun t ht hW => ⟨⟨_, μ, rfl, hp, by rw [ht]; exact hH⟩, hS.F ht⟩) hS.2.2 hdg hlk
theorem z_zret (h : zC Γ ω own cc nL fr lo (some .boolean) post) {P : Prop} [Decidable P] (hdg : decode cc pc = .ok (.ireturn, 1)) (hp : post (some (.int (iZ (zB P)))) μ) : Z Γ ω μ pc L [.int (iZ (zB P))] := by
  obtain ⟨p, l, e, R, s, m, args, below, meth, c, hV, hH0, hnl, hx, hb, hml, hown, hts, hK, hr, hlk, hfr, hlo⟩ := h
  intro H locs ls hH hS hl
  rw [hV]
  rw [hH0] at hS
  exact W.zret hx hb hr (by by_cases z : P <;> simp [zB, z] <;> rfl) (fun t ht hW => ⟨⟨_, μ, rfl, hp, by rw [ht]; exact hH⟩, hS.F ht⟩) hS.2.2 hdg hlk
theorem z_zret1 (h : zC Γ ω own cc nL fr lo (some .boolean) post) (hdg : decode cc pc = .ok (.ireturn, 1)) (hp : post (some (.int (iZ 1))) μ) : Z Γ ω μ pc L [.int (iZ 1)] := z_zret (P := True) h hdg hp
theorem z_zret0 (h : zC Γ ω own cc nL fr lo (some .boolean) post) (hdg : decode cc pc = .ok (.ireturn, 1)) (hp : post (some (.int (iZ 0))) μ) : Z Γ ω μ pc L [.int (iZ 0)] := z_zret (P := False) h hdg hp
theorem z_cret (h : zC Γ ω own cc nL fr lo (some .char) post) {a : Int} (ha : 0 ≤ a ∧ a ≤ 65535) (hdg : decode cc pc = .ok (.ireturn, 1)) (hp : post (some (.int (iZ a))) μ) : Z Γ ω μ pc L [.int (iZ a)] := by
  obtain ⟨p, l, e, R, s, m, args, below, meth, c, hV, hH0, hnl, hx, hb, hml, hown, hts, hK, hr, hlk, hfr, hlo⟩ := h
  intro H locs ls hH hS hl
  rw [hV]
  rw [hH0] at hS
  obtain ⟨n, rfl⟩ := Int.eq_ofNat_of_zero_le ha.1
  exact W.zret hx hb hr (pk_charN (q := n) (by omega)).1 (fun t ht hW => ⟨⟨_, μ, rfl, hp, by rw [ht]; exact hH⟩, hS.F ht⟩) hS.2.2 hdg hlk
theorem z_vret (h : zC Γ ω own cc nL fr lo none post) (hdg : decode cc pc = .ok (.return_, 1)) (hp : post none μ) : Z Γ ω μ pc L [] := by
  obtain ⟨p, l, e, R, s, m, args, below, meth, c, hV, hH0, hnl, hx, hb, hml, hown, hts, hK, hr, hlk, hfr, hlo⟩ := h
  intro H locs ls hH hS hl
  rw [hV]
  rw [hH0] at hS
  exact W.vret hx hb hr (fun t ht hW => ⟨⟨_, μ, rfl, hp, by rw [ht]; exact hH⟩, hS.F ht⟩) hS.2.2 hdg hlk
theorem z_aret {C : String} (h : zC Γ ω own cc nL fr lo (some (.object C)) post) {a : Nat} (hdg : decode cc pc = .ok (.areturn, 1)) (hp : post (some (.ref a)) μ) : Z Γ ω μ pc L [.ref a] := by
  obtain ⟨p, l, e, R, s, m, args, below, meth, c, hV, hH0, hnl, hx, hb, hml, hown, hts, hK, hr, hlk, hfr, hlo⟩ := h
  intro H locs ls hH hS hl
  rw [hV]
  rw [hH0] at hS
  exact W.aret hx hb hr (Or.inl ⟨_, rfl⟩) (Or.inr ⟨_, rfl⟩) (fun t ht hW => ⟨⟨_, μ, rfl, hp, by rw [ht]; exact hH⟩, hS.F ht⟩) hS.2.2 hdg hlk
theorem z_lret (h : zC Γ ω own cc nL fr lo (some .long) post) {a : Int64} (hdg : decode cc pc = .ok (.lreturn, 1)) (hp : post (some (.long a)) μ) : Z Γ ω μ pc L [.long a] := by
  obtain ⟨p, l, e, R, s, m, args, below, meth, c, hV, hH0, hnl, hx, hb, hml, hown, hts, hK, hr, hlk, hfr, hlo⟩ := h
  intro H locs ls hH hS hl
  rw [hV]
  rw [hH0] at hS
  exact W.lret hx hb hr (fun t ht hW => ⟨⟨_, μ, rfl, hp, by rw [ht]; exact hH⟩, hS.F ht⟩) hS.2.2 hdg hlk
end ZR
/-! calls -/
section ZCALL
variable {p : Program} {l : Launch} {e : Env} {R : Room} {s : State} {m : MethodId} {args : Array Value} {below : List Frame} {meth : Method} {c : Code} {H : Heap} {locs : List Loc} {Q : State → Prop}
variable {pc : Nat} {ls : Array Slot} {rest st0 : List Value} {a : Array Value} {A : Nat → Prop} {H0 : Heap} {ω : zO} {post : Option Value → zM → Prop}
theorem zc_go (hr : va_Run p l e R s m args below meth c H locs 0 0 0 0 (F0 m pc ls st0) rest (zQ ω A post a) A) (hS : va_S A H0 H locs)
    (kk : ∀ (v : Option Value) (μ' : zM) (H1 : Heap) (locs1 : List Loc), post v μ' → zH ω A μ' H1 → va_S A H0 H1 locs1 → W p l e R s m args below meth c H1 locs1 0 0 Q (F0 m (pc + 3) ls (v.toList ++ rest))) : W p l e R s m args below meth c H locs 0 0 Q (F0 m pc ls st0) := by
  intro T hT X
  obtain ⟨v, st₀, t, T', L, h0, X', hL, e1, e2, ⟨⟨v', μ', hv, hp, hb⟩, hz, hk⟩, st⟩ := hr T hT X
  cases hv
  rw [h0] at hz hk
  obtain ⟨t2, a1, b1⟩ := kk v μ' T'.heap (locs ++ L) hp (by rw [e1]; exact hb)
    ⟨Nat.le_trans hS.1 (by rw [e1]; exact hz), fun q h1 h2 => by rw [e1, hk q (Nat.lt_of_lt_of_le h1 hS.1) h2]; exact hS.2.1 q h1 h2, fun q hq => by
      rcases List.mem_append.mp hq with h | h
      · exact hS.2.2 q h
      · exact hL q h⟩ T' rfl X'
  exact ⟨t2, st t2 a1, b1⟩
end ZCALL
section ZCR
variable {Γ : zG} {ω : zO} {own : String} {cc : ByteArray} {nL fr lo : Nat} {rt : Option FieldType} {post : Option Value → zM → Prop} {μ : zM} {pc : Nat} {L : List (Nat × Value)} {rest : List Value}
variable {y : MethodName} {bytes : ByteArray} {maxL fr1 lo1 index : Nat} {ret : Option FieldType} {post1 : Option Value → zM → Prop}
theorem zP_blind {A : Nat → Prop} {vs : List Value} : FrameBlind (va_Pc vs (zP ω A μ)) := fun a U g mk q => ⟨q.1, zK.same (u := U) (U := U.calling g mk a) rfl q.2.1, q.2.2⟩
/-- a virtual call of the cell o's method -/
theorem z_callV (h : zC Γ ω own cc nL fr lo rt post) {ci : Nat} {T : u_T} {N : Nat} {o : Int} (As : List Value) (nA : Nat) (hnA : As.length = nA) (hdg : decode cc pc = .ok (.invokevirtual index, 3)) (hM : ∀ l, zMet l ω Γ.2.2.1 y bytes maxL ret fr1 lo1 (.ref (ω.2.2.2.1 o) :: As) μ post1)
    (h1 : Cond.methodLink own index y ∈ AL) (h2 : Cond.instanceMethod y ∈ AL) (h3 : Cond.selects y.cls y y ∈ AL) (h4 : Cond.initialized y.cls ∈ AL) (h5 : Cond.code y bytes maxL ret ∈ AL) (hd : y.cls = y.cls ∧ y.cls ≠ "java/lang/invoke/MethodHandle" ∧ y.cls ≠ "java/lang/invoke/VarHandle" ∧ (parseMethodDescriptor y.desc).map (fun d => d.parameters.length) = some nA) (hfr1 : fr1 + 1 ≤ fr) (hlo1 : 8 + (maxL + 11) + lo1 ≤ lo)
    (hcl : 0 ≤ o ∧ o < (ω.2.2.1 : Int)) {F : (Int → Int) → List Value} (he : ∀ r, ω.2.2.2.2 o r = .inr (ci, F r)) (hc : zcl[ci]? = some (y.cls, T, N)) (hcat : (rest.map fun v => v.category).sum ≤ 8)
    (kk : ∀ (v : Option Value) (μ' : zM), post1 v μ' → Z Γ ω μ' (pc + 3) L (v.toList ++ rest)) {st : List Value} (hst : st = As.reverse ++ .ref (ω.2.2.2.1 o) :: rest) : Z Γ ω μ pc L st := by
  obtain ⟨p, l, e, R, s, m, args, below, meth, c, hV, hH0, hnl, hx, hb, hml, hown, hts, hK, hr, hlk, hfr, hlo⟩ := h
  intro H locs ls hH hS hl
  have K := fun v μ' H locs q hH hS => kk v μ' q H locs ls hH hS hl
  rw [hV] at K ⊢
  refine zc_go (va_runV (As := As) (rest := rest) ⟨hx, hb, hml, hown, hts⟩ (hM l) (cwV nA hts (al_gv h1 h2 h3 h4 h5) rfl rfl rfl hd ⟨Nat.le_trans hfr1 hfr, Nat.le_trans hlo1 hlo⟩) ⟨zP_blind, va_recv hK.1 hH.1 hc (by rw [zws_at hcl.1 hcl.2, he]), fun U hU hW => ⟨rfl, hK.warm hW, by rw [hU]; exact hH⟩⟩ rfl hnA (by show ls.size = _; rw [hl.1, hnl]) hst (lv_room hcat) hdg ⟨Nat.zero_le _, Nat.zero_le _⟩) hS (fun v μ' H1 locs1 q1 q2 q3 => K v μ' H1 locs1 q1 q2 q3)
/-- a static call within the class -/
theorem z_callS (h : zC Γ ω own cc nL fr lo rt post) (As : List Value) (nA : Nat) (hnA : As.length = nA) (hdg : decode cc pc = .ok (.invokestatic index, 3)) (hM : ∀ l, zMet l ω Γ.2.2.1 y bytes maxL ret fr1 lo1 As μ post1)
    (h1 : Cond.methodLink own index y ∈ AL) (h2 : Cond.static y ∈ AL) (h4 : Cond.initialized y.cls ∈ AL) (h5 : Cond.code y bytes maxL ret ∈ AL) (hd : y.cls ≠ "java/lang/invoke/MethodHandle" ∧ y.cls ≠ "java/lang/invoke/VarHandle" ∧ (parseMethodDescriptor y.desc).map (fun d => d.parameters.length) = some nA) (hfr1 : fr1 + 1 ≤ fr) (hlo1 : 8 + (maxL + 11) + lo1 ≤ lo)
    (hcat : (rest.map fun v => v.category).sum ≤ 8)
    (kk : ∀ (v : Option Value) (μ' : zM), post1 v μ' → Z Γ ω μ' (pc + 3) L (v.toList ++ rest)) {st : List Value} (hst : st = As.reverse ++ rest) : Z Γ ω μ pc L st := by
  obtain ⟨p, l, e, R, s, m, args, below, meth, c, hV, hH0, hnl, hx, hb, hml, hown, hts, hK, hr, hlk, hfr, hlo⟩ := h
  intro H locs ls hH hS hl
  have K := fun v μ' H locs q hH hS => kk v μ' q H locs ls hH hS hl
  rw [hV] at K ⊢
  refine zc_go (va_runS (As := As) (rest := rest) ⟨hx, hb, hml, hown, hts⟩ (hM l) (va_cwS nA hts (al_gs h1 h2 h4 h5) rfl rfl rfl hd ⟨Nat.le_trans hfr1 hfr, Nat.le_trans hlo1 hlo⟩) ⟨zP_blind, fun U hU hW => ⟨rfl, hK.warm hW, by rw [hU]; exact hH⟩⟩ rfl hnA (by show ls.size = _; rw [hl.1, hnl]) hst (lv_room hcat) hdg ⟨Nat.zero_le _, Nat.zero_le _⟩) hS (fun v μ' H1 locs1 q1 q2 q3 => K v μ' H1 locs1 q1 q2 q3)
/-- a static call of a private method of the nest's host -/
theorem z_callSN (h : zC Γ ω own cc nL fr lo rt post) (As : List Value) (nA : Nat) (hnA : As.length = nA) (hdg : decode cc pc = .ok (.invokestatic index, 3)) (hM : ∀ l, zMet l ω Γ.2.2.1 y bytes maxL ret fr1 lo1 As μ post1)
    (h1 : Cond.methodLinkNest own index y RX7 ∈ zNst) (h2 : Cond.static y ∈ AL) (h4 : Cond.initialized y.cls ∈ AL) (h5 : Cond.code y bytes maxL ret ∈ AL) (hd : y.cls ≠ "java/lang/invoke/MethodHandle" ∧ y.cls ≠ "java/lang/invoke/VarHandle" ∧ (parseMethodDescriptor y.desc).map (fun d => d.parameters.length) = some nA) (hfr1 : fr1 + 1 ≤ fr) (hlo1 : 8 + (maxL + 11) + lo1 ≤ lo)
    (hcat : (rest.map fun v => v.category).sum ≤ 8)
    (kk : ∀ (v : Option Value) (μ' : zM), post1 v μ' → Z Γ ω μ' (pc + 3) L (v.toList ++ rest)) {st : List Value} (hst : st = As.reverse ++ rest) : Z Γ ω μ pc L st := by
  obtain ⟨p, l, e, R, s, m, args, below, meth, c, hV, hH0, hnl, hx, hb, hml, hown, hts, hK, hr, hlk, hfr, hlo⟩ := h
  intro H locs ls hH hS hl
  have K := fun v μ' H locs q hH hS => kk v μ' q H locs ls hH hS hl
  rw [hV] at K ⊢
  refine zc_go (va_runSN (As := As) (rest := rest) ⟨hx, hb, hml, hown, hts⟩ (hM l) ⟨va_cnB nA hts (al_g h5) rfl rfl rfl (hK.2 _ h1) (hts _ h4) hd ⟨Nat.le_trans hfr1 hfr, Nat.le_trans hlo1 hlo⟩, hts _ h2, trivial⟩ ⟨zP_blind, fun U hU hW => ⟨rfl, hK.warm hW, by rw [hU]; exact hH⟩⟩ rfl hnA (by show ls.size = _; rw [hl.1, hnl]) hst (lv_room hcat) hdg ⟨Nat.zero_le _, Nat.zero_le _⟩) hS (fun v μ' H1 locs1 q1 q2 q3 => K v μ' H1 locs1 q1 q2 q3)
def zpI (r : Value) (P : zM → Prop) : Option Value → zM → Prop := fun v μ' => v = some r ∧ P μ'
def zpV (P : zM → Prop) : Option Value → zM → Prop := fun v μ' => v = none ∧ P μ'
theorem zk_pure {r : Value} (kk : Z Γ ω μ pc L (r :: rest)) : ∀ (v : Option Value) (μ' : zM), zpI r (fun m => m = μ) v μ' → Z Γ ω μ' pc L (v.toList ++ rest) := by
  intro v μ' h
  rw [h.1, h.2]
  exact kk
theorem zk_int {r : Value} {P : zM → Prop} (kk : ∀ μ', P μ' → Z Γ ω μ' pc L (r :: rest)) : ∀ (v : Option Value) (μ' : zM), zpI r P v μ' → Z Γ ω μ' pc L (v.toList ++ rest) := by
  intro v μ' h
  rw [h.1]
  exact kk μ' h.2
theorem zk_void {P : zM → Prop} (kk : ∀ μ', P μ' → Z Γ ω μ' pc L rest) : ∀ (v : Option Value) (μ' : zM), zpV P v μ' → Z Γ ω μ' pc L (v.toList ++ rest) := by
  intro v μ' h
  rw [h.1]
  exact kk μ' h.2
end ZCR
