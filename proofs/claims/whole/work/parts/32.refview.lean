/-! THE REFERENCE'S ROW: slot t of it as a desk -/
def rp (o i : Int) : Int := if o = 0 then (if i = 4 then 16 else if i = 5 then 107 else if i = 6 then 188 else 189) else if o = 1 then 2 * i else if o = 2 then 2 * i + 1 else if o < 11 then 17 + 18 * (o - 6) + i else if o < 16 then 24 + 18 * (o - 11) + i else 108 + 8 * (o - 16) + i
def rv (μ : zM) (t : Int) : zM := fun o i => if (o = 0 ∧ 4 ≤ i ∧ i < 8) ∨ (1 ≤ o ∧ o ≤ 2 ∧ 0 ≤ i ∧ i < 8) ∨ (6 ≤ o ∧ o < 11 ∧ 0 ≤ i ∧ i < 7) ∨ (11 ≤ o ∧ o < 16 ∧ 0 ≤ i ∧ i < 10) ∨ (16 ≤ o ∧ o < 26 ∧ 0 ≤ i ∧ i < 8) then μ 1 (190 * t + rp o i) else 0
theorem rv_in {μ : zM} {t o i : Int} (h : zrel o i) : rv μ t o i = μ 1 (190 * t + rp o i) := if_pos h
theorem rv_out {μ : zM} {t o i : Int} (h : ¬ zrel o i) : rv μ t o i = 0 := if_neg h
theorem rv_eq {μ μ' : zM} {t t' : Int} (h : ∀ o i, zrel o i → μ' 1 (190 * t' + rp o i) = μ 1 (190 * t + rp o i)) : rv μ' t' = rv μ t := by
  funext o i
  by_cases h' : zrel o i
  · rw [rv_in h', rv_in h', h o i h']
  · rw [rv_out h', rv_out h']
theorem rp_b {o i : Int} (h : zrel o i) : 0 ≤ rp o i ∧ rp o i < 190 := by
  unfold zrel at h
  unfold rp
  split
  · split
    · omega
    · split
      · omega
      · split <;> omega
  · split
    · omega
    · split
      · omega
      · split
        · omega
        · split <;> omega
theorem rp_ship {k i : Int} (hk : 0 ≤ k ∧ k < 5) : rp (6 + k) i = 17 + 18 * k + i := by
  unfold rp
  rw [if_neg (by omega), if_neg (by omega), if_neg (by omega), if_pos (by omega)]
  omega
theorem rp_fx {k i : Int} (hk : 0 ≤ k ∧ k < 5) : rp (11 + k) i = 24 + 18 * k + i := by
  unfold rp
  rw [if_neg (by omega), if_neg (by omega), if_neg (by omega), if_neg (by omega), if_pos (by omega)]
  omega
theorem rp_cargo {k i : Int} (hk : 0 ≤ k ∧ k < 10) : rp (16 + k) i = 108 + 8 * k + i := by
  unfold rp
  rw [if_neg (by omega), if_neg (by omega), if_neg (by omega), if_neg (by omega), if_neg (by omega)]
  omega
theorem rp_inj {o i o' i' : Int} (h : zrel o i) (h' : zrel o' i') (e : rp o i = rp o' i') : o = o' ∧ i = i' := by
  unfold zrel at h h'
  have c0 : ∀ o i : Int, (o = 0 ∧ 4 ≤ i ∧ i < 8) → (i = 4 ∧ rp o i = 16) ∨ (i = 5 ∧ rp o i = 107) ∨ (i = 6 ∧ rp o i = 188) ∨ (i = 7 ∧ rp o i = 189) := by
    intro o i q
    unfold rp
    rw [if_pos q.1]
    split
    · omega
    · split
      · omega
      · split <;> omega
  have c1 : ∀ o i : Int, (1 ≤ o ∧ o ≤ 2 ∧ 0 ≤ i ∧ i < 8) → rp o i = 2 * i + (o - 1) := by
    intro o i q
    unfold rp
    rw [if_neg (by omega)]
    split
    · omega
    · rw [if_pos (by omega)]; omega
  have c2 : ∀ o i : Int, (6 ≤ o ∧ o < 11 ∧ 0 ≤ i ∧ i < 7) → rp o i = 17 + 18 * (o - 6) + i := by
    intro o i q
    unfold rp
    rw [if_neg (by omega), if_neg (by omega), if_neg (by omega), if_pos (by omega)]
  have c3 : ∀ o i : Int, (11 ≤ o ∧ o < 16 ∧ 0 ≤ i ∧ i < 10) → rp o i = 24 + 18 * (o - 11) + i := by
    intro o i q
    unfold rp
    rw [if_neg (by omega), if_neg (by omega), if_neg (by omega), if_neg (by omega), if_pos (by omega)]
  have c4 : ∀ o i : Int, (16 ≤ o ∧ o < 26 ∧ 0 ≤ i ∧ i < 8) → rp o i = 108 + 8 * (o - 16) + i := by
    intro o i q
    unfold rp
    rw [if_neg (by omega), if_neg (by omega), if_neg (by omega), if_neg (by omega), if_neg (by omega)]
  rcases h with a | a | a | a | a <;> rcases h' with b | b | b | b | b
  all_goals first
    | (have x := c0 _ _ a; have y := c0 _ _ b; omega)
    | (have x := c0 _ _ a; have y := c1 _ _ b; omega)
    | (have x := c0 _ _ a; have y := c2 _ _ b; omega)
    | (have x := c0 _ _ a; have y := c3 _ _ b; omega)
    | (have x := c0 _ _ a; have y := c4 _ _ b; omega)
    | (have x := c1 _ _ a; have y := c0 _ _ b; omega)
    | (have x := c1 _ _ a; have y := c1 _ _ b; omega)
    | (have x := c1 _ _ a; have y := c2 _ _ b; omega)
    | (have x := c1 _ _ a; have y := c3 _ _ b; omega)
    | (have x := c1 _ _ a; have y := c4 _ _ b; omega)
    | (have x := c2 _ _ a; have y := c0 _ _ b; omega)
    | (have x := c2 _ _ a; have y := c1 _ _ b; omega)
    | (have x := c2 _ _ a; have y := c2 _ _ b; omega)
    | (have x := c2 _ _ a; have y := c3 _ _ b; omega)
    | (have x := c2 _ _ a; have y := c4 _ _ b; omega)
    | (have x := c3 _ _ a; have y := c0 _ _ b; omega)
    | (have x := c3 _ _ a; have y := c1 _ _ b; omega)
    | (have x := c3 _ _ a; have y := c2 _ _ b; omega)
    | (have x := c3 _ _ a; have y := c3 _ _ b; omega)
    | (have x := c3 _ _ a; have y := c4 _ _ b; omega)
    | (have x := c4 _ _ a; have y := c0 _ _ b; omega)
    | (have x := c4 _ _ a; have y := c1 _ _ b; omega)
    | (have x := c4 _ _ a; have y := c2 _ _ b; omega)
    | (have x := c4 _ _ a; have y := c3 _ _ b; omega)
    | (have x := c4 _ _ a; have y := c4 _ _ b; omega)
theorem rv_up {μ : zM} {t o i z x : Int} (h : zrel o i) (hx : x = 190 * t + rp o i) : rv (zup μ 1 x z) t = zup (rv μ t) o i z := by
  subst hx
  funext o' i'
  by_cases h' : zrel o' i'
  · rw [rv_in h']
    by_cases e : o' = o ∧ i' = i
    · rw [e.1, e.2, zup_s, zup_s]
    · have n : rp o' i' ≠ rp o i := fun q => e (rp_inj h' h q)
      rw [zup_n (by omega), zup_n (by omega), rv_in h']
  · rw [rv_out h', zup_n (by
      by_cases e : o' = o
      · right
        intro e2
        rw [e, e2] at h'
        exact h' h
      · exact Or.inl e), rv_out h']
theorem rv_far {μ : zM} {t x z : Int} (h : x < 190 * t ∨ 190 * t + 190 ≤ x) : rv (zup μ 1 x z) t = rv μ t := rv_eq (fun o i hr => by have := rp_b hr; exact zup_n (by omega))
theorem rv_c0 {μ : zM} {t i z c : Int} (hc : c ≠ 1) : rv (zup μ c i z) t = rv μ t := rv_eq (fun o i' hr => by rw [zup_o (Ne.symm hc)])
theorem rv_1 {μ μ' : zM} {t : Int} (h : μ' 1 = μ 1) : rv μ' t = rv μ t := rv_eq (fun o i hr => by rw [h])
theorem rv_ship {μ : zM} {t k i : Int} (hk : 0 ≤ k ∧ k < 5) (h : 0 ≤ i ∧ i < 7) : rv μ t (6 + k) i = μ 1 (190 * t + 17 + 18 * k + i) := by rw [rv_in (by unfold zrel; omega), rp_ship hk]; congr 1; omega
theorem rv_fx {μ : zM} {t k i : Int} (hk : 0 ≤ k ∧ k < 5) (h : 0 ≤ i ∧ i < 10) : rv μ t (11 + k) i = μ 1 (190 * t + 17 + 18 * k + (7 + i)) := by rw [rv_in (by unfold zrel; omega), rp_fx hk]; congr 1; omega
theorem rv_cargo {μ : zM} {t k i : Int} (hk : 0 ≤ k ∧ k < 10) (h : 0 ≤ i ∧ i < 8) : rv μ t (16 + k) i = μ 1 (190 * t + 108 + 8 * k + i) := by rw [rv_in (by unfold zrel; omega), rp_cargo hk]; congr 1; omega
theorem rv_S {μ : zM} : rv μ 0 0 4 = μ 1 16 := rv_in (t := 0) (o := 0) (i := 4) (by unfold zrel; omega)
theorem rv_C {μ : zM} : rv μ 0 0 5 = μ 1 107 := rv_in (t := 0) (o := 0) (i := 5) (by unfold zrel; omega)
theorem rv_can {μ : zM} : rv μ 0 0 6 = μ 1 188 := rv_in (t := 0) (o := 0) (i := 6) (by unfold zrel; omega)
theorem rv_off {μ : zM} : rv μ 0 0 7 = μ 1 189 := rv_in (t := 0) (o := 0) (i := 7) (by unfold zrel; omega)
theorem rv_x {μ : zM} {p : Int} (h : 0 ≤ p ∧ p < 8) : rv μ 0 1 p = μ 1 (0 + 2 * p) := rv_in (t := 0) (o := 1) (i := p) (by unfold zrel; omega)
theorem rv_y {μ : zM} {p : Int} (h : 0 ≤ p ∧ p < 8) : rv μ 0 2 p = μ 1 (0 + 2 * p + 1) := by rw [rv_in (by unfold zrel; omega)]; show μ 1 (190 * 0 + (2 * p + 1)) = _; congr 1; omega
theorem zB_iff {P Q : Prop} [Decidable P] [Decidable Q] (h : P ↔ Q) : zB P = zB Q := by
  by_cases q : Q
  · rw [zB_t q, zB_t (h.mpr q)]
  · rw [zB_f q, zB_f (fun p => q (h.mp p))]
theorem sFar_e {d0 d : zM} {p q : Int} (h : ∀ p, d0 1 p = d 1 p ∧ d0 2 p = d 2 p) : sFar d0 p q = sFar d p q := by
  unfold sFar
  rw [(h p).1, (h p).2, (h q).1, (h q).2]
/-- what goes through a ship's voyages changes only the object's own numbers -/
def rFr (μ μ' : zM) : Prop := (∀ c, c ≠ 0 → μ' c = μ c) ∧ ∀ i, i < 8 → μ' 0 i = μ 0 i
theorem rFr_rf (μ : zM) : rFr μ μ := ⟨fun _ _ => rfl, fun _ _ => rfl⟩
theorem rFr_tr {μ μ1 μ2 : zM} (h : rFr μ μ1) (h2 : rFr μ1 μ2) : rFr μ μ2 := ⟨fun c hc => (h2.1 c hc).trans (h.1 c hc), fun i hi => (h2.2 i hi).trans (h.2 i hi)⟩
theorem rv_fr {μ μ' : zM} {t : Int} (h : rFr μ μ') : rv μ' t = rv μ t := rv_1 (h.1 1 (by omega))
/-- what was looked at -/
def rLook (d : zM) (k c p t : Int) (μ' : zM) : Prop := μ' 0 8 = sArr d k c p t ∧ μ' 0 9 = sLoad d k c p t ∧ μ' 0 10 = sFree d k c p t ∧ μ' 0 11 = sEarn d k c p t
