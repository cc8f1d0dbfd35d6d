/-! THE TEXT -/
/-- the character at i; 0 outside the text -/
def cAt (L : Int) (t : Int → Int) (i : Int) : Int := if 0 ≤ i ∧ i ≤ L - 1 then t i else 0
/-- reads up to f digits from e on: where they end, and the number -/
def sRd (L : Int) (t : Int → Int) : Nat → Int → Int → Int × Int
  | 0, e, v => (e, v)
  | f + 1, e, v => if 48 ≤ cAt L t e ∧ cAt L t e ≤ 57 then sRd L t f (e + 1) (10 * v + cAt L t e - 48) else (e, v)
theorem sRd_p {L : Int} {t : Int → Int} {f : Nat} {e v : Int} (h : 48 ≤ cAt L t e ∧ cAt L t e ≤ 57) : sRd L t (f + 1) e v = sRd L t f (e + 1) (10 * v + cAt L t e - 48) := if_pos h
theorem sRd_n {L : Int} {t : Int → Int} {f : Nat} {e v : Int} (h : ¬ (48 ≤ cAt L t e ∧ cAt L t e ≤ 57)) : sRd L t (f + 1) e v = (e, v) := if_neg h
theorem sRd_0 {L : Int} {t : Int → Int} {e v : Int} : sRd L t 0 e v = (e, v) := rfl
theorem cAt_b {μ : zM} {L : Int} {t : Int → Int} (H : zTx μ L t) (i : Int) : 0 ≤ cAt L t i ∧ cAt L t i ≤ 126 := by
  unfold cAt
  split
  · rename_i q
    have := (H.2.2 i (by omega)).2
    omega
  · omega
theorem cAt_in {μ : zM} {L : Int} {t : Int → Int} (H : zTx μ L t) {i : Int} (h : cAt L t i ≠ 0) : 0 ≤ i ∧ i < L := by
  unfold cAt at h
  split at h
  · omega
  · exact absurd rfl h
/-- how many numbers an order has, by its letter -/
def cNum (c : Int) : Int := if c = 99 then 6 else if c = 100 then 2 else if c = 102 then 2 else if c = 115 then 5 else 0
/-- reads r numbers from e on, the k-th first: whether all are there, where it ends, the numbers -/
def sNums (L : Int) (t : Int → Int) : Nat → Int → (Int → Int) → Int → Int × Int × (Int → Int)
  | 0, e, f, _ => (1, e, f)
  | r + 1, e, f, k => if (sRd L t 3 e 0).1 = e then (0, e, fun j => if j = k then (sRd L t 3 e 0).2 else f j) else
    if cAt L t (sRd L t 3 e 0).1 = (if r = 0 then 59 else 44) then sNums L t r ((sRd L t 3 e 0).1 + 1) (fun j => if j = k then (sRd L t 3 e 0).2 else f j) (k + 1) else (0, (sRd L t 3 e 0).1, fun j => if j = k then (sRd L t 3 e 0).2 else f j)
theorem sRd_b {μ : zM} {L : Int} {t : Int → Int} (H : zTx μ L t) : ∀ (f : Nat) (e v : Int), 0 ≤ e → 0 ≤ v → e ≤ (sRd L t f e v).1 ∧ (sRd L t f e v).1 ≤ e + (f : Int) ∧ 0 ≤ (sRd L t f e v).2 ∧ (e < (sRd L t f e v).1 → (sRd L t f e v).1 ≤ L) ∧ (sRd L t f e v).2 < (v + 1) * 10 ^ f := by
  intro f
  induction f with
  | zero => intro e v he hv; exact ⟨Int.le_refl _, by simp [sRd], hv, fun q => absurd q (by simp [sRd]), by simp [sRd]; omega⟩
  | succ f ih =>
    intro e v he hv
    by_cases q : 48 ≤ cAt L t e ∧ cAt L t e ≤ 57
    · rw [sRd_p q]
      have i1 := ih (e + 1) (10 * v + cAt L t e - 48) (by omega) (by omega)
      have i2 := cAt_in H (i := e) (by omega)
      refine ⟨by omega, by omega, i1.2.2.1, fun z => ?_, ?_⟩
      · by_cases w : e + 1 < (sRd L t f (e + 1) (10 * v + cAt L t e - 48)).1
        · exact i1.2.2.2.1 w
        · omega
      · have h5 : (10 * v + cAt L t e - 48 + 1) * 10 ^ f ≤ ((v + 1) * 10) * 10 ^ f := Int.mul_le_mul_of_nonneg_right (by omega) (Int.le_of_lt (Int.pow_pos (by omega)))
        have h6 : ((v + 1) * 10) * 10 ^ f = (v + 1) * 10 ^ (f + 1) := by rw [Int.pow_succ, Int.mul_assoc, Int.mul_comm 10]
        omega
    · rw [sRd_n q]
      refine ⟨Int.le_refl _, by omega, hv, fun z => absurd z (by omega), ?_⟩
      have h7 : (v + 1) * 1 ≤ (v + 1) * 10 ^ (f + 1) := Int.mul_le_mul_of_nonneg_left (Int.pow_pos (by omega)) (by omega)
      show v < _
      omega
theorem sRd_3 {μ : zM} {L : Int} {t : Int → Int} (H : zTx μ L t) {e : Int} (he : 0 ≤ e) : e ≤ (sRd L t 3 e 0).1 ∧ (sRd L t 3 e 0).1 ≤ e + 3 ∧ (0 ≤ (sRd L t 3 e 0).2 ∧ (sRd L t 3 e 0).2 ≤ 999) ∧ (e < (sRd L t 3 e 0).1 → (sRd L t 3 e 0).1 ≤ L) := by
  have := sRd_b H 3 e 0 he (Int.le_refl _)
  have h9 : ((0 : Int) + 1) * 10 ^ 3 = 1000 := by decide
  omega
def opType (L : Int) (t : Int → Int) (c : Int) : Int × Int × (Int → Int) := if ¬ (32 ≤ c ∧ c ≤ 126) then (-1000001, L, t) else if 60 ≤ L then (-1000003, L, t) else (L + 1, L + 1, fun j => if j = L then c else t j)
theorem zSt_type {μ μ' d : zM} {n L c : Int} {h : Int → zM} {t : Int → Int} (H : zSt μ d n h L t) (hc : 32 ≤ c ∧ c ≤ 126) (hL : L < 60) (e1 : μ' 159 1 = L + 1) (e2 : μ' 160 L = c) (e3 : ∀ c i, (c = 159 → i ≠ 1) → (c = 160 → i ≠ L) → μ' c i = μ c i) : zSt μ' d n h (L + 1) (fun j => if j = L then c else t j) := by
  obtain ⟨h1, h2, h3, h4, h5⟩ := H
  refine ⟨?_, zHi_fr h2 (fun c hc => by funext i; exact e3 c i (by omega) (by omega)), e1, by omega, fun i hi => ?_⟩
  · rw [← h1]
    exact vw_eq (fun o i hr => e3 _ _ (by unfold zrel at hr; omega) (by unfold zrel at hr; omega))
  · by_cases q : i = L
    · subst q
      show μ' 160 i = (if i = i then c else t i) ∧ (32 ≤ (if i = i then c else t i) ∧ (if i = i then c else t i) ≤ 126)
      rw [e2, if_pos rfl]
      exact ⟨rfl, hc⟩
    · show μ' 160 i = (if i = L then c else t i) ∧ (32 ≤ (if i = L then c else t i) ∧ (if i = L then c else t i) ≤ 126)
      rw [e3 160 i (by omega) (by omega), if_neg q]
      exact h5 i (by omega)
theorem zSt_clear {μ μ' d : zM} {n L : Int} {h : Int → zM} {t : Int → Int} (H : zSt μ d n h L t) (e1 : μ' 159 1 = 0) (e3 : ∀ c i, (c ≠ 159 ∨ i ≠ 1) → μ' c i = μ c i) : zSt μ' d n h 0 t := by
  obtain ⟨h1, h2, h3, h4, h5⟩ := H
  refine ⟨?_, zHi_fr h2 (fun c hc => by funext i; exact e3 c i (by omega)), e1, by omega, fun i hi => absurd hi (by omega)⟩
  rw [← h1]
  exact vw_eq (fun o i hr => e3 _ _ (by unfold zrel at hr; omega))
