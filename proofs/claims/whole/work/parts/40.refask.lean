theorem rSt_fr {μ μ1 d : zM} {n L : Int} {h : Int → zM} {t : Int → Int} (H : rSt μ d n h L t) (e : rSl μ μ1) (e0 : rv μ1 0 = rv μ 0) : rSt μ1 d n h L t := ⟨e0.trans H.1, rHi_fr H.2.1 (e.2.1 1 (by omega)) (fun x hx => e.2.2 x (by omega)), by rw [e.2.1 3 (by omega)]; exact H.2.2.1, H.2.2.2.1, fun i hi => by rw [e.1 2 (by omega)]; exact H.2.2.2.2 i hi⟩
theorem rSt_go {μ μ1 d : zM} {n L : Int} {h : Int → zM} {t : Int → Int} (H : rSt μ d n h L t) (e : rFr μ μ1) : rSt μ1 d n h L t := rSt_fr H (rSl_fr e) (rv_fr e)
theorem rSt_type {μ μ' d : zM} {n L c : Int} {h : Int → zM} {t : Int → Int} (H : rSt μ d n h L t) (hc : 32 ≤ c ∧ c ≤ 126) (hL : L < 60) (e1 : μ' 0 3 = L + 1) (e2 : μ' 2 L = c) (e3 : ∀ c i, (c = 0 → i ≠ 3) → (c = 2 → i ≠ L) → μ' c i = μ c i) : rSt μ' d n h (L + 1) (fun j => if j = L then c else t j) := by
  obtain ⟨h1, h2, h3, h4, h5⟩ := H
  have e11 : μ' 1 = μ 1 := by funext i; exact e3 1 i (by omega) (by omega)
  refine ⟨(rv_1 e11).trans h1, rHi_fr h2 (e3 0 1 (by omega) (by omega)) (fun x _ => by rw [e11]), e1, by omega, fun i hi => ?_⟩
  by_cases q : i = L
  · subst q
    show μ' 2 i = (if i = i then c else t i) ∧ (32 ≤ (if i = i then c else t i) ∧ (if i = i then c else t i) ≤ 126)
    rw [e2, if_pos rfl]
    exact ⟨rfl, hc⟩
  · show μ' 2 i = (if i = L then c else t i) ∧ (32 ≤ (if i = L then c else t i) ∧ (if i = L then c else t i) ≤ 126)
    rw [e3 2 i (by omega) (by omega), if_neg q]
    exact h5 i (by omega)
theorem rSt_clear {μ μ' d : zM} {n L : Int} {h : Int → zM} {t : Int → Int} (H : rSt μ d n h L t) (e1 : μ' 0 3 = 0) (e3 : ∀ c i, (c ≠ 0 ∨ i ≠ 3) → μ' c i = μ c i) : rSt μ' d n h 0 t := by
  obtain ⟨h1, h2, h3, h4, h5⟩ := H
  have e11 : μ' 1 = μ 1 := by funext i; exact e3 1 i (by omega)
  exact ⟨(rv_1 e11).trans h1, rHi_fr h2 (e3 0 1 (by omega)) (fun x _ => by rw [e11]), e1, by omega, fun i hi => absurd hi (by omega)⟩
