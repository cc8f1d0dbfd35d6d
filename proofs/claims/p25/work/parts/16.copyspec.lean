/-- desk b is being made like desk b2: its ports, nS ships, nC cargoes are -/
def zCp (μ : zM) (b b2 : Int) (nS nC : Int) (μ1 : zM) : Prop := zFd μ b μ1 ∧ ∀ o i, zrel o i → ((1 ≤ o ∧ o ≤ 2) ∨ (6 ≤ o ∧ o < 6 + nS) ∨ (11 ≤ o ∧ o < 11 + nS) ∨ (16 ≤ o ∧ o < 16 + nC)) → μ1 (b + o) i = μ (b2 + o) i
theorem zCp_ship {μ μ1 μ2 : zM} {b b2 n nC : Int} (hbb : b2 + 26 ≤ b ∨ b + 26 ≤ b2) (hn : 0 ≤ n ∧ n < 5) (h : zCp μ b b2 n nC μ1)
    (h1 : ∀ c i, c ≠ b + 6 + n → c ≠ b + 11 + n → μ2 c i = μ1 c i) (h2 : ∀ i, 0 ≤ i ∧ i < 7 → μ2 (b + 6 + n) i = μ1 (b2 + 6 + n) i) (h3 : ∀ i, 0 ≤ i ∧ i < 10 → μ2 (b + 11 + n) i = μ1 (b2 + 11 + n) i) : zCp μ b b2 (n + 1) nC μ2 := by
  refine ⟨fun c hc => ?_, fun o i hr ho => ?_⟩
  · funext i
    rw [h1 c i (by omega) (by omega), h.1 c hc]
  · by_cases e1 : o = 6 + n
    · unfold zrel at hr
      rw [e1, ← Int.add_assoc, h2 i (by omega), h.1 _ (by omega), ← Int.add_assoc]
    · by_cases e2 : o = 11 + n
      · unfold zrel at hr
        rw [e2, ← Int.add_assoc, h3 i (by omega), h.1 _ (by omega), ← Int.add_assoc]
      · rw [h1 _ i (by omega) (by omega)]
        exact h.2 o i hr (by omega)
theorem zCp_cargo {μ μ1 μ2 : zM} {b b2 n nS : Int} (hbb : b2 + 26 ≤ b ∨ b + 26 ≤ b2) (hn : 0 ≤ n ∧ n < 10) (hS : nS ≤ 5) (h : zCp μ b b2 nS n μ1)
    (h1 : ∀ c i, c ≠ b + 16 + n → μ2 c i = μ1 c i) (h2 : ∀ i, 0 ≤ i ∧ i < 8 → μ2 (b + 16 + n) i = μ1 (b2 + 16 + n) i) : zCp μ b b2 nS (n + 1) μ2 := by
  refine ⟨fun c hc => ?_, fun o i hr ho => ?_⟩
  · funext i
    rw [h1 c i (by omega), h.1 c hc]
  · by_cases e1 : o = 16 + n
    · unfold zrel at hr
      rw [e1, ← Int.add_assoc, h2 i (by omega), h.1 _ (by omega), ← Int.add_assoc]
    · rw [h1 _ i (by omega)]
      exact h.2 o i hr (by omega)
theorem zCp_all {μ μ1 μ2 : zM} {b b2 : Int} (h : zCp μ b b2 5 10 μ1) (h1 : ∀ c, c ≠ b → μ2 c = μ1 c) (h2 : ∀ i, 4 ≤ i ∧ i < 8 → μ2 b i = μ b2 i) : vw μ2 b = vw μ b2 ∧ zFd μ b μ2 := by
  constructor
  · refine vw_eq (fun o i hr => ?_)
    by_cases e : o = 0
    · subst e
      unfold zrel at hr
      rw [Int.add_zero, Int.add_zero, h2 i (by omega)]
    · rw [h1 _ (by omega)]
      exact h.2 o i hr (by unfold zrel at hr; omega)
  · intro c hc
    rw [h1 c (by omega), h.1 c hc]
