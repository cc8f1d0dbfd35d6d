theorem zup_cm {d : zM} {o i z o' i' z' : Int} (h : o ≠ o' ∨ i ≠ i') : zup (zup d o i z) o' i' z' = zup (zup d o' i' z') o i z := by
  funext p q
  by_cases e : p = o ∧ q = i
  · rw [e.1, e.2, zup_n (by omega), zup_s, zup_s]
  · by_cases e' : p = o' ∧ q = i'
    · rw [e'.1, e'.2, zup_s, zup_n (by omega), zup_s]
    · rw [zup_n (by omega), zup_n (by omega), zup_n (by omega), zup_n (by omega)]
/-- a ship's number and dropping change places -/
theorem sDrop_up {k st o i z : Int} (ho : o < 11) (hk : 0 ≤ k) : ∀ (r : Nat) (x : Int) (d : zM), (∀ j : Int, x ≤ j ∧ j < x + (r : Int) → 0 ≤ d (11 + k) j) → k < 5 → sDrop k st r x (zup d o i z) = zup (sDrop k st r x d) o i z := by
  intro r
  induction r with
  | zero => intro x d _ _; rfl
  | succ r ih =>
    intro x d h hk5
    have h0 := h x (by omega)
    show sDrop k st r (x + 1) (zup (zup d o i z) (16 + (zup d o i z) (11 + k) x) 6 st) = zup (sDrop k st r (x + 1) (zup d (16 + d (11 + k) x) 6 st)) o i z
    rw [show (zup d o i z) (11 + k) x = d (11 + k) x from zup_n (by omega), zup_cm (by omega)]
    exact ih (x + 1) _ (fun j hj => by rw [zup_n (by omega)]; exact h j (by omega)) hk5
theorem rSl_rf (μ : zM) : rSl μ μ := rSl_fr (rFr_rf μ)
theorem rF1_rf (t : Int) (μ : zM) : rF1 t μ μ := ⟨fun _ _ => rfl, fun _ _ => rfl⟩
theorem rF1_up {t x z : Int} {μ μ1 : zM} (h : rF1 t μ μ1) (hx : 190 * t ≤ x ∧ x < 190 * t + 190) : rF1 t μ (zup μ1 1 x z) := ⟨fun c hc => by rw [zup_o hc]; exact h.1 c hc, fun y hy => by rw [zup_n (by omega)]; exact h.2 y hy⟩
