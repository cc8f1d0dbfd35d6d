/-- the reference has gone through the first n fixtures of ship k, none of them too late -/
def rGo (d : zM) (k : Int) (n : Nat) (μ' : zM) : Prop := μ' 0 12 = (sPos d k n).1 ∧ μ' 0 13 = (sPos d k n).2.1 ∧ μ' 0 14 = (sPos d k n).2.2 ∧ μ' 0 15 = (n : Int)
/-- a ship's fixtures are cargoes -/
def fOk (d : zM) (k : Int) (N : Nat) : Prop := ∀ n : Nat, n < N → 0 ≤ d (11 + k) (n : Int) ∧ d (11 + k) (n : Int) < d 0 5
theorem bP_of {d0 d : zM} (hpe : ∀ p, d0 1 p = d 1 p ∧ d0 2 p = d 2 p) (h : bP d0) : bP d := fun p hp => by rw [← (hpe p).1, ← (hpe p).2]; exact h p hp
/-- if no fixture is too late all are gone through -/
theorem sTime_all {d : zM} {k : Int} : ∀ (r n : Nat), (∀ m : Nat, n ≤ m ∧ m < n + r → 0 ≤ sMarg d k (d (11 + k) (m : Int)) (sPos d k m).1 (sPos d k m).2.1) → sTime d k r n = n + r := by
  intro r
  induction r with
  | zero => intro n _; rfl
  | succ r ih =>
    intro n h
    have := h n (by omega)
    rw [sTime_n (by omega), ih (n + 1) (fun m hm => h m (by omega))]
    omega
/-- only slot t of the row has changed -/
def rF1 (t : Int) (μ μ' : zM) : Prop := (∀ c, c ≠ 1 → μ' c = μ c) ∧ ∀ x, x < 190 * t ∨ 190 * t + 190 ≤ x → μ' 1 x = μ 1 x
theorem rF1_v {t u : Int} {μ μ' : zM} (h : rF1 t μ μ') (hu : u ≠ t) : rv μ' u = rv μ u := rv_eq (fun o i hr => h.2 _ (by have := rp_b hr; omega))
theorem sInT_all {d : zM} {k : Int} (h : ∀ n : Nat, n < sNum d k → 0 ≤ sMarg d k (d (11 + k) (n : Int)) (sPos d k n).1 (sPos d k n).2.1) : sInT d k = sNum d k := by
  unfold sInT
  rw [sTime_all (sNum d k) 0 (fun m hm => h m (by omega))]
  omega
theorem rv_cp {μ μ' : zM} {a b : Int} (h : ∀ j, 0 ≤ j ∧ j < 190 → μ' 1 (190 * b + j) = μ 1 (190 * a + j)) : rv μ' b = rv μ a := rv_eq (fun o i hr => h _ (rp_b hr))
/-- the history as the reference has it: slots 1 to 4 -/
def rHi (μ : zM) (n : Int) (h : Int → zM) : Prop := μ 0 1 = n ∧ (0 ≤ n ∧ n ≤ 4) ∧ ∀ i, 0 ≤ i ∧ i < n → rv μ (i + 1) = h i
