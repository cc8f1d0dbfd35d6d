/-- the reference has gone through the first n fixtures of ship k, none of them too late -/
def rGo (d : zM) (k : Int) (n : Nat) (μ' : zM) : Prop := μ' 0 12 = (sPos d k n).1 ∧ μ' 0 13 = (sPos d k n).2.1 ∧ μ' 0 14 = (sPos d k n).2.2 ∧ μ' 0 15 = (n : Int)
/-- a ship's fixtures are cargoes -/
def fOk (d : zM) (k : Int) (N : Nat) : Prop := ∀ n : Nat, n < N → 0 ≤ d (11 + k) (n : Int) ∧ d (11 + k) (n : Int) < d 0 5
theorem bP_of {d0 d : zM} (hpe : ∀ p, d0 1 p = d 1 p ∧ d0 2 p = d 2 p) (h : bP d0) : bP d := fun p hp => by rw [← (hpe p).1, ← (hpe p).2]; exact h p hp
/-- if no fixture is too late all are gone through -/
theorem sTime_all {d : zM} {k : Int} : ∀ (r n : Nat), (∀ m : Nat, n ≤ m ∧ m < n + r → 0 ≤ sMarg d k (d (11 + k) (m : Int)) (sPos d k m).1 (sPos d k m).2.1) → sTime d k r n = n + r := by
  intro r
  induction r with
  | zero => intro n _; rfl
  | succ r ih =>
    intro n h
    have := h n (by omega)
    rw [sTime_n (by omega), ih (n + 1) (fun m hm => h m (by omega))]
    omega
