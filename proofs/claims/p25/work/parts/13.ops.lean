/-! THE CHANGES: what each answers and what the desk is then -/
def opPort (d : zM) (p x y : Int) : Int × zM := if ¬ ((0 ≤ p ∧ p ≤ 7) ∧ (0 ≤ x ∧ x ≤ 99) ∧ (0 ≤ y ∧ y ≤ 99)) then (-1000001, d) else if 0 < sCnt d 1 (d 0 5).toNat then (-1000002, d) else (100 * d 1 p + d 2 p, zup (zup d 1 p x) 2 p y)
def opShip (d : zM) (z v u p t : Int) : Int × zM := if ¬ ((1 ≤ z ∧ z ≤ 99) ∧ (1 ≤ v ∧ v ≤ 20) ∧ (1 ≤ u ∧ u ≤ 99) ∧ (0 ≤ p ∧ p ≤ 7) ∧ (0 ≤ t ∧ t ≤ 999)) then (-1000001, d) else if 5 ≤ d 0 4 then (-1000003, d) else (d 0 4, zup (zup (zup (zup (zup (zup d (6 + d 0 4) 0 z) (6 + d 0 4) 1 v) (6 + d 0 4) 2 u) (6 + d 0 4) 3 p) (6 + d 0 4) 4 t) 0 4 (d 0 4 + 1))
def opCargo (d : zM) (a l u f t w : Int) : Int × zM := if ¬ ((1 ≤ a ∧ a ≤ 99) ∧ (0 ≤ l ∧ l ≤ 7) ∧ (0 ≤ u ∧ u ≤ 7) ∧ l ≠ u ∧ (0 ≤ f ∧ f ≤ 999) ∧ (f ≤ t ∧ t ≤ 999) ∧ (1 ≤ w ∧ w ≤ 99)) then (-1000001, d) else if 10 ≤ d 0 5 then (-1000003, d) else (d 0 5, zup (zup (zup (zup (zup (zup (zup d (16 + d 0 5) 0 a) (16 + d 0 5) 1 l) (16 + d 0 5) 2 u) (16 + d 0 5) 3 f) (16 + d 0 5) 4 t) (16 + d 0 5) 5 w) 0 5 (d 0 5 + 1))
/-- the cargoes of r fixtures from x on come into the state st -/
def sDrop (k st : Int) : Nat → Int → zM → zM
  | 0, _, d => d
  | r + 1, x, d => sDrop k st r (x + 1) (zup d (16 + d (11 + k) x) 6 st)
def opFix (d : zM) (k c : Int) : Int × zM := if ¬ ((0 ≤ k ∧ k < d 0 4) ∧ (0 ≤ c ∧ c < d 0 5)) then (-1000001, d) else if ¬ (d (16 + c) 6 = 0 ∧ sCould d k c = 0) then (-1000002, d) else (sFree d k c (sEnd d k).1 (sEnd d k).2.1, zup (zup (zup (zup d (11 + k) (d (6 + k) 6) c) (6 + k) 6 (d (6 + k) 6 + 1)) (16 + c) 6 1) (16 + c) 7 k)
def sLater (d : zM) (k n : Int) : zM := zup d (6 + k) 4 (d (6 + k) 4 + n)
def opDelay (d : zM) (k n : Int) : Int × zM := if ¬ ((0 ≤ k ∧ k < d 0 4) ∧ (1 ≤ n ∧ n ≤ 99)) then (-1000001, d) else if 1999 < d (6 + k) 4 + n then (-1000003, d) else
  (d (6 + k) 6 - (sInT (sLater d k n) k : Int), zup (zup (sDrop k 2 (sNum d k - sInT (sLater d k n) k) (sInT (sLater d k n) k : Int) (sLater d k n)) (6 + k) 6 (sInT (sLater d k n) k : Int)) 0 6 (d 0 6 + (d (6 + k) 6 - (sInT (sLater d k n) k : Int))))
/-- what calling a cargo off costs -/
def sPay (d : zM) (c : Int) : Int := (d (16 + c) 0 * d (16 + c) 5 + 10 - 1) / 10
def opOff (d : zM) (k : Int) : Int × zM := if ¬ (0 ≤ k ∧ k < d 0 4) then (-1000001, d) else if d (6 + k) 6 = 0 then (-1000002, d) else
  (sPay d (d (11 + k) (d (6 + k) 6 - 1)), zup (zup (zup (sDrop k 0 1 (d (6 + k) 6 - 1) d) (6 + k) 6 (d (6 + k) 6 - 1)) (6 + k) 5 (d (6 + k) 5 - sPay d (d (11 + k) (d (6 + k) 6 - 1)))) 0 7 (d 0 7 + 1))
def opSettle (d : zM) (k : Int) : Int × zM := if ¬ (0 ≤ k ∧ k < d 0 4) then (-1000001, d) else if d (6 + k) 6 = 0 then (-1000002, d) else
  ((sEnd d k).2.2 + 1000000, zup (sDrop k 2 (sNum d k) 0 (zup (zup (zup d (6 + k) 5 (d (6 + k) 5 + (sEnd d k).2.2)) (6 + k) 3 (sEnd d k).1) (6 + k) 4 (sEnd d k).2.1)) (6 + k) 6 0)
/-- nothing outside the desk b has changed -/
def zFd (μ : zM) (b : Int) (μ' : zM) : Prop := ∀ c, c < b ∨ b + 26 ≤ c → μ' c = μ c
/-- dropping changes no cell but cargoes -/
theorem sDrop_o {k st : Int} : ∀ (r : Nat) (x : Int) (d : zM) (o i : Int), o < 16 → (∀ j : Int, x ≤ j ∧ j < x + (r : Int) → 0 ≤ d (11 + k) j) → k < 5 → sDrop k st r x d o i = d o i := by
  intro r
  induction r with
  | zero => intro x d o i _ _ _; rfl
  | succ r ih =>
    intro x d o i ho h hk
    have h0 := h x (by omega)
    show sDrop k st r (x + 1) (zup d (16 + d (11 + k) x) 6 st) o i = d o i
    rw [ih (x + 1) _ o i ho (fun j hj => by rw [zup_n (by omega)]; exact h j (by omega)) hk, zup_n (by omega)]
theorem bD_later {d : zM} {k n : Int} (hB : bD d) (hk : 0 ≤ k ∧ k < d 0 4) (hn : 1 ≤ n) (h : d (6 + k) 4 + n ≤ 1999) : bD (sLater d k n) := by
  obtain ⟨hN, hP, hS, hC⟩ := hB
  have hN' := hN
  obtain ⟨hN1, hN2⟩ := hN'
  have e : ∀ o i, (o ≠ 6 + k ∨ i ≠ 4) → sLater d k n o i = d o i := fun o i q => zup_n q
  refine ⟨?_, ?_, ?_, ?_⟩
  · unfold bN
    rw [e 0 4 (by omega), e 0 5 (by omega)]
    exact hN
  · intro p hp
    rw [e 1 p (by omega), e 2 p (by omega)]
    exact hP p hp
  · intro k' hk'
    rw [e 0 4 (by omega)] at hk'
    have h9 := hS k' hk'
    unfold bS at h9 ⊢
    rw [e (6 + k') 0 (by omega), e (6 + k') 1 (by omega), e (6 + k') 2 (by omega), e (6 + k') 3 (by omega), e (6 + k') 6 (by omega)]
    by_cases q : k' = k
    · subst q
      have e4 : sLater d k' n (6 + k') 4 = d (6 + k') 4 + n := zup_s
      rw [e4]
      omega
    · rw [e (6 + k') 4 (by omega)]
      exact h9
  · intro c hc
    rw [e 0 5 (by omega)] at hc
    have h9 := hC c hc
    unfold bC at h9 ⊢
    rw [e (16 + c) 0 (by omega), e (16 + c) 1 (by omega), e (16 + c) 2 (by omega), e (16 + c) 3 (by omega), e (16 + c) 4 (by omega), e (16 + c) 5 (by omega), e (16 + c) 6 (by omega)]
    exact h9
theorem sInT_b (d : zM) (k : Int) : sInT d k ≤ sNum d k := by
  have := (sTime_b d k (sNum d k) 0).2
  unfold sInT
  omega
theorem worth_b {d : zM} {c : Int} (hc : bC d c) : 0 ≤ d (16 + c) 0 * d (16 + c) 5 ∧ d (16 + c) 0 * d (16 + c) 5 ≤ 9801 := by
  have h0 := hc.1
  have h5 := hc.2.2.2.2.2.1
  have m1 : d (16 + c) 0 * d (16 + c) 5 ≤ 99 * 99 := Int.mul_le_mul h0.2 h5.2 (by omega) (by omega)
  have m0 : 0 ≤ d (16 + c) 0 * d (16 + c) 5 := Int.mul_nonneg (by omega) (by omega)
  omega
