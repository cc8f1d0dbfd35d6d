/-! THE NUMBERS: d is a desk (0: 4 ships, 5 cargoes, 6 cancelled, 7 called off; 1, 2: x, y; 6 + k: a ship; 11 + k: its fixtures; 16 + c: a cargo) -/
def zabs (x : Int) : Int := if x < 0 then -x else x
def sFar (d : zM) (p q : Int) : Int := 10 * (zabs (d 1 p - d 1 q) + zabs (d 2 p - d 2 q))
def sSail (d : zM) (k p q : Int) : Int := (sFar d p q + 24 * d (6 + k) 1 - 1) / (24 * d (6 + k) 1)
def sArr (d : zM) (k c p t : Int) : Int := t + sSail d k p (d (16 + c) 1)
def sLoad (d : zM) (k c p t : Int) : Int := if sArr d k c p t < d (16 + c) 3 then d (16 + c) 3 else sArr d k c p t
def sFree (d : zM) (k c p t : Int) : Int := sLoad d k c p t + 2 + sSail d k (d (16 + c) 1) (d (16 + c) 2) + 2
def sEarn (d : zM) (k c p t : Int) : Int := d (16 + c) 0 * d (16 + c) 5 - (sFree d k c p t - t) * d (6 + k) 2
def sMarg (d : zM) (k c p t : Int) : Int := d (16 + c) 4 - sArr d k c p t
/-- port, day and sum of earnings behind the first n fixtures of ship k -/
def sPos (d : zM) (k : Int) : Nat → Int × Int × Int
  | 0 => (d (6 + k) 3, d (6 + k) 4, 0)
  | n + 1 => (d (16 + d (11 + k) (n : Int)) 2, sFree d k (d (11 + k) (n : Int)) (sPos d k n).1 (sPos d k n).2.1, (sPos d k n).2.2 + sEarn d k (d (11 + k) (n : Int)) (sPos d k n).1 (sPos d k n).2.1)
/-! bounds -/
def bP (d : zM) : Prop := ∀ p, 0 ≤ p ∧ p ≤ 7 → (0 ≤ d 1 p ∧ d 1 p ≤ 99) ∧ (0 ≤ d 2 p ∧ d 2 p ≤ 99)
def bN (d : zM) : Prop := (0 ≤ d 0 4 ∧ d 0 4 ≤ 5) ∧ (0 ≤ d 0 5 ∧ d 0 5 ≤ 10)
def bS (d : zM) (k : Int) : Prop := (1 ≤ d (6 + k) 0 ∧ d (6 + k) 0 ≤ 99) ∧ (1 ≤ d (6 + k) 1 ∧ d (6 + k) 1 ≤ 20) ∧ (1 ≤ d (6 + k) 2 ∧ d (6 + k) 2 ≤ 99) ∧ (0 ≤ d (6 + k) 3 ∧ d (6 + k) 3 ≤ 7) ∧ (0 ≤ d (6 + k) 4 ∧ d (6 + k) 4 ≤ 1999) ∧ (0 ≤ d (6 + k) 6 ∧ d (6 + k) 6 ≤ 10)
def bC (d : zM) (c : Int) : Prop := (1 ≤ d (16 + c) 0 ∧ d (16 + c) 0 ≤ 99) ∧ (0 ≤ d (16 + c) 1 ∧ d (16 + c) 1 ≤ 7) ∧ (0 ≤ d (16 + c) 2 ∧ d (16 + c) 2 ≤ 7) ∧ (0 ≤ d (16 + c) 3 ∧ d (16 + c) 3 ≤ 999) ∧ (0 ≤ d (16 + c) 4 ∧ d (16 + c) 4 ≤ 999) ∧ (1 ≤ d (16 + c) 5 ∧ d (16 + c) 5 ≤ 99) ∧ (0 ≤ d (16 + c) 6 ∧ d (16 + c) 6 ≤ 2)
/-- ports, counts, ships and cargoes in their ranges -/
def bD (d : zM) : Prop := bN d ∧ bP d ∧ (∀ k, 0 ≤ k ∧ k < d 0 4 → bS d k) ∧ (∀ c, 0 ≤ c ∧ c < d 0 5 → bC d c)
theorem zabs_b {x : Int} (h : -99 ≤ x ∧ x ≤ 99) : 0 ≤ zabs x ∧ zabs x ≤ 99 := by unfold zabs; split <;> omega
theorem zabs_s (x y : Int) : zabs (x - y) = zabs (y - x) := by unfold zabs; split <;> split <;> omega
theorem sFar_b {d : zM} {p q : Int} (hP : bP d) (hp : 0 ≤ p ∧ p ≤ 7) (hq : 0 ≤ q ∧ q ≤ 7) : 0 ≤ sFar d p q ∧ sFar d p q ≤ 1980 := by
  have h1 := hP p hp
  have h2 := hP q hq
  have h3 := zabs_b (x := d 1 p - d 1 q) (by omega)
  have h4 := zabs_b (x := d 2 p - d 2 q) (by omega)
  unfold sFar
  omega
theorem sSail_b {d : zM} {k p q : Int} (hP : bP d) (hp : 0 ≤ p ∧ p ≤ 7) (hq : 0 ≤ q ∧ q ≤ 7) (hs : 1 ≤ d (6 + k) 1 ∧ d (6 + k) 1 ≤ 20) : 0 ≤ sSail d k p q ∧ sSail d k p q ≤ 83 := by
  have h1 := sFar_b hP hp hq
  unfold sSail
  refine ⟨Int.ediv_nonneg (by omega) (by omega), ?_⟩
  have h2 : (sFar d p q + 24 * d (6 + k) 1 - 1) / (24 * d (6 + k) 1) < 84 := Int.ediv_lt_of_lt_mul (by omega) (by omega)
  omega
theorem vw_c5 {μ : zM} {b i z : Int} : vw (zup μ (b + 5) i z) b = vw μ b := vw_eq (fun o i' h => zup_n (by unfold zrel at h; omega))
theorem vw_fr5 {μ μ' : zM} {b : Int} (h : ∀ c, c ≠ b + 5 → μ' c = μ c) : vw μ' b = vw μ b := vw_eq (fun o i' h' => by rw [h _ (by unfold zrel at h'; omega)])
/-- only the course of the desk b has changed; its eight numbers -/
def zCo (μ : zM) (b : Int) (μ' : zM) (p t a l dy en et mg : Int) : Prop := (∀ c, c ≠ b + 5 → μ' c = μ c) ∧ μ' (b + 5) 0 = p ∧ μ' (b + 5) 1 = t ∧ μ' (b + 5) 2 = a ∧ μ' (b + 5) 3 = l ∧ μ' (b + 5) 4 = dy ∧ μ' (b + 5) 5 = en ∧ μ' (b + 5) 6 = et ∧ μ' (b + 5) 7 = mg
theorem vw_far {μ : zM} {b c i z : Int} (h : c < b ∨ b + 26 ≤ c) : vw (zup μ c i z) b = vw μ b := vw_eq (fun o i' h' => zup_n (by unfold zrel at h'; omega))
theorem vw_ch {μ : zM} {b i z : Int} (h : 9 ≤ i) : vw (zup μ b i z) b = vw μ b := vw_eq (fun o i' h' => zup_n (by unfold zrel at h'; omega))
theorem vw_up0 {μ : zM} {b i z : Int} (h : zrel 0 i) : vw (zup μ b i z) b = zup (vw μ b) 0 i z := by
  have := vw_up (μ := μ) (b := b) (z := z) h
  rwa [Int.add_zero] at this
theorem vw_upk {μ : zM} {b o k i z : Int} (h : zrel (o + k) i) : vw (zup μ (b + o + k) i z) b = zup (vw μ b) (o + k) i z := by
  rw [Int.add_assoc]
  exact vw_up h
