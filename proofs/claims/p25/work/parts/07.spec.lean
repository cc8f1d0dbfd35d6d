/-! THE NUMBERS: d is a desk (0: 4 ships, 5 cargoes, 6 cancelled, 7 called off; 1, 2: x, y; 6 + k: a ship; 11 + k: its fixtures; 16 + c: a cargo) -/
def zabs (x : Int) : Int := if x < 0 then -x else x
def sFar (d : zM) (p q : Int) : Int := 10 * (zabs (d 1 p - d 1 q) + zabs (d 2 p - d 2 q))
def sSail (d : zM) (k p q : Int) : Int := (sFar d p q + 24 * d (6 + k) 1 - 1) / (24 * d (6 + k) 1)
def sArr (d : zM) (k c p t : Int) : Int := t + sSail d k p (d (16 + c) 1)
def sLoad (d : zM) (k c p t : Int) : Int := if sArr d k c p t < d (16 + c) 3 then d (16 + c) 3 else sArr d k c p t
def sFree (d : zM) (k c p t : Int) : Int := sLoad d k c p t + 2 + sSail d k (d (16 + c) 1) (d (16 + c) 2) + 2
def sEarn (d : zM) (k c p t : Int) : Int := d (16 + c) 0 * d (16 + c) 5 - (sFree d k c p t - t) * d (6 + k) 2
def sMarg (d : zM) (k c p t : Int) : Int := d (16 + c) 4 - sArr d k c p t
/-- port, day and sum of earnings behind the first n fixtures of ship k -/
def sPos (d : zM) (k : Int) : Nat → Int × Int × Int
  | 0 => (d (6 + k) 3, d (6 + k) 4, 0)
  | n + 1 => (d (16 + d (11 + k) (n : Int)) 2, sFree d k (d (11 + k) (n : Int)) (sPos d k n).1 (sPos d k n).2.1, (sPos d k n).2.2 + sEarn d k (d (11 + k) (n : Int)) (sPos d k n).1 (sPos d k n).2.1)
/-! bounds -/
def bP (d : zM) : Prop := ∀ p, 0 ≤ p ∧ p ≤ 7 → (0 ≤ d 1 p ∧ d 1 p ≤ 99) ∧ (0 ≤ d 2 p ∧ d 2 p ≤ 99)
def bN (d : zM) : Prop := (0 ≤ d 0 4 ∧ d 0 4 ≤ 5) ∧ (0 ≤ d 0 5 ∧ d 0 5 ≤ 10)
def bS (d : zM) (k : Int) : Prop := (1 ≤ d (6 + k) 0 ∧ d (6 + k) 0 ≤ 99) ∧ (1 ≤ d (6 + k) 1 ∧ d (6 + k) 1 ≤ 20) ∧ (1 ≤ d (6 + k) 2 ∧ d (6 + k) 2 ≤ 99) ∧ (0 ≤ d (6 + k) 3 ∧ d (6 + k) 3 ≤ 7) ∧ (0 ≤ d (6 + k) 4 ∧ d (6 + k) 4 ≤ 1999) ∧ (0 ≤ d (6 + k) 6 ∧ d (6 + k) 6 ≤ 10)
def bC (d : zM) (c : Int) : Prop := (1 ≤ d (16 + c) 0 ∧ d (16 + c) 0 ≤ 99) ∧ (0 ≤ d (16 + c) 1 ∧ d (16 + c) 1 ≤ 7) ∧ (0 ≤ d (16 + c) 2 ∧ d (16 + c) 2 ≤ 7) ∧ (0 ≤ d (16 + c) 3 ∧ d (16 + c) 3 ≤ 999) ∧ (0 ≤ d (16 + c) 4 ∧ d (16 + c) 4 ≤ 999) ∧ (1 ≤ d (16 + c) 5 ∧ d (16 + c) 5 ≤ 99) ∧ (0 ≤ d (16 + c) 6 ∧ d (16 + c) 6 ≤ 2)
/-- ports, counts, ships and cargoes in their ranges -/
def bD (d : zM) : Prop := bN d ∧ bP d ∧ (∀ k, 0 ≤ k ∧ k < d 0 4 → bS d k) ∧ (∀ c, 0 ≤ c ∧ c < d 0 5 → bC d c)
theorem zabs_b {x : Int} (h : -99 ≤ x ∧ x ≤ 99) : 0 ≤ zabs x ∧ zabs x ≤ 99 := by unfold zabs; split <;> omega
theorem zabs_s (x y : Int) : zabs (x - y) = zabs (y - x) := by unfold zabs; split <;> split <;> omega
theorem sFar_b {d : zM} {p q : Int} (hP : bP d) (hp : 0 ≤ p ∧ p ≤ 7) (hq : 0 ≤ q ∧ q ≤ 7) : 0 ≤ sFar d p q ∧ sFar d p q ≤ 1980 := by
  have h1 := hP p hp
  have h2 := hP q hq
  have h3 := zabs_b (x := d 1 p - d 1 q) (by omega)
  have h4 := zabs_b (x := d 2 p - d 2 q) (by omega)
  unfold sFar
  omega
theorem sSail_b {d : zM} {k p q : Int} (hP : bP d) (hp : 0 ≤ p ∧ p ≤ 7) (hq : 0 ≤ q ∧ q ≤ 7) (hs : 1 ≤ d (6 + k) 1 ∧ d (6 + k) 1 ≤ 20) : 0 ≤ sSail d k p q ∧ sSail d k p q ≤ 83 := by
  have h1 := sFar_b hP hp hq
  unfold sSail
  refine ⟨Int.ediv_nonneg (by omega) (by omega), ?_⟩
  have h2 : (sFar d p q + 24 * d (6 + k) 1 - 1) / (24 * d (6 + k) 1) < 84 := Int.ediv_lt_of_lt_mul (by omega) (by omega)
  omega
theorem vw_c5 {μ : zM} {b i z : Int} : vw (zup μ (b + 5) i z) b = vw μ b := vw_eq (fun o i' h => zup_n (by unfold zrel at h; omega))
theorem vw_fr5 {μ μ' : zM} {b : Int} (h : ∀ c, c ≠ b + 5 → μ' c = μ c) : vw μ' b = vw μ b := vw_eq (fun o i' h' => by rw [h _ (by unfold zrel at h'; omega)])
/-- only the course of the desk b has changed; its eight numbers -/
def zCo (μ : zM) (b : Int) (μ' : zM) (p t a l dy en et mg : Int) : Prop := (∀ c, c ≠ b + 5 → μ' c = μ c) ∧ μ' (b + 5) 0 = p ∧ μ' (b + 5) 1 = t ∧ μ' (b + 5) 2 = a ∧ μ' (b + 5) 3 = l ∧ μ' (b + 5) 4 = dy ∧ μ' (b + 5) 5 = en ∧ μ' (b + 5) 6 = et ∧ μ' (b + 5) 7 = mg
theorem vw_far {μ : zM} {b c i z : Int} (h : c < b ∨ b + 26 ≤ c) : vw (zup μ c i z) b = vw μ b := vw_eq (fun o i' h' => zup_n (by unfold zrel at h'; omega))
theorem vw_ch {μ : zM} {b i z : Int} (h : 9 ≤ i) : vw (zup μ b i z) b = vw μ b := vw_eq (fun o i' h' => zup_n (by unfold zrel at h'; omega))
theorem vw_up0 {μ : zM} {b i z : Int} (h : zrel 0 i) : vw (zup μ b i z) b = zup (vw μ b) 0 i z := by
  have := vw_up (μ := μ) (b := b) (z := z) h
  rwa [Int.add_zero] at this
theorem vw_upk {μ : zM} {b o k i z : Int} (h : zrel (o + k) i) : vw (zup μ (b + o + k) i z) b = zup (vw μ b) (o + k) i z := by
  rw [Int.add_assoc]
  exact vw_up h
/-- what the course says of the voyage with cargo c from port p on day t -/
def zVoy (d : zM) (b k c p t : Int) (μ1 : zM) : Prop := μ1 (b + 5) 2 = sArr d k c p t ∧ μ1 (b + 5) 3 = sLoad d k c p t ∧ μ1 (b + 5) 4 = sFree d k c p t - t ∧ μ1 (b + 5) 5 = sEarn d k c p t ∧ μ1 (b + 5) 7 = sMarg d k c p t
/-- the course has followed ship k through its first n fixtures -/
def zFo (d : zM) (b k : Int) (n : Nat) (μ μ1 : zM) : Prop := (∀ c, c ≠ b + 5 → μ1 c = μ c) ∧ μ1 (b + 5) 0 = (sPos d k n).1 ∧ μ1 (b + 5) 1 = (sPos d k n).2.1 ∧ μ1 (b + 5) 6 = (sPos d k n).2.2 ∧ ∀ m : Nat, n = m + 1 → zVoy d b k (d (11 + k) (m : Int)) (sPos d k m).1 (sPos d k m).2.1 μ1
/-- ship k can be followed through its first N fixtures -/
def zGo (d : zM) (k : Int) (N : Nat) : Prop := (∀ n : Nat, n < N → 0 ≤ d (11 + k) (n : Int) ∧ d (11 + k) (n : Int) < d 0 5) ∧ ∀ n : Nat, n ≤ N → (0 ≤ (sPos d k n).1 ∧ (sPos d k n).1 ≤ 7) ∧ (0 ≤ (sPos d k n).2.1 ∧ (sPos d k n).2.1 ≤ 2000)
/-- how many fixtures ship k has -/
def sNum (d : zM) (k : Int) : Nat := (d (6 + k) 6).toNat
/-- where ship k is free behind all its fixtures, from which day on, and what it earns -/
def sEnd (d : zM) (k : Int) : Int × Int × Int := sPos d k (sNum d k)
def sCould (d : zM) (k c : Int) : Int := if d (6 + k) 0 < d (16 + c) 0 then 1 else if sMarg d k c (sEnd d k).1 (sEnd d k).2.1 < 0 then 2 else 0
theorem zFo_s {d : zM} {b k : Int} {n : Nat} {μ μ1 μ2 : zM} (hI : zFo d b k n μ μ1) (h : zCo μ1 b μ2 (d (16 + d (11 + k) (n : Int)) 2) (sFree d k (d (11 + k) (n : Int)) (sPos d k n).1 (sPos d k n).2.1) (sArr d k (d (11 + k) (n : Int)) (sPos d k n).1 (sPos d k n).2.1) (sLoad d k (d (11 + k) (n : Int)) (sPos d k n).1 (sPos d k n).2.1) (sFree d k (d (11 + k) (n : Int)) (sPos d k n).1 (sPos d k n).2.1 - (sPos d k n).2.1) (sEarn d k (d (11 + k) (n : Int)) (sPos d k n).1 (sPos d k n).2.1) ((sPos d k n).2.2 + sEarn d k (d (11 + k) (n : Int)) (sPos d k n).1 (sPos d k n).2.1) (sMarg d k (d (11 + k) (n : Int)) (sPos d k n).1 (sPos d k n).2.1)) : zFo d b k (n + 1) μ μ2 := by
  obtain ⟨h0, h1, h2, h3, h4, h5, h6, h7, h8⟩ := h
  refine ⟨fun c hc => (h0 c hc).trans (hI.1 c hc), h1, h2, h7, fun m hm => ?_⟩
  have e : m = n := by omega
  subst e
  exact ⟨h3, h4, h5, h6, h8⟩
theorem sNum_e {d : zM} {k : Int} (h : 0 ≤ d (6 + k) 6) : ((sNum d k : Nat) : Int) = d (6 + k) 6 := Int.toNat_of_nonneg h
/-- how many of the first cargoes are in a state -/
def sCnt (d : zM) (st : Int) : Nat → Int
  | 0 => 0
  | n + 1 => sCnt d st n + (if d (16 + (n : Int)) 6 = st then 1 else 0)
theorem sCnt_b (d : zM) (st : Int) (n : Nat) : 0 ≤ sCnt d st n ∧ sCnt d st n ≤ (n : Int) := by
  induction n with
  | zero => exact ⟨Int.le_refl _, Int.le_refl _⟩
  | succ n ih =>
    unfold sCnt
    split <;> omega
/-- the accounts of the first ships together -/
def sAcc (d : zM) : Nat → Int
  | 0 => 0
  | n + 1 => sAcc d n + d (6 + (n : Int)) 5
/-- the first of the r fixtures from n on that is too late; n + r if none is -/
def sTime (d : zM) (k : Int) : Nat → Nat → Nat
  | 0, n => n
  | r + 1, n => if sMarg d k (d (11 + k) (n : Int)) (sPos d k n).1 (sPos d k n).2.1 < 0 then n else sTime d k r (n + 1)
def sInT (d : zM) (k : Int) : Nat := sTime d k (sNum d k) 0
theorem sTime_b (d : zM) (k : Int) : ∀ r n, n ≤ sTime d k r n ∧ sTime d k r n ≤ n + r := by
  intro r
  induction r with
  | zero => intro n; exact ⟨Nat.le_refl _, Nat.le_refl _⟩
  | succ r ih =>
    intro n
    unfold sTime
    have := ih (n + 1)
    split <;> omega
theorem sArr_b {d : zM} {k c p t : Int} (hP : bP d) (hs : 1 ≤ d (6 + k) 1 ∧ d (6 + k) 1 ≤ 20) (hc : bC d c) (hp : 0 ≤ p ∧ p ≤ 7) : t ≤ sArr d k c p t ∧ sArr d k c p t ≤ t + 83 := by
  have := sSail_b hP hp hc.2.1 hs
  unfold sArr
  omega
theorem sLoad_b {d : zM} {k c p t : Int} (hP : bP d) (hs : 1 ≤ d (6 + k) 1 ∧ d (6 + k) 1 ≤ 20) (hc : bC d c) (hp : 0 ≤ p ∧ p ≤ 7) : sArr d k c p t ≤ sLoad d k c p t ∧ (sLoad d k c p t ≤ 999 ∨ sLoad d k c p t = sArr d k c p t) := by
  have := sArr_b (t := t) hP hs hc hp
  have h4 := hc.2.2.2.1
  unfold sLoad
  split <;> omega
theorem sFree_b {d : zM} {k c p t : Int} (hP : bP d) (hs : 1 ≤ d (6 + k) 1 ∧ d (6 + k) 1 ≤ 20) (hc : bC d c) (hp : 0 ≤ p ∧ p ≤ 7) : sLoad d k c p t + 4 ≤ sFree d k c p t ∧ sFree d k c p t ≤ sLoad d k c p t + 87 := by
  have := sSail_b hP hc.2.1 hc.2.2.1 hs
  unfold sFree
  omega
/-- a position behind fixtures that are in time -/
theorem sPos_b {d : zM} {k : Int} (hB : bD d) (hk : 0 ≤ k ∧ k < d 0 4) : ∀ n : Nat, (∀ m : Nat, m < n → 0 ≤ d (11 + k) (m : Int) ∧ d (11 + k) (m : Int) < d 0 5) → (∀ m : Nat, m < n → 0 ≤ sMarg d k (d (11 + k) (m : Int)) (sPos d k m).1 (sPos d k m).2.1) → (0 ≤ (sPos d k n).1 ∧ (sPos d k n).1 ≤ 7) ∧ (0 ≤ (sPos d k n).2.1 ∧ (sPos d k n).2.1 ≤ 1999) := by
  intro n
  obtain ⟨hN, hP, hS, hC⟩ := hB
  have hs := hS k hk
  induction n with
  | zero => intro _ _; exact ⟨hs.2.2.2.1, hs.2.2.2.2.1⟩
  | succ n ih =>
    intro h1 h2
    have i1 := ih (fun m hm => h1 m (by omega)) (fun m hm => h2 m (by omega))
    have hc := hC _ (h1 n (by omega))
    have h3 := h2 n (by omega)
    have e1 := sArr_b (t := (sPos d k n).2.1) hP hs.2.1 hc i1.1
    have e2 := sLoad_b (t := (sPos d k n).2.1) hP hs.2.1 hc i1.1
    have e3 := sFree_b (t := (sPos d k n).2.1) hP hs.2.1 hc i1.1
    refine ⟨hc.2.2.1, ?_⟩
    show 0 ≤ sFree d k (d (11 + k) (n : Int)) (sPos d k n).1 (sPos d k n).2.1 ∧ _
    have h5 := hc.2.2.2.2.1
    unfold sMarg at h3
    constructor
    · omega
    · show sFree d k (d (11 + k) (n : Int)) (sPos d k n).1 (sPos d k n).2.1 ≤ 1999
      omega
/-- days waited ahead of the n-th fixture -/
def sW (d : zM) (k : Int) : Nat → Int
  | 0 => 0
  | n + 1 => sW d k n + (sLoad d k (d (11 + k) (n : Int)) (sPos d k n).1 (sPos d k n).2.1 - sArr d k (d (11 + k) (n : Int)) (sPos d k n).1 (sPos d k n).2.1)
/-- the least of the first n fixtures' own margins and the waiting ahead of them -/
def sL (d : zM) (k : Int) : Nat → Int
  | 0 => -1000004
  | n + 1 => if n = 0 then sMarg d k (d (11 + k) (n : Int)) (sPos d k n).1 (sPos d k n).2.1 + sW d k n else if sMarg d k (d (11 + k) (n : Int)) (sPos d k n).1 (sPos d k n).2.1 + sW d k n < sL d k n then sMarg d k (d (11 + k) (n : Int)) (sPos d k n).1 (sPos d k n).2.1 + sW d k n else sL d k n
theorem sMarg_b {d : zM} {k c p t : Int} (hP : bP d) (hs : 1 ≤ d (6 + k) 1 ∧ d (6 + k) 1 ≤ 20) (hc : bC d c) (hp : 0 ≤ p ∧ p ≤ 7) (ht : 0 ≤ t ∧ t ≤ 2000) : -2083 ≤ sMarg d k c p t ∧ sMarg d k c p t ≤ 999 := by
  have := sArr_b (t := t) hP hs hc hp
  have h4 := hc.2.2.2.2.1
  unfold sMarg
  omega
theorem sWL_b {d : zM} {k : Int} {N : Nat} (hB : bD d) (hk : 0 ≤ k ∧ k < d 0 4) (hG : zGo d k N) : ∀ n : Nat, n ≤ N → (0 ≤ sW d k n ∧ sW d k n ≤ 1000 * (n : Int)) ∧ (-1000004 ≤ sL d k n ∧ sL d k n ≤ 999 + 1000 * (n : Int)) := by
  obtain ⟨hN, hP, hS, hC⟩ := hB
  have hs := hS k hk
  intro n
  induction n with
  | zero => intro _; exact ⟨⟨Int.le_refl _, by simp [sW]⟩, by simp [sL]⟩
  | succ n ih =>
    intro h
    obtain ⟨i1, i2⟩ := ih (by omega)
    have g1 := hG.1 n (by omega)
    have g2 := hG.2 n (by omega)
    have hc := hC _ g1
    have e1 := sArr_b (t := (sPos d k n).2.1) hP hs.2.1 hc g2.1
    have e2 := sLoad_b (t := (sPos d k n).2.1) hP hs.2.1 hc g2.1
    have e4 := sMarg_b hP hs.2.1 hc g2.1 g2.2
    constructor
    · unfold sW
      omega
    · unfold sL
      split
      · omega
      · split <;> omega
/-- the best of pairs: whether there is one, its ship, its cargo, what it earns -/
abbrev sQ : Type := Int × Int × Int × Int
def sEa (d : zM) (k c : Int) : Int := sEarn d k c (sEnd d k).1 (sEnd d k).2.1
def sStep (d : zM) (k c : Int) (q : sQ) : sQ := if d (16 + c) 6 = 0 ∧ sCould d k c = 0 ∧ (q.1 = 0 ∨ q.2.2.2 < sEa d k c) then (1, k, c, sEa d k c) else q
/-- the n cargoes from c0 on, with ship k -/
def sRow (d : zM) (k c0 : Int) : Nat → sQ → sQ
  | 0, q => q
  | n + 1, q => sStep d k (c0 + (n : Int)) (sRow d k c0 n q)
/-- the n ships from k0 on, each with the m cargoes from c0 on -/
def sAll (d : zM) (k0 c0 : Int) (m : Nat) : Nat → sQ → sQ
  | 0, q => q
  | n + 1, q => sRow d (k0 + (n : Int)) c0 m (sAll d k0 c0 m n q)
/-- only the course and what was chosen have changed -/
def zF2 (μ : zM) (b : Int) (μ' : zM) : Prop := ∀ c i, c ≠ b + 5 → (c ≠ b ∨ i < 9) → μ' c i = μ c i
theorem vw_f2 {μ μ' : zM} {b : Int} (h : zF2 μ b μ') : vw μ' b = vw μ b := vw_eq (fun o i h' => h _ _ (by unfold zrel at h'; omega) (by unfold zrel at h'; omega))
theorem sTime_n {d : zM} {k : Int} {r n : Nat} (h : ¬ sMarg d k (d (11 + k) (n : Int)) (sPos d k n).1 (sPos d k n).2.1 < 0) : sTime d k (r + 1) n = sTime d k r (n + 1) := by
  show (if _ then _ else _) = _
  rw [if_neg h]
theorem sTime_p {d : zM} {k : Int} {r n : Nat} (h : sMarg d k (d (11 + k) (n : Int)) (sPos d k n).1 (sPos d k n).2.1 < 0) : sTime d k (r + 1) n = n := by
  show (if _ then _ else _) = _
  rw [if_pos h]
theorem sL_f {d : zM} {k : Int} {n : Nat} (h : n = 0) : sMarg d k (d (11 + k) (n : Int)) (sPos d k n).1 (sPos d k n).2.1 + sW d k n = sL d k (n + 1) := by
  show _ = (if _ then _ else _)
  rw [if_pos h]
theorem sL_s {d : zM} {k : Int} {n : Nat} (h : ¬ n = 0) : (if sMarg d k (d (11 + k) (n : Int)) (sPos d k n).1 (sPos d k n).2.1 + sW d k n < sL d k n then sMarg d k (d (11 + k) (n : Int)) (sPos d k n).1 (sPos d k n).2.1 + sW d k n else sL d k n) = sL d k (n + 1) := by
  show _ = (if n = 0 then _ else _)
  rw [if_neg h]
theorem sStep_n {d : zM} {k c : Int} {q : sQ} (h : ¬ (d (16 + c) 6 = 0 ∧ sCould d k c = 0 ∧ (q.1 = 0 ∨ q.2.2.2 < sEa d k c))) : sStep d k c q = q := if_neg h
theorem sStep_p {d : zM} {k c : Int} {q : sQ} (h : d (16 + c) 6 = 0 ∧ sCould d k c = 0 ∧ (q.1 = 0 ∨ q.2.2.2 < sEa d k c)) : sStep d k c q = (1, k, c, sEa d k c) := if_pos h
theorem sStep_01 {d : zM} {k c : Int} {q : sQ} (h : q.1 = 0 ∨ q.1 = 1) : (sStep d k c q).1 = 0 ∨ (sStep d k c q).1 = 1 := by
  unfold sStep
  split
  · exact Or.inr rfl
  · exact h
theorem sRow_01 {d : zM} {k c : Int} {q : sQ} (h : q.1 = 0 ∨ q.1 = 1) : ∀ n, (sRow d k c n q).1 = 0 ∨ (sRow d k c n q).1 = 1 := by
  intro n
  induction n with
  | zero => exact h
  | succ n ih => exact sStep_01 ih
theorem sAll_01 {d : zM} {k c : Int} {m : Nat} {q : sQ} (h : q.1 = 0 ∨ q.1 = 1) : ∀ n, (sAll d k c m n q).1 = 0 ∨ (sAll d k c m n q).1 = 1 := by
  intro n
  induction n with
  | zero => exact h
  | succ n ih => exact sRow_01 ih m
theorem zF2_co {μ μ2 μ3 : zM} {b : Int} (h : zF2 μ b μ2) (h2 : ∀ c, c ≠ b + 5 → μ3 c = μ2 c) : zF2 μ b μ3 := fun c i hc hi => by rw [h2 c hc]; exact h c i hc hi
theorem zF2_up {μ μ2 : zM} {b i z : Int} (hi : 9 ≤ i) (h : zF2 μ b μ2) : zF2 μ b (zup μ2 b i z) := fun c j hc hj => by rw [zup_n (by omega)]; exact h c j hc hj
theorem sCould_b (d : zM) (k c : Int) : 0 ≤ sCould d k c ∧ sCould d k c ≤ 2 := by
  unfold sCould
  split
  · omega
  · split <;> omega
theorem sEarn_b {d : zM} {k c p t : Int} (hP : bP d) (hs : bS d k) (hc : bC d c) (hp : 0 ≤ p ∧ p ≤ 7) (ht : 0 ≤ t ∧ t ≤ 2000) : -300000 ≤ sEarn d k c p t ∧ sEarn d k c p t ≤ 9801 := by
  have e1 := sArr_b (t := t) hP hs.2.1 hc hp
  have e2 := sLoad_b (t := t) hP hs.2.1 hc hp
  have e3 := sFree_b (t := t) hP hs.2.1 hc hp
  have h0 := hc.1
  have h5 := hc.2.2.2.2.2.1
  have h2 := hs.2.2.1
  unfold sEarn
  have m1 : d (16 + c) 0 * d (16 + c) 5 ≤ 99 * 99 := Int.mul_le_mul h0.2 h5.2 (by omega) (by omega)
  have m0 : 0 ≤ d (16 + c) 0 * d (16 + c) 5 := Int.mul_nonneg (by omega) (by omega)
  have m2 : (sFree d k c p t - t) * d (6 + k) 2 ≤ 2300 * 99 := Int.mul_le_mul (by omega) h2.2 (by omega) (by omega)
  have m3 : 0 ≤ (sFree d k c p t - t) * d (6 + k) 2 := Int.mul_nonneg (by omega) (by omega)
  omega
theorem sEa_b {d : zM} {k c : Int} (hB : bD d) (hk : 0 ≤ k ∧ k < d 0 4) (hc : 0 ≤ c ∧ c < d 0 5) (hG : zGo d k (sNum d k)) : -300000 ≤ sEa d k c ∧ sEa d k c ≤ 9801 := by
  have hg := hG.2 _ (Nat.le_refl _)
  exact sEarn_b hB.2.1 (hB.2.2.1 k hk) (hB.2.2.2 c hc) hg.1 hg.2
/-- what is chosen stays in the range of what is earned -/
theorem sRow_b {d : zM} {k c : Int} {q : sQ} (hB : bD d) (hk : 0 ≤ k ∧ k < d 0 4) (hc : 0 ≤ c) (hG : zGo d k (sNum d k)) (hq : -300000 ≤ q.2.2.2 ∧ q.2.2.2 ≤ 9801 ∨ q.1 = 0) : ∀ n : Nat, c + (n : Int) ≤ d 0 5 → (-300000 ≤ (sRow d k c n q).2.2.2 ∧ (sRow d k c n q).2.2.2 ≤ 9801 ∨ (sRow d k c n q).1 = 0) := by
  intro n
  induction n with
  | zero => intro _; exact hq
  | succ n ih =>
    intro h
    have i1 := ih (by omega)
    show (-300000 ≤ (sStep d k (c + (n : Int)) (sRow d k c n q)).2.2.2 ∧ (sStep d k (c + (n : Int)) (sRow d k c n q)).2.2.2 ≤ 9801 ∨ (sStep d k (c + (n : Int)) (sRow d k c n q)).1 = 0)
    unfold sStep
    split
    · exact Or.inl (sEa_b hB hk (by omega) hG)
    · exact i1
theorem sAll_b {d : zM} {k c : Int} {m : Nat} {q : sQ} (hB : bD d) (hk : 0 ≤ k) (hc : 0 ≤ c) (hm : c + (m : Int) ≤ d 0 5) (hG : ∀ k, 0 ≤ k ∧ k < d 0 4 → zGo d k (sNum d k)) (hq : -300000 ≤ q.2.2.2 ∧ q.2.2.2 ≤ 9801 ∨ q.1 = 0) : ∀ n : Nat, k + (n : Int) ≤ d 0 4 → (-300000 ≤ (sAll d k c m n q).2.2.2 ∧ (sAll d k c m n q).2.2.2 ≤ 9801 ∨ (sAll d k c m n q).1 = 0) := by
  intro n
  induction n with
  | zero => intro _; exact hq
  | succ n ih =>
    intro h
    exact sRow_b hB (by omega) hc (hG _ (by omega)) (ih (by omega)) m hm
/-- the open cargoes of the first ones, as bits -/
def sOpen (d : zM) : Nat → Int32
  | 0 => iZ 0
  | n + 1 => if d (16 + (n : Int)) 6 = 0 then sOpen d n ||| (iZ 1 <<< (iZ (n : Int) &&& 31)) else sOpen d n
/-- a cargo's pair of ports as a bit -/
def sPair (d : zM) (c : Int) : Int64 := (1 : Int64) <<< ((iZ (8 * d (16 + c) 1 + d (16 + c) 2)).toInt64 &&& 63)
