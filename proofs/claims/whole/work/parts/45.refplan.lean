/-! CHOOSING, as the reference does it -/
/-- what is found so far: g the place that counts -/
def rPk (q : sQ) (g f e : Int) : Prop := (q.1 = 0 ∧ f = -1000004) ∨ (q.1 = 1 ∧ 0 ≤ g ∧ f = g ∧ e = q.2.2.2)
theorem rPk_p {d : zM} {k c : Int} {q : sQ} (h : d (16 + c) 6 = 0 ∧ sCould d k c = 0 ∧ (q.1 = 0 ∨ q.2.2.2 < sEa d k c)) : sStep d k c q = (1, k, c, sEa d k c) := sStep_p h
/-- the best of a ship's cargoes that earns something -/
def rPl (q : sQ) (sh cg mo : Int) : Prop := (q.1 = 1 ∧ 0 < q.2.2.2 ∧ sh = q.2.1 ∧ cg = q.2.2.1 ∧ mo = q.2.2.2) ∨ (¬ (q.1 = 1 ∧ 0 < q.2.2.2) ∧ sh = -1 ∧ cg = -1 ∧ mo = 0)
theorem rPl_p {d : zM} {k c sh cg mo : Int} {q : sQ} (H : rPl q sh cg mo) (h1 : d (16 + c) 6 = 0) (h2 : sCould d k c = 0) (h3 : mo < sEa d k c) (h01 : q.1 = 0 ∨ q.1 = 1) : rPl (sStep d k c q) k c (sEa d k c) := by
  have e : sStep d k c q = (1, k, c, sEa d k c) := sStep_p ⟨h1, h2, by
    rcases H with ⟨a, b, _, _, m⟩ | ⟨a, _, _, m⟩
    · exact Or.inr (by omega)
    · rcases h01 with z | z
      · exact Or.inl z
      · exact Or.inr (by omega)⟩
  have hm : 0 ≤ mo := by
    rcases H with ⟨a, b, _, _, m⟩ | ⟨a, _, _, m⟩ <;> omega
  rw [e]
  exact Or.inl ⟨rfl, by show 0 < sEa d k c; omega, rfl, rfl, rfl⟩
theorem rPl_n {d : zM} {k c sh cg mo : Int} {q : sQ} (H : rPl q sh cg mo) (h : ¬ (d (16 + c) 6 = 0 ∧ sCould d k c = 0 ∧ mo < sEa d k c)) : rPl (sStep d k c q) sh cg mo := by
  by_cases z : d (16 + c) 6 = 0 ∧ sCould d k c = 0 ∧ (q.1 = 0 ∨ q.2.2.2 < sEa d k c)
  · have hle : ¬ mo < sEa d k c := fun y => h ⟨z.1, z.2.1, y⟩
    rcases H with ⟨a, b, _, _, m⟩ | ⟨a, b, c', m⟩
    · exact absurd z.2.2 (by omega)
    · rw [sStep_p z]
      exact Or.inr ⟨fun y => by have := y.2; have e : (0 : Int) < sEa d k c := this; omega, b, c', m⟩
  · rw [sStep_n z]; exact H
/-- slot 0 to 4, text and history's number stay -/
def rS5 (μ μ' : zM) : Prop := (∀ c, 2 ≤ c → μ' c = μ c) ∧ (∀ i, i < 8 → μ' 0 i = μ 0 i) ∧ ∀ x, x < 950 → μ' 1 x = μ 1 x
theorem rS5_tr {μ μ1 μ2 : zM} (h : rS5 μ μ1) (h2 : rS5 μ1 μ2) : rS5 μ μ2 := ⟨fun c hc => (h2.1 c hc).trans (h.1 c hc), fun i hi => (h2.2.1 i hi).trans (h.2.1 i hi), fun x hx => (h2.2.2 x hx).trans (h.2.2 x hx)⟩
theorem rS5_fr {μ μ1 : zM} (h : rFr μ μ1) : rS5 μ μ1 := ⟨fun c hc => h.1 c (by omega), h.2, fun x _ => by rw [h.1 1 (by omega)]⟩
theorem rS5_f1 {μ μ1 : zM} (h : rF1 5 μ μ1) : rS5 μ μ1 := ⟨fun c hc => h.1 c (by omega), fun i _ => by rw [h.1 0 (by omega)], fun x hx => h.2 x (by omega)⟩
theorem rS5_rf (μ : zM) : rS5 μ μ := rS5_fr (rFr_rf μ)
theorem rv_5 {μ μ1 : zM} {t : Int} (h : rS5 μ μ1) (ht : t ≤ 4) : rv μ1 t = rv μ t := rv_eq (fun o i hr => h.2.2 _ (by have := rp_b hr; omega))
theorem rSt_5 {μ μ1 d : zM} {n L : Int} {h : Int → zM} {t : Int → Int} (H : rSt μ d n h L t) (e : rS5 μ μ1) : rSt μ1 d n h L t := ⟨(rv_5 e (by omega)).trans H.1, rHi_fr H.2.1 (e.2.1 1 (by omega)) (fun x hx => e.2.2 x (by omega)), by rw [e.2.1 3 (by omega)]; exact H.2.2.1, H.2.2.2.1, fun i hi => by rw [e.1 2 (by omega)]; exact H.2.2.2.2 i hi⟩
/-- the trial's desk has the same ports, the same counts, the same ways of the cargoes -/
def rSame (d d1 : zM) : Prop := ∀ o i, (o = 1 ∨ o = 2 ∨ (o = 0 ∧ (i = 4 ∨ i = 5)) ∨ (16 ≤ o ∧ (i = 1 ∨ i = 2))) → d1 o i = d o i
theorem rSame_fix {d d1 : zM} {k c : Int} (h : rSame d d1) (hk : 0 ≤ k ∧ k < 5) : rSame d (opFix d1 k c).2 := by
  intro o i q
  unfold opFix
  split
  · exact h o i q
  · split
    · exact h o i q
    · show (zup _ _ _ _) o i = _
      rw [zup_n (by omega), zup_n (by omega), zup_n (by omega), zup_n (by omega)]
      exact h o i q
theorem sPair_s {d d1 : zM} {c : Int} (h : rSame d d1) (hc : 0 ≤ c) : sPair d1 c = sPair d c := by
  unfold sPair
  rw [h (16 + c) 1 (by omega), h (16 + c) 2 (by omega)]
/-- an open cargo that is fixed is open no more -/
theorem sCnt_up {d d1 : zM} {c : Int} (hc : 0 ≤ c) (h0 : d (16 + c) 6 = 0) (h1 : d1 (16 + c) 6 ≠ 0) (hs : ∀ j, j ≠ c → 0 ≤ j → d1 (16 + j) 6 = d (16 + j) 6) : ∀ n : Nat, sCnt d1 0 n + (if c < (n : Int) then 1 else 0) = sCnt d 0 n := by
  intro n
  induction n with
  | zero => rw [if_neg (by omega)]; rfl
  | succ n ih =>
    show sCnt d1 0 n + (if d1 (16 + (n : Int)) 6 = 0 then 1 else 0) + _ = sCnt d 0 n + (if d (16 + (n : Int)) 6 = 0 then 1 else 0)
    by_cases q : (n : Int) = c
    · rw [q, if_neg h1, if_pos h0, if_pos (by omega)]
      rw [if_neg (by omega)] at ih
      omega
    · rw [hs _ q (by omega)]
      by_cases z : c < (n : Int)
      · rw [if_pos z] at ih
        rw [if_pos (show c < ((n + 1 : Nat) : Int) by omega)]
        omega
      · rw [if_neg z] at ih
        rw [if_neg (show ¬ c < ((n + 1 : Nat) : Int) by omega)]
        omega
theorem sCnt_fix {d : zM} {k c : Int} (hk : 0 ≤ k ∧ k < 5) (hc : 0 ≤ c ∧ c < d 0 5) (h0 : d (16 + c) 6 = 0) (h1 : sCould d k c = 0) (hkS : k < d 0 4) : sCnt (opFix d k c).2 0 ((opFix d k c).2 0 5).toNat + 1 = sCnt d 0 (d 0 5).toNat := by
  have e : (opFix d k c).2 = zup (zup (zup (zup d (11 + k) (d (6 + k) 6) c) (6 + k) 6 (d (6 + k) 6 + 1)) (16 + c) 6 1) (16 + c) 7 k := by
    unfold opFix
    rw [if_neg (by omega), if_neg (by omega)]
  have e5 : (opFix d k c).2 0 5 = d 0 5 := by rw [e, zup_n (by omega), zup_n (by omega), zup_n (by omega), zup_n (by omega)]
  rw [e5]
  have := sCnt_up (d1 := (opFix d k c).2) hc.1 h0 (by rw [e, zup_n (by omega), zup_s]; decide) (fun j hj hj0 => by rw [e, zup_n (by omega), zup_n (by omega), zup_n (by omega), zup_n (by omega)]) (d 0 5).toNat
  rw [if_pos (by omega)] at this
  exact this
/-- a bit of a pair's number -/
def jBt (x : Int64) (k : Nat) : Int := if x.toBitVec.getLsbD k then 1 else 0
def sBt (x : Int64) : Nat → Int
  | 0 => 0
  | n + 1 => sBt x n + jBt x n
theorem jBt_b (x : Int64) (k : Nat) : 0 ≤ jBt x k ∧ jBt x k ≤ 1 := by unfold jBt; split <;> omega
theorem sBt_b (x : Int64) : ∀ n : Nat, 0 ≤ sBt x n ∧ sBt x n ≤ (n : Int) := by
  intro n
  induction n with
  | zero => exact ⟨Int.le_refl _, Int.le_refl _⟩
  | succ n ih =>
    have := jBt_b x n
    unfold sBt
    omega
def rPlan (d : zM) (w : Int) : Int32 := if ¬ (0 ≤ w ∧ w ≤ 3) then iZ (-1000001) else if w = 0 then iZ (sPlan 10 d 0 0 0).2.1 else if w = 1 then iZ (sPlan 10 d 0 0 0).2.2.1 else if w = 2 then sOpen (sPlan 10 d 0 0 0).1 ((sPlan 10 d 0 0 0).1 0 5).toNat else iZ (sBt (sPlan 10 d 0 0 0).2.2.2 64)
