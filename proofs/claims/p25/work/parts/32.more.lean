/-! WHAT THE LAW ASKS BESIDE THE INVARIANT: as many cargoes are fixed as the ships have fixtures; a fixture's cargo knows its ship and fits it -/
def sFx (d : zM) : Nat → Int
  | 0 => 0
  | n + 1 => sFx d n + d (6 + (n : Int)) 6
def zSum (d : zM) : Prop := sCnt d 1 (d 0 5).toNat = sFx d (d 0 4).toNat
def zFit (d : zM) : Prop := ∀ k, 0 ≤ k ∧ k < d 0 4 → ∀ x, 0 ≤ x ∧ x < d (6 + k) 6 → d (16 + d (11 + k) x) 7 = k ∧ d (16 + d (11 + k) x) 0 ≤ d (6 + k) 0
def zIn2 (d : zM) : Prop := zInv d ∧ zSum d ∧ zFit d
theorem sCnt_cg {d d' : zM} {st : Int} : ∀ n : Nat, (∀ c : Int, 0 ≤ c ∧ c < (n : Int) → d' (16 + c) 6 = d (16 + c) 6) → sCnt d' st n = sCnt d st n := by
  intro n
  induction n with
  | zero => intro _; rfl
  | succ n ih =>
    intro h
    show sCnt d' st n + (if d' (16 + (n : Int)) 6 = st then 1 else 0) = sCnt d st n + (if d (16 + (n : Int)) 6 = st then 1 else 0)
    rw [ih (fun c hc => h c (by omega)), h (n : Int) (by omega)]
theorem sCnt_up {d : zM} {st c v : Int} (h0 : 0 ≤ c) : ∀ n : Nat, c < (n : Int) → sCnt (zup d (16 + c) 6 v) st n = sCnt d st n + (if v = st then 1 else 0) - (if d (16 + c) 6 = st then 1 else 0) := by
  intro n
  induction n with
  | zero => intro h; exact absurd h (by omega)
  | succ n ih =>
    intro h
    show sCnt (zup d (16 + c) 6 v) st n + (if zup d (16 + c) 6 v (16 + (n : Int)) 6 = st then 1 else 0) = sCnt d st n + (if d (16 + (n : Int)) 6 = st then 1 else 0) + (if v = st then 1 else 0) - (if d (16 + c) 6 = st then 1 else 0)
    by_cases q : c = (n : Int)
    · rw [sCnt_cg (d' := zup d (16 + c) 6 v) (d := d) n (fun c' hc' => zup_n (by omega)), ← q, zup_s]
      generalize (if v = st then (1 : Int) else 0) = A
      generalize (if d (16 + c) 6 = st then (1 : Int) else 0) = B
      omega
    · rw [ih (by omega), zup_n (by omega)]
      generalize (if v = st then (1 : Int) else 0) = A
      generalize (if d (16 + c) 6 = st then (1 : Int) else 0) = B
      generalize (if d (16 + (n : Int)) 6 = st then (1 : Int) else 0) = C
      omega
theorem sFx_cg {d d' : zM} : ∀ n : Nat, (∀ k : Int, 0 ≤ k ∧ k < (n : Int) → d' (6 + k) 6 = d (6 + k) 6) → sFx d' n = sFx d n := by
  intro n
  induction n with
  | zero => intro _; rfl
  | succ n ih =>
    intro h
    show sFx d' n + d' (6 + (n : Int)) 6 = sFx d n + d (6 + (n : Int)) 6
    rw [ih (fun k hk => h k (by omega)), h (n : Int) (by omega)]
theorem sFx_up {d d' : zM} {k : Int} (h0 : 0 ≤ k) : ∀ n : Nat, k < (n : Int) → (∀ j : Int, 0 ≤ j ∧ j < (n : Int) → j ≠ k → d' (6 + j) 6 = d (6 + j) 6) → sFx d' n = sFx d n + d' (6 + k) 6 - d (6 + k) 6 := by
  intro n
  induction n with
  | zero => intro h; exact absurd h (by omega)
  | succ n ih =>
    intro h hj
    show sFx d' n + d' (6 + (n : Int)) 6 = sFx d n + d (6 + (n : Int)) 6 + d' (6 + k) 6 - d (6 + k) 6
    by_cases q : k = (n : Int)
    · rw [sFx_cg (d' := d') (d := d) n (fun j h9 => hj j (by omega) (by omega)), ← q]
      omega
    · rw [ih (by omega) (fun j h9 => hj j (by omega)), hj (n : Int) (by omega) (by omega)]
      omega
theorem sCnt_drop {k st : Int} {N : Nat} (hk : 0 ≤ k ∧ k < 5) (hst : st ≠ 1) : ∀ (r : Nat) (x : Int) (d : zM), (∀ j, x ≤ j ∧ j < x + (r : Int) → (0 ≤ d (11 + k) j ∧ d (11 + k) j < (N : Int)) ∧ d (16 + d (11 + k) j) 6 = 1) → (∀ i j, x ≤ i ∧ i < x + (r : Int) → x ≤ j ∧ j < x + (r : Int) → d (11 + k) i = d (11 + k) j → i = j) → sCnt (sDrop k st r x d) 1 N = sCnt d 1 N - (r : Int) := by
  intro r
  induction r with
  | zero => intro x d _ _; show sCnt d 1 N = sCnt d 1 N - ((0 : Nat) : Int); omega
  | succ r ih =>
    intro x d h hi
    have h0 := h x (by omega)
    have e : ∀ j, zup d (16 + d (11 + k) x) 6 st (11 + k) j = d (11 + k) j := fun j => zup_n (by omega)
    have hh := ih (x + 1) (zup d (16 + d (11 + k) x) 6 st) (fun j hj => by
      have hj0 := h j (by omega)
      rw [e]
      refine ⟨hj0.1, ?_⟩
      rw [zup_n (Or.inl (fun q => by
        have := hi j x (by omega) (by omega) (by omega)
        omega))]
      exact hj0.2) (fun i j hi1 hj1 q => by
      rw [e, e] at q
      exact hi i j (by omega) (by omega) q)
    have hu := sCnt_up (d := d) (st := 1) (v := st) h0.1.1 N h0.1.2
    rw [if_neg hst, if_pos h0.2] at hu
    show sCnt (sDrop k st r (x + 1) (zup d (16 + d (11 + k) x) 6 st)) 1 N = sCnt d 1 N - ((r + 1 : Nat) : Int)
    rw [hh, hu]
    omega
theorem in2_drop {d D1 d4 : zM} {k T st : Int} {r : Nat} (H : zIn2 d) (hk : 0 ≤ k ∧ k < d 0 4) (hT : 0 ≤ T) (hr : T + (r : Int) = d (6 + k) 6) (hst : st ≠ 1)
    (e1 : ∀ o i, o ≠ 6 + k → o ≠ 0 → D1 o i = d o i) (e4 : ∀ o i, o ≠ 6 + k → o ≠ 0 → d4 o i = sDrop k st r T D1 o i)
    (e0 : d4 (6 + k) 0 = d (6 + k) 0) (e6 : d4 (6 + k) 6 = T) (eS : d4 0 4 = d 0 4) (eC : d4 0 5 = d 0 5) : zSum d4 ∧ zFit d4 := by
  obtain ⟨HI, hsum, hfit⟩ := H
  have hN4 := HI.1.1.1
  have hN5 := HI.1.1.2
  have hk5 : 0 ≤ k ∧ k < 5 := by omega
  have hF := zInv_F HI k hk
  have hS := HI.2.2.2.2.1 k hk
  have x1 : ∀ j, D1 (11 + k) j = d (11 + k) j := fun j => e1 (11 + k) j (by omega) (by omega)
  have hx : ∀ j : Int, T ≤ j ∧ j < T + (r : Int) → 0 ≤ D1 (11 + k) j := fun j hj => by rw [x1]; exact (hF j (by omega)).1
  have old : ∀ o i, o < 16 → o ≠ 6 + k → o ≠ 0 → d4 o i = d o i := fun o i h1 h2 h3 => by
    rw [e4 o i h2 h3, sDrop_o r T D1 o i h1 hx hk5.2, e1 o i h2 h3]
  have crg : ∀ c i, 0 ≤ c → i ≠ 6 → d4 (16 + c) i = d (16 + c) i := fun c i h1 h2 => by
    rw [e4 (16 + c) i (by omega) (by omega), sDrop_n hk5 r T D1 (fun j hj => ⟨hx j hj, Or.inl h2⟩), e1 (16 + c) i (by omega) (by omega)]
  constructor
  · have a1 := sCnt_cg (d' := d4) (d := sDrop k st r T D1) (st := 1) (d 0 5).toNat (fun c hc => e4 (16 + c) 6 (by omega) (by omega))
    have a2 := sCnt_drop (N := (d 0 5).toNat) hk5 hst r T D1 (fun j hj => by
      have f := hF j (by omega)
      rw [x1, e1 (16 + d (11 + k) j) 6 (by omega) (by omega)]
      exact ⟨⟨f.1, by omega⟩, hS j (by omega)⟩) (fun i j hi hj q => by
      rw [x1, x1] at q
      exact (HI.2.2.2.2.2.1 k k i j hk hk (by omega) (by omega) q).2)
    have a3 := sCnt_cg (d' := D1) (d := d) (st := 1) (d 0 5).toNat (fun c hc => e1 (16 + c) 6 (by omega) (by omega))
    have a4 := sFx_up (d := d) (d' := d4) hk.1 (d 0 4).toNat (by omega) (fun j hj q => old (6 + j) 6 (by omega) (by omega) (by omega))
    unfold zSum at hsum ⊢
    rw [eS, eC]
    omega
  · intro j hj x hx2
    rw [eS] at hj
    have hx3 : 0 ≤ x ∧ x < d (6 + j) 6 := by
      by_cases q : j = k
      · rw [q, e6] at hx2
        rw [q]
        omega
      · rw [old (6 + j) 6 (by omega) (by omega) (by omega)] at hx2
        exact hx2
    have f := zInv_F HI j hj x hx3
    have z6 : d4 (6 + j) 0 = d (6 + j) 0 := by
      by_cases q : j = k
      · rw [q]; exact e0
      · exact old (6 + j) 0 (by omega) (by omega) (by omega)
    rw [old (11 + j) x (by omega) (by omega) (by omega), crg _ 7 f.1 (by omega), crg _ 0 f.1 (by omega), z6]
    exact hfit j hj x hx3
theorem in2_ship {d : zM} (H : zIn2 d) (z v u p t : Int) : zIn2 (opShip d z v u p t).2 := by
  refine ⟨(inv_ship H.1 z v u p t).1, ?_⟩
  obtain ⟨HI, hsum, hfit⟩ := id H
  unfold opShip
  split
  · exact H.2
  split
  · exact H.2
  have hN4 := HI.1.1.1
  have hN5 := HI.1.1.2
  obtain ⟨d4, hd4⟩ : ∃ d4, d4 = zup (zup (zup (zup (zup (zup d (6 + d 0 4) 0 z) (6 + d 0 4) 1 v) (6 + d 0 4) 2 u) (6 + d 0 4) 3 p) (6 + d 0 4) 4 t) 0 4 (d 0 4 + 1) := ⟨_, rfl⟩
  show zSum (zup _ 0 4 (d 0 4 + 1)) ∧ zFit (zup _ 0 4 (d 0 4 + 1))
  rw [← hd4]
  have e : ∀ o i, (o ≠ 6 + d 0 4 ∨ 4 < i) → (o ≠ 0 ∨ i ≠ 4) → d4 o i = d o i := fun o i h1 h2 => by
    rw [hd4, zup_n (by omega), zup_n (by omega), zup_n (by omega), zup_n (by omega), zup_n (by omega), zup_n (by omega)]
  have eS : d4 0 4 = d 0 4 + 1 := by rw [hd4, zup_s]
  have h0 := (HI.2.1 (d 0 4) (by omega)).2
  constructor
  · unfold zSum at hsum ⊢
    rw [eS, e 0 5 (by omega) (by omega), sCnt_cg (d' := d4) (d := d) _ (fun c hc => e (16 + c) 6 (by omega) (by omega)), show (d 0 4 + 1).toNat = (d 0 4).toNat + 1 by omega]
    show _ = sFx d4 (d 0 4).toNat + d4 (6 + ((d 0 4).toNat : Int)) 6
    rw [Int.toNat_of_nonneg hN4.1, e (6 + d 0 4) 6 (by omega) (by omega), h0, sFx_cg (d' := d4) (d := d) _ (fun k hk => e (6 + k) 6 (by omega) (by omega))]
    omega
  · intro k hk x hx
    rw [eS] at hk
    rw [e (6 + k) 6 (by omega) (by omega)] at hx
    by_cases q : k = d 0 4
    · rw [q, h0] at hx
      omega
    · have f := zInv_F HI k (by omega) x hx
      rw [e (11 + k) x (by omega) (by omega), e (16 + d (11 + k) x) 7 (by omega) (by omega), e (16 + d (11 + k) x) 0 (by omega) (by omega), e (6 + k) 0 (by omega) (by omega)]
      exact hfit k (by omega) x hx
theorem in2_cargo {d : zM} (H : zIn2 d) (a g u f t w : Int) : zIn2 (opCargo d a g u f t w).2 := by
  refine ⟨(inv_cargo H.1 a g u f t w).1, ?_⟩
  obtain ⟨HI, hsum, hfit⟩ := id H
  unfold opCargo
  split
  · exact H.2
  split
  · exact H.2
  have hN4 := HI.1.1.1
  have hN5 := HI.1.1.2
  obtain ⟨d4, hd4⟩ : ∃ d4, d4 = zup (zup (zup (zup (zup (zup (zup d (16 + d 0 5) 0 a) (16 + d 0 5) 1 g) (16 + d 0 5) 2 u) (16 + d 0 5) 3 f) (16 + d 0 5) 4 t) (16 + d 0 5) 5 w) 0 5 (d 0 5 + 1) := ⟨_, rfl⟩
  show zSum (zup _ 0 5 (d 0 5 + 1)) ∧ zFit (zup _ 0 5 (d 0 5 + 1))
  rw [← hd4]
  have e : ∀ o i, (o ≠ 16 + d 0 5 ∨ 5 < i) → (o ≠ 0 ∨ i ≠ 5) → d4 o i = d o i := fun o i h1 h2 => by
    rw [hd4, zup_n (by omega), zup_n (by omega), zup_n (by omega), zup_n (by omega), zup_n (by omega), zup_n (by omega), zup_n (by omega)]
  have eC : d4 0 5 = d 0 5 + 1 := by rw [hd4, zup_s]
  have h0 := HI.2.2.1 (d 0 5) (by omega)
  constructor
  · unfold zSum at hsum ⊢
    rw [eC, e 0 4 (by omega) (by omega), sFx_cg (d' := d4) (d := d) _ (fun k hk => e (6 + k) 6 (by omega) (by omega)), show (d 0 5 + 1).toNat = (d 0 5).toNat + 1 by omega]
    show sCnt d4 1 (d 0 5).toNat + (if d4 (16 + ((d 0 5).toNat : Int)) 6 = 1 then 1 else 0) = _
    rw [Int.toNat_of_nonneg hN5.1, e (16 + d 0 5) 6 (by omega) (by omega), h0, if_neg (by omega), sCnt_cg (d' := d4) (d := d) _ (fun c hc => e (16 + c) 6 (by omega) (by omega))]
    omega
  · intro k hk x hx
    rw [e 0 4 (by omega) (by omega)] at hk
    rw [e (6 + k) 6 (by omega) (by omega)] at hx
    have f := zInv_F HI k hk x hx
    rw [e (11 + k) x (by omega) (by omega), e (16 + d (11 + k) x) 7 (by omega) (by omega), e (16 + d (11 + k) x) 0 (by omega) (by omega), e (6 + k) 0 (by omega) (by omega)]
    exact hfit k hk x hx
/-- what fixing answers, and what the desk is then -/
theorem fx_ok {d : zM} {k c : Int} (hk : 0 ≤ k ∧ k < d 0 4) (hc : 0 ≤ c ∧ c < d 0 5) (h : d (16 + c) 6 = 0 ∧ sCould d k c = 0) : opFix d k c = (sFree d k c (sEnd d k).1 (sEnd d k).2.1, zup (zup (zup (zup d (11 + k) (d (6 + k) 6) c) (6 + k) 6 (d (6 + k) 6 + 1)) (16 + c) 6 1) (16 + c) 7 k) := by
  unfold opFix
  rw [if_neg (fun z => z ⟨hk, hc⟩), if_neg (fun z => z h)]
theorem fx_no {d : zM} {k c : Int} (hk : 0 ≤ k ∧ k < d 0 4) (hc : 0 ≤ c ∧ c < d 0 5) (h : ¬ (d (16 + c) 6 = 0 ∧ sCould d k c = 0)) : opFix d k c = (-1000002, d) := by
  unfold opFix
  rw [if_neg (fun z => z ⟨hk, hc⟩), if_pos h]
theorem fx_bad {d : zM} {k c : Int} (h : ¬ ((0 ≤ k ∧ k < d 0 4) ∧ (0 ≤ c ∧ c < d 0 5))) : opFix d k c = (-1000001, d) := by
  unfold opFix
  rw [if_pos h]
theorem in2_fix {d : zM} (H : zIn2 d) (k c : Int) : zIn2 (opFix d k c).2 ∧ (opFix d k c).2 0 4 = d 0 4 ∧ (opFix d k c).2 0 5 = d 0 5 := by
  by_cases q1 : (0 ≤ k ∧ k < d 0 4) ∧ (0 ≤ c ∧ c < d 0 5)
  · obtain ⟨hk, hc⟩ := q1
    by_cases q2 : d (16 + c) 6 = 0 ∧ sCould d k c = 0
    · have hz := (inv_fix H.1 k c).1
      obtain ⟨HI, hsum, hfit⟩ := id H
      rw [fx_ok hk hc q2] at hz ⊢
      obtain ⟨d4, hd4⟩ : ∃ d4, d4 = zup (zup (zup (zup d (11 + k) (d (6 + k) 6) c) (6 + k) 6 (d (6 + k) 6 + 1)) (16 + c) 6 1) (16 + c) 7 k := ⟨_, rfl⟩
      rw [← hd4] at hz ⊢
      show zIn2 d4 ∧ d4 0 4 = d 0 4 ∧ d4 0 5 = d 0 5
      change zInv d4 at hz
      have hN4 := HI.1.1.1
      have hN5 := HI.1.1.2
      have hs := (HI.1.2.2.1 k hk).2.2.2.2.2
      have e : ∀ o i, (o ≠ 11 + k ∨ i ≠ d (6 + k) 6) → (o ≠ 6 + k ∨ i ≠ 6) → (o ≠ 16 + c ∨ (i ≠ 6 ∧ i ≠ 7)) → d4 o i = d o i := fun o i h1 h2 h3 => by
        rw [hd4, zup_n (by omega), zup_n (by omega), zup_n (by omega), zup_n (by omega)]
      have eS : d4 0 4 = d 0 4 := e 0 4 (by omega) (by omega) (by omega)
      have eC : d4 0 5 = d 0 5 := e 0 5 (by omega) (by omega) (by omega)
      have e6 : d4 (6 + k) 6 = d (6 + k) 6 + 1 := by rw [hd4, zup_n (by omega), zup_n (by omega), zup_s]
      have e7 : d4 (16 + c) 7 = k := by rw [hd4, zup_s]
      have ex : d4 (11 + k) (d (6 + k) 6) = c := by rw [hd4, zup_n (by omega), zup_n (by omega), zup_n (by omega), zup_s]
      refine ⟨⟨hz, ?_, ?_⟩, eS, eC⟩
      · have a1 := sCnt_up (d := d) (st := 1) (v := 1) hc.1 (d 0 5).toNat (by omega)
        rw [if_pos rfl, if_neg (by omega)] at a1
        have a2 := sCnt_cg (d' := d4) (d := zup d (16 + c) 6 1) (st := 1) (d 0 5).toNat (fun c' hc' => by
          by_cases q : c' = c
          · rw [q, zup_s, hd4, zup_n (by omega), zup_s]
          · rw [zup_n (by omega)]
            exact e (16 + c') 6 (by omega) (by omega) (by omega))
        have a3 := sFx_up (d := d) (d' := d4) hk.1 (d 0 4).toNat (by omega) (fun j hj q => e (6 + j) 6 (by omega) (by omega) (by omega))
        unfold zSum at hsum ⊢
        rw [eS, eC]
        omega
      · intro j hj x hx
        rw [eS] at hj
        by_cases q : j = k ∧ x = d (6 + k) 6
        · rw [q.1, q.2, ex, e7, e (16 + c) 0 (by omega) (by omega) (by omega), e (6 + k) 0 (by omega) (by omega) (by omega)]
          refine ⟨rfl, ?_⟩
          have := q2.2
          unfold sCould at this
          split at this
          · omega
          · omega
        · have hx3 : 0 ≤ x ∧ x < d (6 + j) 6 := by
            by_cases z : j = k
            · rw [z, e6] at hx
              rw [z]
              omega
            · rw [e (6 + j) 6 (by omega) (by omega) (by omega)] at hx
              exact hx
          have f := zInv_F HI j hj x hx3
          have g := HI.2.2.2.2.1 j hj x hx3
          have hne : d (11 + j) x ≠ c := fun z => by rw [z] at g; omega
          rw [e (11 + j) x (by omega) (by omega) (by omega), e (16 + d (11 + j) x) 7 (by omega) (by omega) (by omega), e (16 + d (11 + j) x) 0 (by omega) (by omega) (by omega), e (6 + j) 0 (by omega) (by omega) (by omega)]
          exact hfit j hj x hx3
    · rw [fx_no hk hc q2]
      exact ⟨H, rfl, rfl⟩
  · rw [fx_bad q1]
    exact ⟨H, rfl, rfl⟩
/-- what a delay answers, and what the desk is then -/
theorem dl_late {d : zM} {k n : Int} (hk : 0 ≤ k ∧ k < d 0 4) (hn : 1 ≤ n ∧ n ≤ 99) (h : 1999 < d (6 + k) 4 + n) : opDelay d k n = (-1000003, d) := by
  unfold opDelay
  rw [if_neg (fun z => z ⟨hk, hn⟩), if_pos h]
theorem dl_ok {d : zM} {k n : Int} (hk : 0 ≤ k ∧ k < d 0 4) (hn : 1 ≤ n ∧ n ≤ 99) (h : ¬ 1999 < d (6 + k) 4 + n) : opDelay d k n = (d (6 + k) 6 - (sInT (sLater d k n) k : Int), zup (zup (sDrop k 2 (sNum d k - sInT (sLater d k n) k) (sInT (sLater d k n) k : Int) (sLater d k n)) (6 + k) 6 (sInT (sLater d k n) k : Int)) 0 6 (d 0 6 + (d (6 + k) 6 - (sInT (sLater d k n) k : Int)))) := by
  unfold opDelay
  rw [if_neg (fun z => z ⟨hk, hn⟩), if_neg h]
theorem in2_delay {d : zM} (H : zIn2 d) {k n : Int} (hk : 0 ≤ k ∧ k < d 0 4) (hn : 1 ≤ n ∧ n ≤ 99) (h : ¬ 1999 < d (6 + k) 4 + n) :
    zIn2 (opDelay d k n).2 ∧ ((opDelay d k n).2 0 4 = d 0 4 ∧ (opDelay d k n).2 0 5 = d 0 5) ∧ (0 ≤ (opDelay d k n).1 ∧ (opDelay d k n).1 ≤ d (6 + k) 6) ∧ (opDelay d k n).2 0 6 = d 0 6 + (opDelay d k n).1 ∧ (opDelay d k n).2 (6 + k) 6 = d (6 + k) 6 - (opDelay d k n).1 ∧ (0 < d (6 + k) 6 → ((opDelay d k n).1 = 0 ↔ n ≤ sL d k (sNum d k))) := by
  have hz := (inv_delay H.1 k n).1
  obtain ⟨HI, hsum, hfit⟩ := id H
  have hN4 := HI.1.1.1
  have hk5 : 0 ≤ k ∧ k < 5 := by omega
  have hs := (HI.1.2.2.1 k hk).2.2.2.2.2
  have hNe := sNum_e (d := d) (k := k) hs.1
  have hT := sInT_b (sLater d k n) k
  rw [sLat_n] at hT
  have hF := zInv_F HI k hk
  have hsl : 0 < d (6 + k) 6 → (d (6 + k) 6 - (sInT (sLater d k n) k : Int) = 0 ↔ n ≤ sL d k (sNum d k)) := fun h9 => by
    rw [← sSlk HI hk (by omega) (by omega)]
    omega
  rw [dl_ok hk hn h] at hz ⊢
  generalize sInT (sLater d k n) k = T at hT hsl hz ⊢
  obtain ⟨D1, hD1⟩ : ∃ D1, D1 = sLater d k n := ⟨_, rfl⟩
  rw [← hD1] at hz ⊢
  have e1 : ∀ o i, (o ≠ 6 + k ∨ i ≠ 4) → D1 o i = d o i := fun o i h => by rw [hD1]; exact sLat_e h
  obtain ⟨d4, hd4⟩ : ∃ d4, d4 = zup (zup (sDrop k 2 (sNum d k - T) (T : Int) D1) (6 + k) 6 (T : Int)) 0 6 (d 0 6 + (d (6 + k) 6 - (T : Int))) := ⟨_, rfl⟩
  rw [← hd4] at hz ⊢
  show zIn2 d4 ∧ (d4 0 4 = d 0 4 ∧ d4 0 5 = d 0 5) ∧ (0 ≤ d (6 + k) 6 - (T : Int) ∧ d (6 + k) 6 - (T : Int) ≤ d (6 + k) 6) ∧ d4 0 6 = d 0 6 + (d (6 + k) 6 - (T : Int)) ∧ d4 (6 + k) 6 = d (6 + k) 6 - (d (6 + k) 6 - (T : Int)) ∧ (0 < d (6 + k) 6 → (d (6 + k) 6 - (T : Int) = 0 ↔ n ≤ sL d k (sNum d k)))
  change zInv d4 at hz
  have hx : ∀ j : Int, (T : Int) ≤ j ∧ j < (T : Int) + ((sNum d k - T : Nat) : Int) → 0 ≤ D1 (11 + k) j := fun j hj => by
    rw [e1 (11 + k) j (by omega)]
    exact (hF j (by omega)).1
  have o1 : ∀ o i, o < 16 → (o ≠ 6 + k ∨ (i ≠ 4 ∧ i ≠ 6)) → (o ≠ 0 ∨ i ≠ 6) → d4 o i = d o i := fun o i h1 h2 h3 => by
    rw [hd4, zup_n (by omega), zup_n (by omega), sDrop_o _ _ D1 o i h1 hx hk5.2, e1 o i (by omega)]
  have e6 : d4 (6 + k) 6 = (T : Int) := by rw [hd4, zup_n (by omega), zup_s]
  have eS : d4 0 4 = d 0 4 := o1 0 4 (by omega) (by omega) (by omega)
  have eC : d4 0 5 = d 0 5 := o1 0 5 (by omega) (by omega) (by omega)
  refine ⟨⟨hz, in2_drop (D1 := D1) (T := (T : Int)) (st := 2) (r := sNum d k - T) H hk (by omega) (by omega) (by omega) (fun o i h1 h2 => e1 o i (by omega)) (fun o i h1 h2 => ?_) (o1 (6 + k) 0 (by omega) (by omega) (by omega)) e6 eS eC⟩, ⟨eS, eC⟩, by omega, ?_, ?_, hsl⟩
  · rw [hd4, zup_n (by omega), zup_n (by omega)]
  · rw [hd4, zup_s]
  · rw [e6]
    omega
/-- what calling off answers, and what the desk is then -/
theorem of_no {d : zM} {k : Int} (hk : 0 ≤ k ∧ k < d 0 4) (h : d (6 + k) 6 = 0) : opOff d k = (-1000002, d) := by
  unfold opOff
  rw [if_neg (fun z => z hk), if_pos h]
theorem of_ok {d : zM} {k : Int} (hk : 0 ≤ k ∧ k < d 0 4) (h : ¬ d (6 + k) 6 = 0) : opOff d k = (sPay d (d (11 + k) (d (6 + k) 6 - 1)), zup (zup (zup (sDrop k 0 1 (d (6 + k) 6 - 1) d) (6 + k) 6 (d (6 + k) 6 - 1)) (6 + k) 5 (d (6 + k) 5 - sPay d (d (11 + k) (d (6 + k) 6 - 1)))) 0 7 (d 0 7 + 1)) := by
  unfold opOff
  rw [if_neg (fun z => z hk), if_neg h]
theorem in2_off {d : zM} (H : zIn2 d) {k c : Int} (hk : 0 ≤ k ∧ k < d 0 4) (h : 0 < d (6 + k) 6) (hc : c = d (11 + k) (d (6 + k) 6 - 1)) :
    zIn2 (opOff d k).2 ∧ ((opOff d k).2 0 4 = d 0 4 ∧ (opOff d k).2 0 5 = d 0 5) ∧ (opOff d k).1 = sPay d c ∧ (opOff d k).2 (6 + k) 5 = d (6 + k) 5 - sPay d c ∧ (opOff d k).2 (16 + c) 6 = 0 ∧ (opOff d k).2 0 7 = d 0 7 + 1 ∧ sCould (opOff d k).2 k c = 0 := by
  have hz := (inv_off H.1 k).1
  obtain ⟨HI, hsum, hfit⟩ := id H
  have hN4 := HI.1.1.1
  have hk5 : 0 ≤ k ∧ k < 5 := by omega
  have hs := (HI.1.2.2.1 k hk).2.2.2.2.2
  have hNe := sNum_e (d := d) (k := k) hs.1
  have hF := zInv_F HI k hk
  have hcr := hF (d (6 + k) 6 - 1) (by omega)
  rw [← hc] at hcr
  have hft := hfit k hk (d (6 + k) 6 - 1) (by omega)
  rw [← hc] at hft
  rw [of_ok hk (by omega)] at hz ⊢
  rw [← hc] at hz ⊢
  generalize hT : d (6 + k) 6 - 1 = T at hc hz ⊢
  obtain ⟨d4, hd4⟩ : ∃ d4, d4 = zup (zup (zup (sDrop k 0 1 T d) (6 + k) 6 T) (6 + k) 5 (d (6 + k) 5 - sPay d c)) 0 7 (d 0 7 + 1) := ⟨_, rfl⟩
  rw [← hd4] at hz ⊢
  show zIn2 d4 ∧ (d4 0 4 = d 0 4 ∧ d4 0 5 = d 0 5) ∧ sPay d c = sPay d c ∧ d4 (6 + k) 5 = d (6 + k) 5 - sPay d c ∧ d4 (16 + c) 6 = 0 ∧ d4 0 7 = d 0 7 + 1 ∧ sCould d4 k c = 0
  change zInv d4 at hz
  have hx : ∀ j : Int, T ≤ j ∧ j < T + ((1 : Nat) : Int) → 0 ≤ d (11 + k) j := fun j hj => (hF j (by omega)).1
  have o1 : ∀ o i, o < 16 → (o ≠ 6 + k ∨ (i ≠ 5 ∧ i ≠ 6)) → (o ≠ 0 ∨ i ≠ 7) → d4 o i = d o i := fun o i h1 h2 h3 => by
    rw [hd4, zup_n (by omega), zup_n (by omega), zup_n (by omega), sDrop_o _ _ d o i h1 hx hk5.2]
  have oc : ∀ c' i, 0 ≤ c' → i ≠ 6 → d4 (16 + c') i = d (16 + c') i := fun c' i h1 h2 => by
    rw [hd4, zup_n (by omega), zup_n (by omega), zup_n (by omega), sDrop_n hk5 1 T d (fun j hj => ⟨hx j hj, Or.inl h2⟩)]
  have e6 : d4 (6 + k) 6 = T := by rw [hd4, zup_n (by omega), zup_n (by omega), zup_s]
  have e5 : d4 (6 + k) 5 = d (6 + k) 5 - sPay d c := by rw [hd4, zup_n (by omega), zup_s]
  have eS : d4 0 4 = d 0 4 := o1 0 4 (by omega) (by omega) (by omega)
  have eC : d4 0 5 = d 0 5 := o1 0 5 (by omega) (by omega) (by omega)
  have ec : d4 (16 + c) 6 = 0 := by
    rw [hd4, zup_n (by omega), zup_n (by omega), zup_n (by omega)]
    show zup d (16 + d (11 + k) T) 6 0 (16 + c) 6 = 0
    rw [hc, zup_s]
  refine ⟨⟨hz, in2_drop (D1 := d) (T := T) (st := 0) (r := 1) H hk (by omega) (by omega) (by omega) (fun o i h1 h2 => rfl) (fun o i h1 h2 => ?_) (o1 (6 + k) 0 (by omega) (by omega) (by omega)) e6 eS eC⟩, ⟨eS, eC⟩, rfl, e5, ec, ?_, ?_⟩
  · rw [hd4, zup_n (by omega), zup_n (by omega), zup_n (by omega)]
  · rw [hd4, zup_s]
  · obtain ⟨N, hN⟩ : ∃ N : Nat, (N : Int) = T := ⟨T.toNat, by omega⟩
    have hsn : sNum d4 k = N := by unfold sNum; rw [e6]; omega
    have hal : zAlike d d4 k N := ⟨fun i => o1 1 i (by omega) (by omega) (by omega), fun i => o1 2 i (by omega) (by omega) (by omega), fun i hi => o1 (6 + k) i (by omega) (by omega) (by omega), fun n hn => o1 (11 + k) (n : Int) (by omega) (by omega) (by omega), fun n hn i hi => oc _ i (hF (n : Int) (by omega)).1 (by omega)⟩
    have hpos := sPos_al hal N (Nat.le_refl _)
    have hm := HI.2.2.2.2.2.2 k hk N (by omega)
    rw [hN, ← hc] at hm
    have hst := (sStp_cg (d := d) (d' := d4) (k := k) (c := c) (p := (sPos d k N).1) (t := (sPos d k N).2.1) hal.1 hal.2.1 hal.2.2.1 (fun i hi => oc c i hcr.1 (by omega))).2.2
    unfold sCould sEnd
    rw [hsn, hpos, hst, o1 (6 + k) 0 (by omega) (by omega) (by omega), oc c 0 hcr.1 (by omega), if_neg (by omega), if_neg (by omega)]
/-- what settling answers, and what the desk is then -/
theorem se_no {d : zM} {k : Int} (hk : 0 ≤ k ∧ k < d 0 4) (h : d (6 + k) 6 = 0) : opSettle d k = (-1000002, d) := by
  unfold opSettle
  rw [if_neg (fun z => z hk), if_pos h]
theorem se_ok {d : zM} {k : Int} (hk : 0 ≤ k ∧ k < d 0 4) (h : ¬ d (6 + k) 6 = 0) : opSettle d k = ((sEnd d k).2.2 + 1000000, zup (sDrop k 2 (sNum d k) 0 (zup (zup (zup d (6 + k) 5 (d (6 + k) 5 + (sEnd d k).2.2)) (6 + k) 3 (sEnd d k).1) (6 + k) 4 (sEnd d k).2.1)) (6 + k) 6 0) := by
  unfold opSettle
  rw [if_neg (fun z => z hk), if_neg h]
theorem in2_settle {d : zM} (H : zIn2 d) {k : Int} (hk : 0 ≤ k ∧ k < d 0 4) (h : 0 < d (6 + k) 6) :
    zIn2 (opSettle d k).2 ∧ ((opSettle d k).2 0 4 = d 0 4 ∧ (opSettle d k).2 0 5 = d 0 5) ∧ (opSettle d k).1 = (sEnd d k).2.2 + 1000000 ∧ (opSettle d k).2 (6 + k) 5 = d (6 + k) 5 + (sEnd d k).2.2 ∧ (opSettle d k).2 (6 + k) 3 = (sEnd d k).1 ∧ (opSettle d k).2 (6 + k) 4 = (sEnd d k).2.1 ∧ (opSettle d k).2 (6 + k) 6 = 0 := by
  have hz := (inv_settle H.1 k).1
  obtain ⟨HI, hsum, hfit⟩ := id H
  have hN4 := HI.1.1.1
  have hk5 : 0 ≤ k ∧ k < 5 := by omega
  have hs := (HI.1.2.2.1 k hk).2.2.2.2.2
  have hNe := sNum_e (d := d) (k := k) hs.1
  have hF := zInv_F HI k hk
  rw [se_ok hk (by omega)] at hz ⊢
  obtain ⟨D1, hD1⟩ : ∃ D1, D1 = zup (zup (zup d (6 + k) 5 (d (6 + k) 5 + (sEnd d k).2.2)) (6 + k) 3 (sEnd d k).1) (6 + k) 4 (sEnd d k).2.1 := ⟨_, rfl⟩
  rw [← hD1] at hz ⊢
  have e1 : ∀ o i, (o ≠ 6 + k ∨ i < 3 ∨ 5 < i) → D1 o i = d o i := fun o i h => by rw [hD1, zup_n (by omega), zup_n (by omega), zup_n (by omega)]
  have hx : ∀ j : Int, 0 ≤ j ∧ j < 0 + ((sNum d k : Nat) : Int) → 0 ≤ D1 (11 + k) j := fun j hj => by
    rw [e1 (11 + k) j (by omega)]
    exact (hF j (by omega)).1
  obtain ⟨d4, hd4⟩ : ∃ d4, d4 = zup (sDrop k 2 (sNum d k) 0 D1) (6 + k) 6 0 := ⟨_, rfl⟩
  rw [← hd4] at hz ⊢
  show zIn2 d4 ∧ (d4 0 4 = d 0 4 ∧ d4 0 5 = d 0 5) ∧ (sEnd d k).2.2 + 1000000 = (sEnd d k).2.2 + 1000000 ∧ d4 (6 + k) 5 = d (6 + k) 5 + (sEnd d k).2.2 ∧ d4 (6 + k) 3 = (sEnd d k).1 ∧ d4 (6 + k) 4 = (sEnd d k).2.1 ∧ d4 (6 + k) 6 = 0
  change zInv d4 at hz
  have o1 : ∀ o i, o < 16 → (o ≠ 6 + k ∨ i ≠ 6) → d4 o i = D1 o i := fun o i h1 h2 => by
    rw [hd4, zup_n (by omega), sDrop_o _ _ D1 o i h1 hx hk5.2]
  have e6 : d4 (6 + k) 6 = 0 := by rw [hd4, zup_s]
  have eS : d4 0 4 = d 0 4 := (o1 0 4 (by omega) (by omega)).trans (e1 0 4 (by omega))
  have eC : d4 0 5 = d 0 5 := (o1 0 5 (by omega) (by omega)).trans (e1 0 5 (by omega))
  refine ⟨⟨hz, in2_drop (D1 := D1) (T := 0) (st := 2) (r := sNum d k) H hk (by omega) (by omega) (by omega) (fun o i h1 h2 => e1 o i (by omega)) (fun o i h1 h2 => ?_) ((o1 (6 + k) 0 (by omega) (by omega)).trans (e1 (6 + k) 0 (by omega))) e6 eS eC⟩, ⟨eS, eC⟩, rfl, ?_, ?_, ?_, e6⟩
  · rw [hd4, zup_n (by omega)]
  · rw [o1 (6 + k) 5 (by omega) (by omega), hD1, zup_n (by omega), zup_n (by omega), zup_s]
  · rw [o1 (6 + k) 3 (by omega) (by omega), hD1, zup_n (by omega), zup_s]
  · rw [o1 (6 + k) 4 (by omega) (by omega), hD1, zup_s]
/-- the best cargo is open and could be fixed -/
theorem sRow_ok {d : zM} {k c0 : Int} {q : sQ} (h0 : q.1 = 0) (hc0 : 0 ≤ c0) : ∀ n : Nat, (sRow d k c0 n q).1 = 0 ∨ ((c0 ≤ (sRow d k c0 n q).2.2.1 ∧ (sRow d k c0 n q).2.2.1 < c0 + (n : Int)) ∧ d (16 + (sRow d k c0 n q).2.2.1) 6 = 0 ∧ sCould d k (sRow d k c0 n q).2.2.1 = 0) := by
  intro n
  induction n with
  | zero => exact Or.inl h0
  | succ n ih =>
    show (sStep d k (c0 + (n : Int)) (sRow d k c0 n q)).1 = 0 ∨ ((c0 ≤ (sStep d k (c0 + (n : Int)) (sRow d k c0 n q)).2.2.1 ∧ (sStep d k (c0 + (n : Int)) (sRow d k c0 n q)).2.2.1 < c0 + ((n + 1 : Nat) : Int)) ∧ d (16 + (sStep d k (c0 + (n : Int)) (sRow d k c0 n q)).2.2.1) 6 = 0 ∧ sCould d k (sStep d k (c0 + (n : Int)) (sRow d k c0 n q)).2.2.1 = 0)
    by_cases z : d (16 + (c0 + (n : Int))) 6 = 0 ∧ sCould d k (c0 + (n : Int)) = 0 ∧ ((sRow d k c0 n q).1 = 0 ∨ (sRow d k c0 n q).2.2.2 < sEa d k (c0 + (n : Int)))
    · rw [sStep_p z]
      right
      show (c0 ≤ c0 + (n : Int) ∧ c0 + (n : Int) < c0 + ((n + 1 : Nat) : Int)) ∧ d (16 + (c0 + (n : Int))) 6 = 0 ∧ sCould d k (c0 + (n : Int)) = 0
      exact ⟨by omega, z.1, z.2.1⟩
    · rw [sStep_n z]
      rcases ih with h | ⟨h1, h2⟩
      · exact Or.inl h
      · exact Or.inr ⟨by omega, h2⟩
theorem bestC_ok {d : zM} {k a b e : Int} (hk : 0 ≤ k ∧ k < d 0 4) (hC : 0 ≤ d 0 5) : qBestC d k (0, a, b, e) = -1000004 ∨ ((0 ≤ qBestC d k (0, a, b, e) ∧ qBestC d k (0, a, b, e) < d 0 5) ∧ d (16 + qBestC d k (0, a, b, e)) 6 = 0 ∧ sCould d k (qBestC d k (0, a, b, e)) = 0) := by
  unfold qBestC
  rw [if_neg (fun z => z hk)]
  have e1 : sAll d k 0 (d 0 5).toNat 1 (0, a, b, e) = sRow d k 0 (d 0 5).toNat (0, a, b, e) := by
    show sRow d (k + ((0 : Nat) : Int)) 0 (d 0 5).toNat (0, a, b, e) = _
    rw [show k + ((0 : Nat) : Int) = k by omega]
  rw [e1]
  have h := sRow_ok (d := d) (k := k) (c0 := 0) (q := (0, a, b, e)) rfl (Int.le_refl _) (d 0 5).toNat
  generalize sRow d k 0 (d 0 5).toNat (0, a, b, e) = q at h ⊢
  split
  · rcases h with h | ⟨h1, h2⟩
    · omega
    · exact Or.inr ⟨by omega, h2⟩
  · exact Or.inl rfl
/-- behind a change: what was kept -/
theorem keep_err {μ d : zM} {n L : Int} {h : Int → zM} {t : Int → Int} {r : Int × zM} (q : -1000004 ≤ r.1 ∧ r.1 ≤ -1000001) (H : zStK μ (sKeep r d n h) L t) : zSt μ d n h L t := by
  unfold sKeep at H
  rw [if_pos q] at H
  exact H
theorem keep_ok {μ d : zM} {n L : Int} {h : Int → zM} {t : Int → Int} {r : Int × zM} (q : 0 ≤ r.1) (H : zStK μ (sKeep r d n h) L t) : zSt μ r.2 (sPushN n) (sPushH n h d) L t := by
  unfold sKeep at H
  rw [if_neg (by omega)] at H
  exact H
theorem undo_ok {μ d : zM} {n L : Int} {h : Int → zM} {t : Int → Int} (hn : 0 ≤ n ∧ n ≤ 4) {d2 : zM} (H : zStK μ (opUndo d2 (sPushN n) (sPushH n h d)).2 L t) : zSt μ d (sPushN n - 1) (sPushH n h d) L t ∧ 0 ≤ (opUndo d2 (sPushN n) (sPushH n h d)).1 ∧ (opUndo d2 (sPushN n) (sPushH n h d)).1 ≤ 4 := by
  have hp : 1 ≤ sPushN n ∧ sPushN n ≤ 4 := by unfold sPushN; split <;> omega
  have e : sPushH n h d (sPushN n - 1) = d := by
    unfold sPushH sPushN
    by_cases q : n = 4
    · rw [if_pos q, if_pos q, if_pos (by omega)]
    · rw [if_neg q, if_neg q, if_pos (by omega)]
  unfold opUndo at H ⊢
  rw [if_pos hp.1] at H ⊢
  refine ⟨?_, by show 0 ≤ sPushN n - 1; omega, by show sPushN n - 1 ≤ 4; omega⟩
  have H2 : zSt μ (sPushH n h d (sPushN n - 1)) (sPushN n - 1) (sPushH n h d) L t := H
  rw [e] at H2
  exact H2
/-! the first state -/
theorem in0 : zIn2 d0 := by
  refine ⟨inv0, ?_, ?_⟩
  · unfold zSum
    rw [show d0 0 4 = 0 by decide +kernel, show d0 0 5 = 0 by decide +kernel]
    rfl
  · intro k hk
    rw [show d0 0 4 = 0 by decide +kernel] at hk
    omega
theorem stt0 : zSt mu0 d0 0 (fun _ => d0) 0 (fun _ => 0) := by
  refine ⟨rfl, ⟨⟨fun i hi => ?_, fun i j hi hj e => ?_⟩, rfl, by omega, fun i hi => absurd hi (by omega)⟩, rfl, by omega, fun i hi => absurd hi (by omega)⟩
  · rw [mu0_s]; omega
  · rw [mu0_s, mu0_s] at e; omega
theorem sh_ok {d : zM} {z v u p t : Int} (h : (1 ≤ z ∧ z ≤ 99) ∧ (1 ≤ v ∧ v ≤ 20) ∧ (1 ≤ u ∧ u ≤ 99) ∧ (0 ≤ p ∧ p ≤ 7) ∧ (0 ≤ t ∧ t ≤ 999)) (h5 : 0 ≤ d 0 4 ∧ d 0 4 < 5) : (opShip d z v u p t).1 = d 0 4 ∧ (opShip d z v u p t).2 0 4 = d 0 4 + 1 ∧ (opShip d z v u p t).2 0 5 = d 0 5 := by
  unfold opShip
  rw [if_neg (fun q => q h), if_neg (by omega)]
  refine ⟨rfl, ?_, ?_⟩
  · show (zup (zup (zup (zup (zup (zup d (6 + d 0 4) 0 z) (6 + d 0 4) 1 v) (6 + d 0 4) 2 u) (6 + d 0 4) 3 p) (6 + d 0 4) 4 t) 0 4 (d 0 4 + 1)) 0 4 = _
    rw [zup_s]
  · show (zup (zup (zup (zup (zup (zup d (6 + d 0 4) 0 z) (6 + d 0 4) 1 v) (6 + d 0 4) 2 u) (6 + d 0 4) 3 p) (6 + d 0 4) 4 t) 0 4 (d 0 4 + 1)) 0 5 = _
    rw [zup_n (by omega), zup_n (by omega), zup_n (by omega), zup_n (by omega), zup_n (by omega), zup_n (by omega)]
theorem cg_ok {d : zM} {a g u f t w : Int} (h : (1 ≤ a ∧ a ≤ 99) ∧ (0 ≤ g ∧ g ≤ 7) ∧ (0 ≤ u ∧ u ≤ 7) ∧ g ≠ u ∧ (0 ≤ f ∧ f ≤ 999) ∧ (f ≤ t ∧ t ≤ 999) ∧ (1 ≤ w ∧ w ≤ 99)) (h5 : 0 ≤ d 0 5 ∧ d 0 5 < 10) : (opCargo d a g u f t w).1 = d 0 5 ∧ (opCargo d a g u f t w).2 0 5 = d 0 5 + 1 ∧ (opCargo d a g u f t w).2 0 4 = d 0 4 := by
  unfold opCargo
  rw [if_neg (fun q => q h), if_neg (by omega)]
  refine ⟨rfl, ?_, ?_⟩
  · show (zup (zup (zup (zup (zup (zup (zup d (16 + d 0 5) 0 a) (16 + d 0 5) 1 g) (16 + d 0 5) 2 u) (16 + d 0 5) 3 f) (16 + d 0 5) 4 t) (16 + d 0 5) 5 w) 0 5 (d 0 5 + 1)) 0 5 = _
    rw [zup_s]
  · show (zup (zup (zup (zup (zup (zup (zup d (16 + d 0 5) 0 a) (16 + d 0 5) 1 g) (16 + d 0 5) 2 u) (16 + d 0 5) 3 f) (16 + d 0 5) 4 t) (16 + d 0 5) 5 w) 0 5 (d 0 5 + 1)) 0 4 = _
    rw [zup_n (by omega), zup_n (by omega), zup_n (by omega), zup_n (by omega), zup_n (by omega), zup_n (by omega), zup_n (by omega)]
theorem pt_no {d : zM} (h : ¬ sCnt d 1 (d 0 5).toNat = 0) : opPort d 0 1 1 = (-1000002, d) := by
  have := sCnt_b d 1 (d 0 5).toNat
  unfold opPort
  rw [if_neg (fun q => q (by decide)), if_pos (by omega)]
theorem dl_bad {d : zM} {k : Int} : opDelay d k 100 = (-1000001, d) := by
  unfold opDelay
  rw [if_pos (fun q => absurd q.2.2 (by decide))]
