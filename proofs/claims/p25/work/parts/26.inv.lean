/-! EACH CHANGE KEEPS THE INVARIANT, and what it answers is in its range -/
/-- what a ship's way through its first N fixtures depends on is the same -/
def zAlike (d d' : zM) (k : Int) (N : Nat) : Prop := (∀ i, d' 1 i = d 1 i) ∧ (∀ i, d' 2 i = d 2 i) ∧ (∀ i, 0 ≤ i ∧ i < 5 → d' (6 + k) i = d (6 + k) i) ∧ (∀ n : Nat, n < N → d' (11 + k) (n : Int) = d (11 + k) (n : Int)) ∧ ∀ n : Nat, n < N → ∀ i, 0 ≤ i ∧ i < 6 → d' (16 + d (11 + k) (n : Int)) i = d (16 + d (11 + k) (n : Int)) i
theorem sStp_cg {d d' : zM} {k c p t : Int} (h1 : ∀ i, d' 1 i = d 1 i) (h2 : ∀ i, d' 2 i = d 2 i) (hs : ∀ i, 0 ≤ i ∧ i < 5 → d' (6 + k) i = d (6 + k) i) (hc : ∀ i, 0 ≤ i ∧ i < 6 → d' (16 + c) i = d (16 + c) i) : sFree d' k c p t = sFree d k c p t ∧ sEarn d' k c p t = sEarn d k c p t ∧ sMarg d' k c p t = sMarg d k c p t := by
  have f : ∀ p q, sFar d' p q = sFar d p q := fun p q => by unfold sFar; rw [h1 p, h1 q, h2 p, h2 q]
  have g : ∀ p q, sSail d' k p q = sSail d k p q := fun p q => by unfold sSail; rw [f, hs 1 (by omega)]
  have a : sArr d' k c p t = sArr d k c p t := by unfold sArr; rw [g, hc 1 (by omega)]
  have l : sLoad d' k c p t = sLoad d k c p t := by unfold sLoad; rw [a, hc 3 (by omega)]
  have r : sFree d' k c p t = sFree d k c p t := by unfold sFree; rw [l, g, hc 1 (by omega), hc 2 (by omega)]
  refine ⟨r, ?_, ?_⟩
  · unfold sEarn; rw [r, hc 0 (by omega), hc 5 (by omega), hs 2 (by omega)]
  · unfold sMarg; rw [a, hc 4 (by omega)]
theorem sPos_al {d d' : zM} {k : Int} {N : Nat} (h : zAlike d d' k N) : ∀ n : Nat, n ≤ N → sPos d' k n = sPos d k n := by
  obtain ⟨h1, h2, hs, hx, hc⟩ := h
  intro n
  induction n with
  | zero =>
    intro _
    show (d' (6 + k) 3, d' (6 + k) 4, (0 : Int)) = (d (6 + k) 3, d (6 + k) 4, (0 : Int))
    rw [hs 3 (by omega), hs 4 (by omega)]
  | succ n ih =>
    intro hn
    have i1 := ih (by omega)
    have e := hx n (by omega)
    have q := sStp_cg (p := (sPos d k n).1) (t := (sPos d k n).2.1) h1 h2 hs (hc n (by omega))
    show (d' (16 + d' (11 + k) (n : Int)) 2, sFree d' k (d' (11 + k) (n : Int)) (sPos d' k n).1 (sPos d' k n).2.1, (sPos d' k n).2.2 + sEarn d' k (d' (11 + k) (n : Int)) (sPos d' k n).1 (sPos d' k n).2.1) = (d (16 + d (11 + k) (n : Int)) 2, sFree d k (d (11 + k) (n : Int)) (sPos d k n).1 (sPos d k n).2.1, (sPos d k n).2.2 + sEarn d k (d (11 + k) (n : Int)) (sPos d k n).1 (sPos d k n).2.1)
    rw [i1, e, q.1, q.2.1, hc n (by omega) 2 (by omega)]
theorem sMarg_al {d d' : zM} {k : Int} {N : Nat} (h : zAlike d d' k N) {n : Nat} (hn : n < N) : sMarg d' k (d' (11 + k) (n : Int)) (sPos d' k n).1 (sPos d' k n).2.1 = sMarg d k (d (11 + k) (n : Int)) (sPos d k n).1 (sPos d k n).2.1 := by
  rw [sPos_al h n (by omega), h.2.2.2.1 n hn]
  exact (sStp_cg h.1 h.2.1 h.2.2.1 (h.2.2.2.2 n hn)).2.2
/-- what a change answers: an error leaves the desk as it was -/
def rOK (r : Int × zM) (d : zM) : Prop := (-2147483648 ≤ r.1 ∧ r.1 ≤ 2147483647) ∧ -1000004 ≤ r.1 ∧ (r.1 ≤ -1000001 → r.2 = d)
theorem rOK_err {d : zM} {a : Int} (h : -1000004 ≤ a ∧ a ≤ 2147483647) : rOK (a, d) d := ⟨by constructor <;> show _ <;> omega, h.1, fun _ => rfl⟩
theorem rOK_ok {d d1 : zM} {a : Int} (h : 0 ≤ a ∧ a ≤ 2147483647) : rOK (a, d1) d := ⟨by constructor <;> show _ <;> omega, by show -1000004 ≤ a; omega, fun q => by have : a ≤ -1000001 := q; omega⟩
theorem sCnt_pos {d : zM} {st c : Int} (h : d (16 + c) 6 = st) (h0 : 0 ≤ c) : ∀ n : Nat, c < (n : Int) → 0 < sCnt d st n := by
  intro n
  induction n with
  | zero => intro q; exact absurd q (by omega)
  | succ n ih =>
    intro q
    have := sCnt_b d st n
    show 0 < sCnt d st n + (if d (16 + (n : Int)) 6 = st then 1 else 0)
    by_cases z : c = (n : Int)
    · rw [← z, if_pos h]; omega
    · have := ih (by omega)
      split <;> omega
/-! port -/
theorem inv_port {d : zM} (H : zInv d) (p x y : Int) : zInv (opPort d p x y).2 ∧ rOK (opPort d p x y) d := by
  unfold opPort
  split
  · exact ⟨H, rOK_err (by omega)⟩
  rename_i q1
  split
  · exact ⟨H, rOK_err (by omega)⟩
  rename_i q2
  obtain ⟨hB, h5, h6, hF, hS, hI, hL⟩ := H
  obtain ⟨hN, hP, hB3, hB4⟩ := hB
  have hz : ∀ k, 0 ≤ k ∧ k < d 0 4 → d (6 + k) 6 = 0 := by
    intro k hk
    have hs := (hB3 k hk).2.2.2.2.2
    by_cases z : d (6 + k) 6 = 0
    · exact z
    · have f1 := hF k hk 0 (by omega)
      have f2 := hS k hk 0 (by omega)
      exact absurd (sCnt_pos f2 f1.1 (d 0 5).toNat (by omega)) q2
  obtain ⟨d', hd'⟩ : ∃ d', d' = zup (zup d 1 p x) 2 p y := ⟨_, rfl⟩
  rw [← hd']
  show zInv d' ∧ rOK (_, d') d
  have e : ∀ o i, (o ≠ 1 ∨ i ≠ p) → (o ≠ 2 ∨ i ≠ p) → d' o i = d o i := fun o i a b => by rw [hd', zup_n b, zup_n a]
  have e0 : ∀ o i, o ≠ 1 → o ≠ 2 → d' o i = d o i := fun o i a b => e o i (Or.inl a) (Or.inl b)
  have ex : d' 1 p = x := by rw [hd', zup_n (by omega), zup_s]
  have ey : d' 2 p = y := by rw [hd', zup_s]
  have hp := hP p (by omega)
  refine ⟨⟨⟨?_, ?_, ?_, ?_⟩, ?_, ?_, ?_, ?_, ?_, ?_⟩, rOK_ok ?_⟩
  · unfold bN
    rw [e0 0 4 (by omega) (by omega), e0 0 5 (by omega) (by omega)]
    exact hN
  · intro r hr
    by_cases z : r = p
    · rw [z, ex, ey]
      exact ⟨by omega, by omega⟩
    · rw [e 1 r (Or.inr z) (Or.inl (by omega)), e 2 r (Or.inl (by omega)) (Or.inr z)]
      exact hP r hr
  · intro k hk
    rw [e0 0 4 (by omega) (by omega)] at hk
    have := hB3 k hk
    unfold bS at this ⊢
    rw [e0 (6 + k) 0 (by omega) (by omega), e0 (6 + k) 1 (by omega) (by omega), e0 (6 + k) 2 (by omega) (by omega), e0 (6 + k) 3 (by omega) (by omega), e0 (6 + k) 4 (by omega) (by omega), e0 (6 + k) 6 (by omega) (by omega)]
    exact this
  · intro c hc
    rw [e0 0 5 (by omega) (by omega)] at hc
    have := hB4 c hc
    unfold bC at this ⊢
    rw [e0 (16 + c) 0 (by omega) (by omega), e0 (16 + c) 1 (by omega) (by omega), e0 (16 + c) 2 (by omega) (by omega), e0 (16 + c) 3 (by omega) (by omega), e0 (16 + c) 4 (by omega) (by omega), e0 (16 + c) 5 (by omega) (by omega), e0 (16 + c) 6 (by omega) (by omega)]
    exact this
  · intro k hk
    rw [e0 0 4 (by omega) (by omega)] at hk
    have h1 := hN.1
    rw [e0 (6 + k) 5 (by omega) (by omega), e0 (6 + k) 6 (by omega) (by omega)]
    exact h5 k hk
  · intro c hc
    rw [e0 0 5 (by omega) (by omega)] at hc
    have h1 := hN.2
    rw [e0 (16 + c) 6 (by omega) (by omega)]
    exact h6 c hc
  · intro k hk z hz2
    rw [e0 0 4 (by omega) (by omega)] at hk
    rw [e0 (6 + k) 6 (by omega) (by omega), hz k hk] at hz2
    omega
  · intro k hk z hz2
    rw [e0 0 4 (by omega) (by omega)] at hk
    rw [e0 (6 + k) 6 (by omega) (by omega), hz k hk] at hz2
    omega
  · intro k k' z z' hk hk' hz2
    rw [e0 0 4 (by omega) (by omega)] at hk
    rw [e0 (6 + k) 6 (by omega) (by omega), hz k hk] at hz2
    omega
  · intro k hk n hn
    rw [e0 0 4 (by omega) (by omega)] at hk
    unfold sNum at hn
    rw [e0 (6 + k) 6 (by omega) (by omega), hz k hk] at hn
    exact absurd hn (Nat.not_lt_zero _)
  · omega
/-! ship -/
theorem inv_ship {d : zM} (H : zInv d) (z v u p t : Int) : zInv (opShip d z v u p t).2 ∧ rOK (opShip d z v u p t) d := by
  unfold opShip
  split
  · exact ⟨H, rOK_err (by omega)⟩
  rename_i q1
  split
  · exact ⟨H, rOK_err (by omega)⟩
  rename_i q2
  obtain ⟨hB, h5, h6, hF, hS, hI, hL⟩ := H
  obtain ⟨hN, hP, hB3, hB4⟩ := hB
  obtain ⟨hN1, hN2⟩ := hN
  obtain ⟨S, hSe⟩ : ∃ S, d 0 4 = S := ⟨_, rfl⟩
  rw [hSe] at q2 h5 hN1 hB3 hF hS hI hL ⊢
  obtain ⟨d', hd'⟩ : ∃ d', d' = zup (zup (zup (zup (zup (zup d (6 + S) 0 z) (6 + S) 1 v) (6 + S) 2 u) (6 + S) 3 p) (6 + S) 4 t) 0 4 (S + 1) := ⟨_, rfl⟩
  rw [← hd']
  show zInv d' ∧ rOK (_, d') d
  have e : ∀ o i, (o ≠ 6 + S ∨ i < 0 ∨ 5 ≤ i) → (o ≠ 0 ∨ i ≠ 4) → d' o i = d o i := fun o i a b => by rw [hd', zup_n b, zup_n (by omega), zup_n (by omega), zup_n (by omega), zup_n (by omega), zup_n (by omega)]
  have e4 : d' 0 4 = S + 1 := by rw [hd', zup_s]
  have f0 : d' (6 + S) 0 = z := by rw [hd', zup_n (by omega), zup_n (by omega), zup_n (by omega), zup_n (by omega), zup_n (by omega), zup_s]
  have f1 : d' (6 + S) 1 = v := by rw [hd', zup_n (by omega), zup_n (by omega), zup_n (by omega), zup_n (by omega), zup_s]
  have f2 : d' (6 + S) 2 = u := by rw [hd', zup_n (by omega), zup_n (by omega), zup_n (by omega), zup_s]
  have f3 : d' (6 + S) 3 = p := by rw [hd', zup_n (by omega), zup_n (by omega), zup_s]
  have f4 : d' (6 + S) 4 = t := by rw [hd', zup_n (by omega), zup_s]
  have f6 : d' (6 + S) 6 = 0 := by rw [e (6 + S) 6 (by omega) (by omega)]; exact (h5 S (by omega)).2
  have e6 : ∀ k, 0 ≤ k → d' (6 + k) 6 = d (6 + k) 6 := fun k hk => e (6 + k) 6 (by omega) (by omega)
  have old : ∀ k x, 0 ≤ k ∧ k < S + 1 → 0 ≤ x ∧ x < d' (6 + k) 6 → (0 ≤ k ∧ k < S) ∧ (0 ≤ x ∧ x < d (6 + k) 6) := by
    intro k x hk hx
    by_cases q : k = S
    · rw [q, f6] at hx; omega
    · rw [e6 k hk.1] at hx; exact ⟨by omega, hx⟩
  refine ⟨⟨⟨?_, ?_, ?_, ?_⟩, ?_, ?_, ?_, ?_, ?_, ?_⟩, rOK_ok (by omega)⟩
  · unfold bN
    rw [e4, e 0 5 (by omega) (by omega)]
    exact ⟨by omega, hN2⟩
  · intro r hr
    rw [e 1 r (by omega) (by omega), e 2 r (by omega) (by omega)]
    exact hP r hr
  · intro k hk
    rw [e4] at hk
    unfold bS
    by_cases q : k = S
    · subst q
      rw [f0, f1, f2, f3, f4, f6]
      omega
    · have := hB3 k (by omega)
      unfold bS at this
      rw [e (6 + k) 0 (by omega) (by omega), e (6 + k) 1 (by omega) (by omega), e (6 + k) 2 (by omega) (by omega), e (6 + k) 3 (by omega) (by omega), e (6 + k) 4 (by omega) (by omega), e (6 + k) 6 (by omega) (by omega)]
      exact this
  · intro c hc
    rw [e 0 5 (by omega) (by omega)] at hc
    have := hB4 c hc
    unfold bC at this ⊢
    rw [e (16 + c) 0 (by omega) (by omega), e (16 + c) 1 (by omega) (by omega), e (16 + c) 2 (by omega) (by omega), e (16 + c) 3 (by omega) (by omega), e (16 + c) 4 (by omega) (by omega), e (16 + c) 5 (by omega) (by omega), e (16 + c) 6 (by omega) (by omega)]
    exact this
  · intro k hk
    rw [e4] at hk
    rw [e (6 + k) 5 (by omega) (by omega), e (6 + k) 6 (by omega) (by omega)]
    exact h5 k (by omega)
  · intro c hc
    rw [e 0 5 (by omega) (by omega)] at hc
    rw [e (16 + c) 6 (by omega) (by omega)]
    exact h6 c hc
  · intro k hk x hx
    rw [e4] at hk
    have := old k x hk hx
    rw [e (11 + k) x (by omega) (by omega), e 0 5 (by omega) (by omega)]
    exact hF k this.1 x this.2
  · intro k hk x hx
    rw [e4] at hk
    have := old k x hk hx
    have hf := hF k this.1 x this.2
    rw [e (11 + k) x (by omega) (by omega), e _ 6 (by omega) (by omega)]
    exact hS k this.1 x this.2
  · intro k k' x x' hk hk' hx hx' he
    rw [e4] at hk hk'
    have a := old k x hk hx
    have b := old k' x' hk' hx'
    rw [e (11 + k) x (by omega) (by omega), e (11 + k') x' (by omega) (by omega)] at he
    exact hI k k' x x' a.1 b.1 a.2 b.2 he
  · intro k hk n hn
    rw [e4] at hk
    have hk6 := e6 k hk.1
    have hn2 : (n : Int) < d' (6 + k) 6 := by unfold sNum at hn; omega
    have a := old k n hk ⟨by omega, hn2⟩
    have hn3 : n < sNum d k := by unfold sNum; omega
    rw [sMarg_al (N := sNum d k) ⟨fun i => e 1 i (by omega) (by omega), fun i => e 2 i (by omega) (by omega), fun i hi => e (6 + k) i (by omega) (by omega), fun m hm => e (11 + k) m (by omega) (by omega), fun m hm i hi => by
      have hf := hF k a.1 m (by unfold sNum at hm; omega)
      exact e _ i (by omega) (by omega)⟩ hn3]
    exact hL k a.1 n hn3
/-! cargo -/
theorem inv_cargo {d : zM} (H : zInv d) (a g u f t w : Int) : zInv (opCargo d a g u f t w).2 ∧ rOK (opCargo d a g u f t w) d := by
  unfold opCargo
  split
  · exact ⟨H, rOK_err (by omega)⟩
  rename_i q1
  split
  · exact ⟨H, rOK_err (by omega)⟩
  rename_i q2
  obtain ⟨hB, h5, h6, hF, hS, hI, hL⟩ := H
  obtain ⟨hN, hP, hB3, hB4⟩ := hB
  obtain ⟨hN1, hN2⟩ := hN
  obtain ⟨C, hCe⟩ : ∃ C, d 0 5 = C := ⟨_, rfl⟩
  rw [hCe] at q2 h6 hN2 hB4 hF ⊢
  obtain ⟨d', hd'⟩ : ∃ d', d' = zup (zup (zup (zup (zup (zup (zup d (16 + C) 0 a) (16 + C) 1 g) (16 + C) 2 u) (16 + C) 3 f) (16 + C) 4 t) (16 + C) 5 w) 0 5 (C + 1) := ⟨_, rfl⟩
  rw [← hd']
  show zInv d' ∧ rOK (_, d') d
  have e : ∀ o i, (o ≠ 16 + C ∨ i < 0 ∨ 6 ≤ i) → (o ≠ 0 ∨ i ≠ 5) → d' o i = d o i := fun o i a b => by rw [hd', zup_n b, zup_n (by omega), zup_n (by omega), zup_n (by omega), zup_n (by omega), zup_n (by omega), zup_n (by omega)]
  have e5 : d' 0 5 = C + 1 := by rw [hd', zup_s]
  have f0 : d' (16 + C) 0 = a := by rw [hd', zup_n (by omega), zup_n (by omega), zup_n (by omega), zup_n (by omega), zup_n (by omega), zup_n (by omega), zup_s]
  have f1 : d' (16 + C) 1 = g := by rw [hd', zup_n (by omega), zup_n (by omega), zup_n (by omega), zup_n (by omega), zup_n (by omega), zup_s]
  have f2 : d' (16 + C) 2 = u := by rw [hd', zup_n (by omega), zup_n (by omega), zup_n (by omega), zup_n (by omega), zup_s]
  have f3 : d' (16 + C) 3 = f := by rw [hd', zup_n (by omega), zup_n (by omega), zup_n (by omega), zup_s]
  have f4 : d' (16 + C) 4 = t := by rw [hd', zup_n (by omega), zup_n (by omega), zup_s]
  have f5 : d' (16 + C) 5 = w := by rw [hd', zup_n (by omega), zup_s]
  have f6 : d' (16 + C) 6 = 0 := by rw [e (16 + C) 6 (by omega) (by omega)]; exact h6 C (by omega)
  have eS : d' 0 4 = d 0 4 := e 0 4 (by omega) (by omega)
  refine ⟨⟨⟨?_, ?_, ?_, ?_⟩, ?_, ?_, ?_, ?_, ?_, ?_⟩, rOK_ok (by omega)⟩
  · unfold bN
    rw [e5, eS]
    exact ⟨hN1, by omega⟩
  · intro r hr
    rw [e 1 r (by omega) (by omega), e 2 r (by omega) (by omega)]
    exact hP r hr
  · intro k hk
    rw [eS] at hk
    have := hB3 k hk
    unfold bS at this ⊢
    rw [e (6 + k) 0 (by omega) (by omega), e (6 + k) 1 (by omega) (by omega), e (6 + k) 2 (by omega) (by omega), e (6 + k) 3 (by omega) (by omega), e (6 + k) 4 (by omega) (by omega), e (6 + k) 6 (by omega) (by omega)]
    exact this
  · intro c hc
    rw [e5] at hc
    unfold bC
    by_cases q : c = C
    · subst q
      rw [f0, f1, f2, f3, f4, f5, f6]
      omega
    · have := hB4 c (by omega)
      unfold bC at this
      rw [e (16 + c) 0 (by omega) (by omega), e (16 + c) 1 (by omega) (by omega), e (16 + c) 2 (by omega) (by omega), e (16 + c) 3 (by omega) (by omega), e (16 + c) 4 (by omega) (by omega), e (16 + c) 5 (by omega) (by omega), e (16 + c) 6 (by omega) (by omega)]
      exact this
  · intro k hk
    rw [eS] at hk
    rw [e (6 + k) 5 (by omega) (by omega), e (6 + k) 6 (by omega) (by omega)]
    exact h5 k hk
  · intro c hc
    rw [e5] at hc
    rw [e (16 + c) 6 (by omega) (by omega)]
    exact h6 c (by omega)
  · intro k hk x hx
    rw [eS] at hk
    rw [e (6 + k) 6 (by omega) (by omega)] at hx
    rw [e (11 + k) x (by omega) (by omega), e5]
    have := hF k hk x hx
    omega
  · intro k hk x hx
    rw [eS] at hk
    rw [e (6 + k) 6 (by omega) (by omega)] at hx
    have hf := hF k hk x hx
    rw [e (11 + k) x (by omega) (by omega), e _ 6 (by omega) (by omega)]
    exact hS k hk x hx
  · intro k k' x x' hk hk' hx hx' he
    rw [eS] at hk hk'
    rw [e (6 + k) 6 (by omega) (by omega)] at hx
    rw [e (6 + k') 6 (by omega) (by omega)] at hx'
    rw [e (11 + k) x (by omega) (by omega), e (11 + k') x' (by omega) (by omega)] at he
    exact hI k k' x x' hk hk' hx hx' he
  · intro k hk n hn
    rw [eS] at hk
    have hn3 : n < sNum d k := by unfold sNum at hn ⊢; rw [e (6 + k) 6 (by omega) (by omega)] at hn; exact hn
    rw [sMarg_al (N := sNum d k) ⟨fun i => e 1 i (by omega) (by omega), fun i => e 2 i (by omega) (by omega), fun i hi => e (6 + k) i (by omega) (by omega), fun m hm => e (11 + k) m (by omega) (by omega), fun m hm i hi => by
      have hf := hF k hk m (by unfold sNum at hm; omega)
      exact e _ i (by omega) (by omega)⟩ hn3]
    exact hL k hk n hn3
/-! fix -/
theorem inv_fix {d : zM} (H : zInv d) (k c : Int) : zInv (opFix d k c).2 ∧ rOK (opFix d k c) d := by
  unfold opFix
  split
  · exact ⟨H, rOK_err (by omega)⟩
  rename_i q1
  split
  · exact ⟨H, rOK_err (by omega)⟩
  rename_i q2
  have hfull := zInv_full H k c (by omega) (by omega) (by omega)
  have hv := sVoy_b H (k := k) (c := c) (by omega) (by omega)
  have hg := (zInv_G H k (by omega)).2 _ (Nat.le_refl _)
  have hg2 : 0 ≤ (sEnd d k).2.1 ∧ (sEnd d k).2.1 ≤ 2000 := hg.2
  obtain ⟨hB, h5, h6, hF, hS, hI, hL⟩ := H
  obtain ⟨hN, hP, hB3, hB4⟩ := hB
  obtain ⟨hN1, hN2⟩ := hN
  have hk : 0 ≤ k ∧ k < d 0 4 := by omega
  have hc : 0 ≤ c ∧ c < d 0 5 := by omega
  have hs6 := (hB3 k hk).2.2.2.2.2
  have hm : 0 ≤ sMarg d k c (sEnd d k).1 (sEnd d k).2.1 := by
    have q3 : sCould d k c = 0 := by omega
    unfold sCould at q3
    split at q3
    · omega
    · split at q3 <;> omega
  obtain ⟨n0, hn0⟩ : ∃ n0, d (6 + k) 6 = n0 := ⟨_, rfl⟩
  obtain ⟨d', hd'⟩ : ∃ d', d' = zup (zup (zup (zup d (11 + k) (d (6 + k) 6) c) (6 + k) 6 (d (6 + k) 6 + 1)) (16 + c) 6 1) (16 + c) 7 k := ⟨_, rfl⟩
  rw [← hd']
  show zInv d' ∧ rOK (_, d') d
  rw [hn0] at hd' hs6 hfull
  have e : ∀ o i, (o ≠ 11 + k ∨ i ≠ n0) → (o ≠ 6 + k ∨ i ≠ 6) → (o ≠ 16 + c ∨ (i ≠ 6 ∧ i ≠ 7)) → d' o i = d o i := fun o i x y z => by rw [hd', zup_n (by omega), zup_n (by omega), zup_n (by omega), zup_n (by omega)]
  have eS : d' 0 4 = d 0 4 := e 0 4 (by omega) (by omega) (by omega)
  have eC : d' 0 5 = d 0 5 := e 0 5 (by omega) (by omega) (by omega)
  have fn : d' (6 + k) 6 = n0 + 1 := by rw [hd', zup_n (by omega), zup_n (by omega), zup_s]
  have fx : d' (11 + k) n0 = c := by rw [hd', zup_n (by omega), zup_n (by omega), zup_n (by omega), zup_s]
  have fs : d' (16 + c) 6 = 1 := by rw [hd', zup_n (by omega), zup_s]
  have e6 : ∀ j, 0 ≤ j ∧ j < 5 → j ≠ k → d' (6 + j) 6 = d (6 + j) 6 := fun j _ hj => e (6 + j) 6 (by omega) (by omega) (by omega)
  have es : ∀ y, y ≠ c → 0 ≤ y → d' (16 + y) 6 = d (16 + y) 6 := fun y hy _ => e (16 + y) 6 (by omega) (by omega) (by omega)
  have old : ∀ j x, 0 ≤ j ∧ j < d 0 4 → 0 ≤ x ∧ x < d' (6 + j) 6 → (j = k ∧ x = n0) ∨ ((0 ≤ x ∧ x < d (6 + j) 6) ∧ d' (11 + j) x = d (11 + j) x ∧ d (11 + j) x ≠ c) := by
    intro j x hj hx
    by_cases q : j = k
    · subst q
      rw [fn] at hx
      by_cases r : x = n0
      · exact Or.inl ⟨rfl, r⟩
      · refine Or.inr ⟨by omega, e (11 + j) x (by omega) (by omega) (by omega), fun z => ?_⟩
        have := hS j hj x (by omega)
        rw [z] at this
        omega
    · rw [e6 j (by omega) q] at hx
      refine Or.inr ⟨hx, e (11 + j) x (by omega) (by omega) (by omega), fun z => ?_⟩
      have := hS j hj x hx
      rw [z] at this
      omega
  refine ⟨⟨⟨?_, ?_, ?_, ?_⟩, ?_, ?_, ?_, ?_, ?_, ?_⟩, rOK_ok (by omega)⟩
  · unfold bN
    rw [eS, eC]
    exact ⟨hN1, hN2⟩
  · intro r hr
    rw [e 1 r (by omega) (by omega) (by omega), e 2 r (by omega) (by omega) (by omega)]
    exact hP r hr
  · intro j hj
    rw [eS] at hj
    have := hB3 j hj
    unfold bS at this ⊢
    rw [e (6 + j) 0 (by omega) (by omega) (by omega), e (6 + j) 1 (by omega) (by omega) (by omega), e (6 + j) 2 (by omega) (by omega) (by omega), e (6 + j) 3 (by omega) (by omega) (by omega), e (6 + j) 4 (by omega) (by omega) (by omega)]
    by_cases q : j = k
    · subst q
      rw [fn]
      omega
    · rw [e6 j (by omega) q]
      exact this
  · intro y hy
    rw [eC] at hy
    have := hB4 y hy
    unfold bC at this ⊢
    rw [e (16 + y) 0 (by omega) (by omega) (by omega), e (16 + y) 1 (by omega) (by omega) (by omega), e (16 + y) 2 (by omega) (by omega) (by omega), e (16 + y) 3 (by omega) (by omega) (by omega), e (16 + y) 4 (by omega) (by omega) (by omega), e (16 + y) 5 (by omega) (by omega) (by omega)]
    by_cases q : y = c
    · rw [q, fs]
      rw [q] at this
      omega
    · rw [es y q hy.1]
      exact this
  · intro j hj
    rw [eS] at hj
    rw [e (6 + j) 5 (by omega) (by omega) (by omega), e6 j (by omega) (by omega)]
    exact h5 j hj
  · intro y hy
    rw [eC] at hy
    rw [es y (by omega) (by omega)]
    exact h6 y hy
  · intro j hj x hx
    rw [eS] at hj
    rw [eC]
    rcases old j x hj hx with ⟨rfl, rfl⟩ | ⟨a, b, _⟩
    · rw [fx]; exact hc
    · rw [b]; exact hF j hj x a
  · intro j hj x hx
    rw [eS] at hj
    rcases old j x hj hx with ⟨rfl, rfl⟩ | ⟨a, b, c9⟩
    · rw [fx, fs]
    · have hf := hF j hj x a
      rw [b, es _ c9 hf.1]
      exact hS j hj x a
  · intro j j' x x' hj hj' hx hx' he
    rw [eS] at hj hj'
    rcases old j x hj hx with ⟨a1, a2⟩ | ⟨a, b, c9⟩ <;> rcases old j' x' hj' hx' with ⟨b1, b2⟩ | ⟨a', b', c9'⟩
    · omega
    · rw [a1, a2, fx, b'] at he
      exact absurd he.symm c9'
    · rw [b1, b2, fx, b] at he
      exact absurd he c9
    · rw [b, b'] at he
      exact hI j j' x x' hj hj' a a' he
  · intro j hj n hn
    rw [eS] at hj
    have al : zAlike d d' j (sNum d j) := ⟨fun i => e 1 i (by omega) (by omega) (by omega), fun i => e 2 i (by omega) (by omega) (by omega), fun i hi => e (6 + j) i (by omega) (by omega) (by omega), fun m hm9 => e (11 + j) m (by
      by_cases q : j = k
      · subst q; right; unfold sNum at hm9; omega
      · left; omega) (by omega) (by omega), fun m hm i hi => by
      have hf := hF j hj m (by unfold sNum at hm; omega)
      exact e _ i (by omega) (by omega) (by omega)⟩
    by_cases hn3 : n < sNum d j
    · rw [sMarg_al al hn3]
      exact hL j hj n hn3
    · have hjk : j = k := by
        by_cases q : j = k
        · exact q
        · exfalso
          unfold sNum at hn hn3
          rw [e6 j (by omega) q] at hn
          omega
      subst hjk
      have hnn : n = sNum d j := by unfold sNum at hn hn3 ⊢; rw [fn] at hn; omega
      have hnI : (n : Int) = n0 := by unfold sNum at hnn; omega
      rw [sPos_al al n (by omega), hnI, fx, hnn]
      have := (sStp_cg (d := d) (d' := d') (c := c) (p := (sEnd d j).1) (t := (sEnd d j).2.1) al.1 al.2.1 al.2.2.1 (fun i hi => e (16 + c) i (by omega) (by omega) (by omega))).2.2
      show 0 ≤ sMarg d' j c (sEnd d j).1 (sEnd d j).2.1
      rw [this]
      exact hm
/-! dropping -/
theorem inv_drop {d D1 d4 : zM} {k T st : Int} (H : zInv d) (hk : 0 ≤ k ∧ k < d 0 4) (hD1 : bD D1) (hT : 0 ≤ T ∧ T ≤ d (6 + k) 6) (hst : 0 ≤ st ∧ st ≤ 2)
    (e1 : ∀ o i, (o ≠ 6 + k ∨ i < 3 ∨ 5 < i) → (o ≠ 0 ∨ i < 6) → D1 o i = d o i)
    (e4 : ∀ o i, o < 16 → (o ≠ 6 + k ∨ (i ≠ 5 ∧ i ≠ 6)) → (o ≠ 0 ∨ i < 6) → d4 o i = D1 o i)
    (e6 : d4 (6 + k) 6 = T) (ec : ∀ c i, 0 ≤ c → i ≠ 6 → d4 (16 + c) i = d (16 + c) i)
    (es : ∀ c, 0 ≤ c → d4 (16 + c) 6 = d (16 + c) 6 ∨ d4 (16 + c) 6 = st)
    (ek : ∀ c, 0 ≤ c → (∀ j, T ≤ j ∧ j < d (6 + k) 6 → d (11 + k) j ≠ c) → d4 (16 + c) 6 = d (16 + c) 6)
    (hm : ∀ n : Nat, (n : Int) < T → 0 ≤ sMarg D1 k (D1 (11 + k) (n : Int)) (sPos D1 k n).1 (sPos D1 k n).2.1) : zInv d4 := by
  obtain ⟨hB, h5, h6, hF, hS, hI, hL⟩ := H
  obtain ⟨hN, hP, hB3, hB4⟩ := hB
  obtain ⟨hN1, hN2⟩ := hN
  obtain ⟨gN, gP, gS, gC⟩ := hD1
  have eS : d4 0 4 = d 0 4 := (e4 0 4 (by omega) (by omega) (by omega)).trans (e1 0 4 (by omega) (by omega))
  have eC : d4 0 5 = d 0 5 := (e4 0 5 (by omega) (by omega) (by omega)).trans (e1 0 5 (by omega) (by omega))
  have eS1 : D1 0 4 = d 0 4 := e1 0 4 (by omega) (by omega)
  have eC1 : D1 0 5 = d 0 5 := e1 0 5 (by omega) (by omega)
  have en : ∀ j, 0 ≤ j ∧ j < 5 → j ≠ k → d4 (6 + j) 6 = d (6 + j) 6 := fun j hj q => (e4 (6 + j) 6 (by omega) (by omega) (by omega)).trans (e1 (6 + j) 6 (by omega) (by omega))
  have ex : ∀ j x, 0 ≤ j ∧ j < 5 → d4 (11 + j) x = d (11 + j) x := fun j x hj => (e4 (11 + j) x (by omega) (by omega) (by omega)).trans (e1 (11 + j) x (by omega) (by omega))
  have old : ∀ j x, 0 ≤ j ∧ j < d 0 4 → 0 ≤ x ∧ x < d4 (6 + j) 6 → (0 ≤ x ∧ x < d (6 + j) 6) ∧ (j ≠ k ∨ x < T) := by
    intro j x hj hx
    by_cases q : j = k
    · rw [q, e6] at hx; rw [q]; omega
    · rw [en j (by omega) q] at hx; omega
  refine ⟨⟨?_, ?_, ?_, ?_⟩, ?_, ?_, ?_, ?_, ?_, ?_⟩
  · unfold bN
    rw [eS, eC]
    exact ⟨hN1, hN2⟩
  · intro r hr
    rw [e4 1 r (by omega) (by omega) (by omega), e4 2 r (by omega) (by omega) (by omega)]
    exact gP r hr
  · intro j hj
    rw [eS] at hj
    have := gS j (by omega)
    unfold bS at this ⊢
    rw [e4 (6 + j) 0 (by omega) (by omega) (by omega), e4 (6 + j) 1 (by omega) (by omega) (by omega), e4 (6 + j) 2 (by omega) (by omega) (by omega), e4 (6 + j) 3 (by omega) (by omega) (by omega), e4 (6 + j) 4 (by omega) (by omega) (by omega)]
    have h9 := (hB3 j hj).2.2.2.2.2
    by_cases q : j = k
    · subst q
      rw [e6]
      omega
    · rw [en j (by omega) q]
      omega
  · intro c hc
    rw [eC] at hc
    have := hB4 c hc
    unfold bC at this ⊢
    rw [ec c 0 hc.1 (by omega), ec c 1 hc.1 (by omega), ec c 2 hc.1 (by omega), ec c 3 hc.1 (by omega), ec c 4 hc.1 (by omega), ec c 5 hc.1 (by omega)]
    rcases es c hc.1 with q | q <;> rw [q] <;> omega
  · intro j hj
    rw [eS] at hj
    rw [e4 (6 + j) 5 (by omega) (by omega) (by omega), e1 (6 + j) 5 (by omega) (by omega), en j (by omega) (by omega)]
    exact h5 j hj
  · intro c hc
    rw [eC] at hc
    rw [ek c (by omega) (fun j hj z => by
      have := hF k hk j (by omega)
      omega)]
    exact h6 c hc
  · intro j hj x hx
    rw [eS] at hj
    rw [eC, ex j x (by omega)]
    exact hF j hj x (old j x hj hx).1
  · intro j hj x hx
    rw [eS] at hj
    obtain ⟨a, b⟩ := old j x hj hx
    have hf := hF j hj x a
    rw [ex j x (by omega), ek _ hf.1 (fun y hy z => by
      have := hI k j y x hk hj (by omega) a z
      omega)]
    exact hS j hj x a
  · intro j j' x x' hj hj' hx hx' he
    rw [eS] at hj hj'
    rw [ex j x (by omega), ex j' x' (by omega)] at he
    exact hI j j' x x' hj hj' (old j x hj hx).1 (old j' x' hj' hx').1 he
  · intro j hj n hn
    rw [eS] at hj
    have hn2 : (n : Int) < d4 (6 + j) 6 := by unfold sNum at hn; omega
    obtain ⟨a, b⟩ := old j n hj ⟨by omega, hn2⟩
    by_cases q : j = k
    · subst q
      have al : zAlike D1 d4 j (n + 1) := ⟨fun i => e4 1 i (by omega) (by omega) (by omega), fun i => e4 2 i (by omega) (by omega) (by omega), fun i hi => e4 (6 + j) i (by omega) (by omega) (by omega), fun m hm => e4 (11 + j) m (by omega) (by omega) (by omega), fun m hm i hi => by
        have hf := hF j hj m (by omega)
        rw [e1 (11 + j) m (by omega) (by omega), ec _ i hf.1 (by omega), e1 _ i (by omega) (by omega)]⟩
      rw [sMarg_al al (by omega)]
      exact hm n (by omega)
    · have al : zAlike d d4 j (sNum d j) := ⟨fun i => (e4 1 i (by omega) (by omega) (by omega)).trans (e1 1 i (by omega) (by omega)), fun i => (e4 2 i (by omega) (by omega) (by omega)).trans (e1 2 i (by omega) (by omega)), fun i hi => (e4 (6 + j) i (by omega) (by omega) (by omega)).trans (e1 (6 + j) i (by omega) (by omega)), fun m hm => ex j m (by omega), fun m hm i hi => ec _ i (hF j hj m (by unfold sNum at hm; omega)).1 (by omega)⟩
      have hn3 : n < sNum d j := by unfold sNum; omega
      rw [sMarg_al al hn3]
      exact hL j hj n hn3
theorem sDrop_n {k st o i : Int} (hk : 0 ≤ k ∧ k < 5) : ∀ (r : Nat) (x : Int) (d : zM), (∀ j : Int, x ≤ j ∧ j < x + (r : Int) → 0 ≤ d (11 + k) j ∧ (i ≠ 6 ∨ o ≠ 16 + d (11 + k) j)) → sDrop k st r x d o i = d o i := by
  intro r
  induction r with
  | zero => intro x d _; rfl
  | succ r ih =>
    intro x d h
    have h0 := h x (by omega)
    show sDrop k st r (x + 1) (zup d (16 + d (11 + k) x) 6 st) o i = d o i
    rw [ih (x + 1) _ (fun j hj => by
      have := h j (by omega)
      rw [zup_n (by omega)]
      exact this), zup_n (by omega)]
theorem sDrop_m {k st o : Int} (hk : 0 ≤ k ∧ k < 5) : ∀ (r : Nat) (x : Int) (d : zM), (∀ j : Int, x ≤ j ∧ j < x + (r : Int) → 0 ≤ d (11 + k) j) → sDrop k st r x d o 6 = d o 6 ∨ sDrop k st r x d o 6 = st := by
  intro r
  induction r with
  | zero => intro x d _; exact Or.inl rfl
  | succ r ih =>
    intro x d h
    have h0 := h x (by omega)
    have := ih (x + 1) (zup d (16 + d (11 + k) x) 6 st) (fun j hj => by
      rw [zup_n (by omega)]
      exact h j (by omega))
    show sDrop k st r (x + 1) (zup d (16 + d (11 + k) x) 6 st) o 6 = d o 6 ∨ sDrop k st r (x + 1) (zup d (16 + d (11 + k) x) 6 st) o 6 = st
    rcases this with q | q
    · by_cases z : o = 16 + d (11 + k) x
      · right; rw [q, z, zup_s]
      · left; rw [q, zup_n (by omega)]
    · exact Or.inr q
theorem sTime_ok {d : zM} {k : Int} : ∀ (r n m : Nat), n ≤ m ∧ m < sTime d k r n → 0 ≤ sMarg d k (d (11 + k) (m : Int)) (sPos d k m).1 (sPos d k m).2.1 := by
  intro r
  induction r with
  | zero => intro n m h; exact absurd h.2 (by show ¬ m < n; omega)
  | succ r ih =>
    intro n m h
    by_cases q : sMarg d k (d (11 + k) (n : Int)) (sPos d k n).1 (sPos d k n).2.1 < 0
    · rw [sTime_p q] at h; omega
    · rw [sTime_n q] at h
      by_cases z : m = n
      · rw [z]; omega
      · exact ih (n + 1) m (by omega)
theorem inv_delay {d : zM} (H : zInv d) (k n : Int) : zInv (opDelay d k n).2 ∧ rOK (opDelay d k n) d := by
  unfold opDelay
  split
  · exact ⟨H, rOK_err (by omega)⟩
  rename_i q1
  split
  · exact ⟨H, rOK_err (by omega)⟩
  rename_i q2
  have hk : 0 ≤ k ∧ k < d 0 4 := by omega
  have hk5 : 0 ≤ k ∧ k < 5 := by have := H.1.1.1; omega
  have hs := (H.1.2.2.1 k hk).2.2.2.2.2
  have hNe := sNum_e (d := d) (k := k) hs.1
  have hT := sInT_b (sLater d k n) k
  rw [sLat_n] at hT
  have hBl := bD_later H.1 hk (n := n) (by omega) (by omega)
  have hF := zInv_F H k hk
  have hm0 := sTime_ok (d := sLater d k n) (k := k) (sNum (sLater d k n) k) 0
  change ∀ m : Nat, 0 ≤ m ∧ m < sInT (sLater d k n) k → _ at hm0
  generalize sInT (sLater d k n) k = T at hT hm0
  generalize hD1 : sLater d k n = D1 at hBl hm0 ⊢
  have e1 : ∀ o i, (o ≠ 6 + k ∨ i ≠ 4) → D1 o i = d o i := fun o i h => by rw [← hD1]; exact zup_n h
  obtain ⟨d4, hd4⟩ : ∃ d4, d4 = zup (zup (sDrop k 2 (sNum d k - T) (T : Int) D1) (6 + k) 6 (T : Int)) 0 6 (d 0 6 + (d (6 + k) 6 - (T : Int))) := ⟨_, rfl⟩
  rw [← hd4]
  show zInv d4 ∧ rOK (_, d4) d
  have hx : ∀ j : Int, (T : Int) ≤ j ∧ j < (T : Int) + ((sNum d k - T : Nat) : Int) → 0 ≤ D1 (11 + k) j := fun j hj => by
    rw [e1 (11 + k) j (by omega)]
    exact (hF j (by omega)).1
  refine ⟨inv_drop (D1 := D1) (T := (T : Int)) (st := 2) H hk hBl (by omega) (by omega) (fun o i a b => e1 o i (by omega)) ?_ ?_ ?_ ?_ ?_ (fun m hm => hm0 m (by omega)), rOK_ok (by omega)⟩
  · intro o i ho a b
    rw [hd4, zup_n (by omega), zup_n (by omega)]
    exact sDrop_n hk5 _ _ _ (fun j hj => ⟨hx j hj, Or.inr (by have := hx j hj; omega)⟩)
  · rw [hd4, zup_n (by omega), zup_s]
  · intro c i hc hi
    rw [hd4, zup_n (by omega), zup_n (by omega), sDrop_n hk5 _ _ _ (fun j hj => ⟨hx j hj, Or.inl hi⟩)]
    exact e1 _ i (by omega)
  · intro c hc
    rw [hd4, zup_n (by omega), zup_n (by omega), ← e1 (16 + c) 6 (by omega)]
    exact sDrop_m hk5 _ _ _ hx
  · intro c hc hj
    rw [hd4, zup_n (by omega), zup_n (by omega), ← e1 (16 + c) 6 (by omega)]
    refine sDrop_n hk5 _ _ _ (fun j hj2 => ⟨hx j hj2, Or.inr ?_⟩)
    have := hj j (by omega)
    rw [e1 (11 + k) j (by omega)]
    omega
theorem sPay_b {d : zM} {c : Int} (hc : bC d c) : 0 ≤ sPay d c ∧ sPay d c ≤ 10000 := by
  have := worth_b hc
  unfold sPay
  omega
theorem inv_off {d : zM} (H : zInv d) (k : Int) : zInv (opOff d k).2 ∧ rOK (opOff d k) d := by
  unfold opOff
  split
  · exact ⟨H, rOK_err (by omega)⟩
  rename_i q1
  split
  · exact ⟨H, rOK_err (by omega)⟩
  rename_i q2
  have hk : 0 ≤ k ∧ k < d 0 4 := by omega
  have hk5 : 0 ≤ k ∧ k < 5 := by have := H.1.1.1; omega
  have hs := (H.1.2.2.1 k hk).2.2.2.2.2
  have hF := zInv_F H k hk
  have hf := hF (d (6 + k) 6 - 1) (by omega)
  have hp := sPay_b (H.1.2.2.2 _ hf)
  generalize hP : sPay d (d (11 + k) (d (6 + k) 6 - 1)) = P at hp ⊢
  generalize hT : d (6 + k) 6 - 1 = T at hf ⊢
  obtain ⟨d4, hd4⟩ : ∃ d4, d4 = zup (zup (zup (sDrop k 0 1 T d) (6 + k) 6 T) (6 + k) 5 (d (6 + k) 5 - P)) 0 7 (d 0 7 + 1) := ⟨_, rfl⟩
  rw [← hd4]
  show zInv d4 ∧ rOK (_, d4) d
  have hx : ∀ j : Int, T ≤ j ∧ j < T + ((1 : Nat) : Int) → 0 ≤ d (11 + k) j := fun j hj => (hF j (by omega)).1
  refine ⟨inv_drop (D1 := d) (T := T) (st := 0) H hk H.1 (by omega) (by omega) (fun o i a b => rfl) ?_ ?_ ?_ ?_ ?_ (fun m hm => H.2.2.2.2.2.2 k hk m (by unfold sNum; omega)), rOK_ok (by omega)⟩
  · intro o i ho a b
    rw [hd4, zup_n (by omega), zup_n (by omega), zup_n (by omega)]
    exact sDrop_n hk5 _ _ _ (fun j hj => ⟨hx j hj, Or.inr (by have := hx j hj; omega)⟩)
  · rw [hd4, zup_n (by omega), zup_n (by omega), zup_s]
  · intro c i hc hi
    rw [hd4, zup_n (by omega), zup_n (by omega), zup_n (by omega)]
    exact sDrop_n hk5 _ _ _ (fun j hj => ⟨hx j hj, Or.inl hi⟩)
  · intro c hc
    rw [hd4, zup_n (by omega), zup_n (by omega), zup_n (by omega)]
    exact sDrop_m hk5 _ _ _ hx
  · intro c hc hj
    rw [hd4, zup_n (by omega), zup_n (by omega), zup_n (by omega)]
    refine sDrop_n hk5 _ _ _ (fun j hj2 => ⟨hx j hj2, Or.inr ?_⟩)
    have := hj j (by omega)
    omega
/-- what a ship's fixtures earn together is no error -/
theorem sSum_b {d : zM} (H : zInv d) {k : Int} (hk : 0 ≤ k ∧ k < d 0 4) : ∀ n : Nat, n ≤ sNum d k → 0 ≤ (sPos d k n).2.2 + ((sPos d k n).2.1 - d (6 + k) 4) * d (6 + k) 2 ∧ (sPos d k n).2.2 ≤ 9801 * (n : Int) ∧ d (6 + k) 4 ≤ (sPos d k n).2.1 := by
  have hG := zInv_G H k hk
  have hs := H.1.2.2.1 k hk
  intro n
  induction n with
  | zero =>
    intro _
    show 0 ≤ (0 : Int) + (d (6 + k) 4 - d (6 + k) 4) * d (6 + k) 2 ∧ (0 : Int) ≤ _ ∧ d (6 + k) 4 ≤ d (6 + k) 4
    rw [Int.sub_self, Int.zero_mul]
    omega
  | succ n ih =>
    intro hn
    obtain ⟨i1, i2, i3⟩ := ih (by omega)
    have hf := hG.1 n (by omega)
    have hg := hG.2 n (by omega)
    have hc := H.1.2.2.2 _ hf
    have e1 := sArr_b (t := (sPos d k n).2.1) H.1.2.1 hs.2.1 hc hg.1
    have e2 := sLoad_b (t := (sPos d k n).2.1) H.1.2.1 hs.2.1 hc hg.1
    have e3 := sFree_b (t := (sPos d k n).2.1) H.1.2.1 hs.2.1 hc hg.1
    have hw := worth_b hc
    show 0 ≤ (sPos d k n).2.2 + sEarn d k (d (11 + k) (n : Int)) (sPos d k n).1 (sPos d k n).2.1 + (sFree d k (d (11 + k) (n : Int)) (sPos d k n).1 (sPos d k n).2.1 - d (6 + k) 4) * d (6 + k) 2 ∧ (sPos d k n).2.2 + sEarn d k (d (11 + k) (n : Int)) (sPos d k n).1 (sPos d k n).2.1 ≤ _ ∧ d (6 + k) 4 ≤ sFree d k (d (11 + k) (n : Int)) (sPos d k n).1 (sPos d k n).2.1
    unfold sEarn
    generalize sFree d k (d (11 + k) (n : Int)) (sPos d k n).1 (sPos d k n).2.1 = F at e3 ⊢
    generalize (sPos d k n).2.1 = t at i1 i3 e1 e2 e3 ⊢
    generalize (sPos d k n).2.2 = q at i1 i2 ⊢
    have hs2 := hs.2.2.1
    have m0 : 0 ≤ (F - t) * d (6 + k) 2 := Int.mul_nonneg (by omega) (by omega)
    have m1 : (F - d (6 + k) 4) * d (6 + k) 2 = (F - t) * d (6 + k) 2 + (t - d (6 + k) 4) * d (6 + k) 2 := by
      rw [← Int.add_mul]
      congr 1
      omega
    refine ⟨by omega, by omega, by omega⟩
theorem sEnd_b {d : zM} (H : zInv d) {k : Int} (hk : 0 ≤ k ∧ k < d 0 4) : -200000 ≤ (sEnd d k).2.2 ∧ (sEnd d k).2.2 ≤ 100000 := by
  obtain ⟨h1, h2, h3⟩ := sSum_b H hk (sNum d k) (Nat.le_refl _)
  have hs := H.1.2.2.1 k hk
  have hg := (zInv_G H k hk).2 _ (Nat.le_refl _)
  have hs2 := hs.2.2.1
  have hs4 := hs.2.2.2.2.1
  have m : ((sPos d k (sNum d k)).2.1 - d (6 + k) 4) * d (6 + k) 2 ≤ 2000 * 99 := Int.mul_le_mul (by omega) hs.2.2.1.2 (by omega) (by omega)
  have hs6 := hs.2.2.2.2.2
  have hn : (sNum d k : Int) ≤ 10 := by have := sNum_e (d := d) (k := k) hs.2.2.2.2.2.1; omega
  show -200000 ≤ (sPos d k (sNum d k)).2.2 ∧ (sPos d k (sNum d k)).2.2 ≤ 100000
  omega
theorem inv_settle {d : zM} (H : zInv d) (k : Int) : zInv (opSettle d k).2 ∧ rOK (opSettle d k) d := by
  unfold opSettle
  split
  · exact ⟨H, rOK_err (by omega)⟩
  rename_i q1
  split
  · exact ⟨H, rOK_err (by omega)⟩
  rename_i q2
  have hk : 0 ≤ k ∧ k < d 0 4 := by omega
  have hk5 : 0 ≤ k ∧ k < 5 := by have := H.1.1.1; omega
  have hs := (H.1.2.2.1 k hk).2.2.2.2.2
  have hNe := sNum_e (d := d) (k := k) hs.1
  have hF := zInv_F H k hk
  have hE := sEnd_b H hk
  have hpos := sPos_b H.1 hk (sNum d k) (fun m hm => hF m (by omega)) (H.2.2.2.2.2.2 k hk)
  have hp1 : 0 ≤ (sEnd d k).1 ∧ (sEnd d k).1 ≤ 7 := hpos.1
  have hp2 : 0 ≤ (sEnd d k).2.1 ∧ (sEnd d k).2.1 ≤ 1999 := hpos.2
  obtain ⟨D1, hD1⟩ : ∃ D1, D1 = zup (zup (zup d (6 + k) 5 (d (6 + k) 5 + (sEnd d k).2.2)) (6 + k) 3 (sEnd d k).1) (6 + k) 4 (sEnd d k).2.1 := ⟨_, rfl⟩
  rw [← hD1]
  have e1 : ∀ o i, (o ≠ 6 + k ∨ i < 3 ∨ 5 < i) → D1 o i = d o i := fun o i h => by rw [hD1, zup_n (by omega), zup_n (by omega), zup_n (by omega)]
  have g3 : D1 (6 + k) 3 = (sEnd d k).1 := by rw [hD1, zup_n (by omega), zup_s]
  have g4 : D1 (6 + k) 4 = (sEnd d k).2.1 := by rw [hD1, zup_s]
  have hB1 : bD D1 := by
    obtain ⟨hN, hP, hB3, hB4⟩ := H.1
    refine ⟨?_, ?_, ?_, ?_⟩
    · unfold bN
      rw [e1 0 4 (by omega), e1 0 5 (by omega)]
      exact hN
    · intro p hp
      rw [e1 1 p (by omega), e1 2 p (by omega)]
      exact hP p hp
    · intro j hj
      rw [e1 0 4 (by omega)] at hj
      have := hB3 j hj
      unfold bS at this ⊢
      rw [e1 (6 + j) 0 (by omega), e1 (6 + j) 1 (by omega), e1 (6 + j) 2 (by omega), e1 (6 + j) 6 (by omega)]
      by_cases q : j = k
      · subst q
        rw [g3, g4]
        omega
      · rw [e1 (6 + j) 3 (by omega), e1 (6 + j) 4 (by omega)]
        exact this
    · intro c hc
      rw [e1 0 5 (by omega)] at hc
      have := hB4 c hc
      unfold bC at this ⊢
      rw [e1 (16 + c) 0 (by omega), e1 (16 + c) 1 (by omega), e1 (16 + c) 2 (by omega), e1 (16 + c) 3 (by omega), e1 (16 + c) 4 (by omega), e1 (16 + c) 5 (by omega), e1 (16 + c) 6 (by omega)]
      exact this
  obtain ⟨d4, hd4⟩ : ∃ d4, d4 = zup (sDrop k 2 (sNum d k) 0 D1) (6 + k) 6 0 := ⟨_, rfl⟩
  rw [← hd4]
  show zInv d4 ∧ rOK (_, d4) d
  have hx : ∀ j : Int, 0 ≤ j ∧ j < 0 + ((sNum d k : Nat) : Int) → 0 ≤ D1 (11 + k) j := fun j hj => by
    rw [e1 (11 + k) j (by omega)]
    exact (hF j (by omega)).1
  refine ⟨inv_drop (D1 := D1) (T := 0) (st := 2) H hk hB1 (by omega) (by omega) (fun o i a b => e1 o i a) ?_ ?_ ?_ ?_ ?_ (fun m hm => absurd hm (by omega)), rOK_ok (by show 0 ≤ (sEnd d k).2.2 + 1000000 ∧ _; omega)⟩
  · intro o i ho a b
    rw [hd4, zup_n (by omega)]
    exact sDrop_n hk5 _ _ _ (fun j hj => ⟨hx j hj, Or.inr (by have := hx j hj; omega)⟩)
  · rw [hd4, zup_s]
  · intro c i hc hi
    rw [hd4, zup_n (by omega), sDrop_n hk5 _ _ _ (fun j hj => ⟨hx j hj, Or.inl hi⟩)]
    exact e1 _ i (by omega)
  · intro c hc
    rw [hd4, zup_n (by omega), ← e1 (16 + c) 6 (by omega)]
    exact sDrop_m hk5 _ _ _ hx
  · intro c hc hj
    rw [hd4, zup_n (by omega), ← e1 (16 + c) 6 (by omega)]
    refine sDrop_n hk5 _ _ _ (fun j hj2 => ⟨hx j hj2, Or.inr ?_⟩)
    have := hj j (by omega)
    rw [e1 (11 + k) j (by omega)]
    omega
