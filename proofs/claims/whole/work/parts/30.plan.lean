def qFault (d : zM) (L : Int) (t : Int → Int) (w : Int) : Int := if ¬ (0 ≤ w ∧ w ≤ 2) then -1000001 else if (sTry L t L.toNat 0 d 0).1 = 1 then -1000004 else if w = 0 then (sTry L t L.toNat 0 d 0).2.2.2.1 else if w = 1 then (sTry L t L.toNat 0 d 0).2.2.2.2.1 else (sTry L t L.toNat 0 d 0).2.2.2.2.2
def opPlay (d : zM) (L : Int) (t : Int → Int) : Int × zM := if (sTry L t L.toNat 0 d 0).1 = 1 then ((sTry L t L.toNat 0 d 0).2.2.1, (sTry L t L.toNat 0 d 0).2.1) else (-1000002, d)
/-- Long.bitCount, as it reckons -/
def jB1 (x : Int64) : Int64 := x - ((x.toUInt64 >>> ((iZ 1).toInt64.toUInt64 &&& Int64.toUInt64 63)).toInt64 &&& (6148914691236517205 : Int64))
def jB2 (x : Int64) : Int64 := (x &&& (3689348814741910323 : Int64)) + ((x.toUInt64 >>> ((iZ 2).toInt64.toUInt64 &&& Int64.toUInt64 63)).toInt64 &&& (3689348814741910323 : Int64))
def jB3 (x : Int64) : Int64 := (x + (x.toUInt64 >>> ((iZ 4).toInt64.toUInt64 &&& Int64.toUInt64 63)).toInt64) &&& (1085102592571150095 : Int64)
def jB4 (k : Int) (x : Int64) : Int64 := x + (x.toUInt64 >>> ((iZ k).toInt64.toUInt64 &&& Int64.toUInt64 63)).toInt64
def jBits (x : Int64) : Int32 := (jB4 32 (jB4 16 (jB4 8 (jB3 (jB2 (jB1 x)))))).toInt32 &&& (iZ 127)
/-- the best pair of all; what is left of an earlier choice doesn't count -/
def sBest (d : zM) : sQ := sAll d 0 0 (d 0 5).toNat (d 0 4).toNat (0, 0, 0, 0)
def sLike (q q' : sQ) : Prop := q = q' ∨ (q.1 = 0 ∧ q'.1 = 0)
theorem sStep_l {d : zM} {k c : Int} {q q' : sQ} (h : sLike q q') : sLike (sStep d k c q) (sStep d k c q') := by
  rcases h with h | ⟨h1, h2⟩
  · rw [h]; exact Or.inl rfl
  · by_cases z : d (16 + c) 6 = 0 ∧ sCould d k c = 0
    · rw [sStep_p ⟨z.1, z.2, Or.inl h1⟩, sStep_p ⟨z.1, z.2, Or.inl h2⟩]; exact Or.inl rfl
    · rw [sStep_n (fun q => z ⟨q.1, q.2.1⟩), sStep_n (fun q => z ⟨q.1, q.2.1⟩)]; exact Or.inr ⟨h1, h2⟩
theorem sRow_l {d : zM} {k c : Int} {q q' : sQ} (h : sLike q q') : ∀ n, sLike (sRow d k c n q) (sRow d k c n q') := by
  intro n
  induction n with
  | zero => exact h
  | succ n ih => exact sStep_l ih
theorem sAll_l {d : zM} {k c : Int} {m : Nat} {q q' : sQ} (h : sLike q q') : ∀ n, sLike (sAll d k c m n q) (sAll d k c m n q') := by
  intro n
  induction n with
  | zero => exact h
  | succ n ih => exact sRow_l ih m
theorem sBest_l (d : zM) (a b c : Int) : (sAll d 0 0 (d 0 5).toNat (d 0 4).toNat (0, a, b, c)).1 = (sBest d).1 ∧ ((sBest d).1 = 1 → sAll d 0 0 (d 0 5).toNat (d 0 4).toNat (0, a, b, c) = sBest d) := by
  have := sAll_l (d := d) (k := 0) (c := 0) (m := (d 0 5).toNat) (q := (0, a, b, c)) (q' := (0, 0, 0, 0)) (Or.inr ⟨rfl, rfl⟩) (d 0 4).toNat
  rcases this with h | ⟨h1, h2⟩
  · exact ⟨by rw [h]; rfl, fun _ => h⟩
  · exact ⟨by rw [h1]; exact h2.symm, fun z => absurd (h2.symm.trans z) (by decide)⟩
/-- a chosen pair is one of an open cargo that could be fixed -/
theorem sRow_c {d : zM} {k c : Int} {q : sQ} {K : Int} (hk : 0 ≤ k ∧ k < K) (hc : 0 ≤ c) (h : q.1 = 1 → (0 ≤ q.2.1 ∧ q.2.1 < K) ∧ (0 ≤ q.2.2.1 ∧ q.2.2.1 < d 0 5) ∧ d (16 + q.2.2.1) 6 = 0 ∧ sCould d q.2.1 q.2.2.1 = 0 ∧ q.2.2.2 = sEa d q.2.1 q.2.2.1) : ∀ n : Nat, c + (n : Int) ≤ d 0 5 → ((sRow d k c n q).1 = 1 → (0 ≤ (sRow d k c n q).2.1 ∧ (sRow d k c n q).2.1 < K) ∧ (0 ≤ (sRow d k c n q).2.2.1 ∧ (sRow d k c n q).2.2.1 < d 0 5) ∧ d (16 + (sRow d k c n q).2.2.1) 6 = 0 ∧ sCould d (sRow d k c n q).2.1 (sRow d k c n q).2.2.1 = 0 ∧ (sRow d k c n q).2.2.2 = sEa d (sRow d k c n q).2.1 (sRow d k c n q).2.2.1) := by
  intro n
  induction n with
  | zero => intro _; exact h
  | succ n ih =>
    intro hn
    have i1 := ih (by omega)
    by_cases z : d (16 + (c + (n : Int))) 6 = 0 ∧ sCould d k (c + (n : Int)) = 0 ∧ ((sRow d k c n q).1 = 0 ∨ (sRow d k c n q).2.2.2 < sEa d k (c + (n : Int)))
    · have e : sRow d k c (n + 1) q = (1, k, c + (n : Int), sEa d k (c + (n : Int))) := sStep_p z
      rw [e]
      exact fun _ => ⟨hk, ⟨by show 0 ≤ c + (n : Int); omega, by show c + (n : Int) < _; omega⟩, z.1, z.2.1, rfl⟩
    · have e : sRow d k c (n + 1) q = sRow d k c n q := sStep_n z
      rw [e]
      exact i1
theorem sAll_c {d : zM} {c : Int} {m : Nat} {q : sQ} {K : Int} (hc : 0 ≤ c) (hm : c + (m : Int) ≤ d 0 5) (h : q.1 = 0) (k : Int) (hk : 0 ≤ k) : ∀ n : Nat, k + (n : Int) ≤ K → ((sAll d k c m n q).1 = 1 → (0 ≤ (sAll d k c m n q).2.1 ∧ (sAll d k c m n q).2.1 < K) ∧ (0 ≤ (sAll d k c m n q).2.2.1 ∧ (sAll d k c m n q).2.2.1 < d 0 5) ∧ d (16 + (sAll d k c m n q).2.2.1) 6 = 0 ∧ sCould d (sAll d k c m n q).2.1 (sAll d k c m n q).2.2.1 = 0 ∧ (sAll d k c m n q).2.2.2 = sEa d (sAll d k c m n q).2.1 (sAll d k c m n q).2.2.1) := by
  intro n
  induction n with
  | zero => intro _ z; exact absurd (h.symm.trans z) (by decide)
  | succ n ih =>
    intro hn
    exact sRow_c (k := k + (n : Int)) (by omega) hc (ih (by omega)) m hm
theorem sBest_c {d : zM} (hN : bN d) (h : (sBest d).1 = 1) : (0 ≤ (sBest d).2.1 ∧ (sBest d).2.1 < d 0 4) ∧ (0 ≤ (sBest d).2.2.1 ∧ (sBest d).2.2.1 < d 0 5) ∧ d (16 + (sBest d).2.2.1) 6 = 0 ∧ sCould d (sBest d).2.1 (sBest d).2.2.1 = 0 ∧ (sBest d).2.2.2 = sEa d (sBest d).2.1 (sBest d).2.2.1 := by
  obtain ⟨h1, h2⟩ := hN
  exact sAll_c (K := d 0 4) (Int.le_refl _) (by omega) rfl 0 (Int.le_refl _) (d 0 4).toNat (by omega) h
/-- the plan: the best fixture again and again, r times at most -/
def sPlan : Nat → zM → Int → Int → Int64 → zM × Int × Int × Int64
  | 0, d, m, a, p => (d, m, a, p)
  | r + 1, d, m, a, p => if (sBest d).1 = 1 ∧ 0 < (sBest d).2.2.2 then sPlan r (opFix d (sBest d).2.1 (sBest d).2.2.1).2 (m + 1) (a + (sBest d).2.2.2) (p ||| sPair d (sBest d).2.2.1) else (d, m, a, p)
def qPlan (d : zM) (w : Int) : Int32 := if ¬ (0 ≤ w ∧ w ≤ 3) then iZ (-1000001) else if w = 0 then iZ (sPlan 10 d 0 0 0).2.1 else if w = 1 then iZ (sPlan 10 d 0 0 0).2.2.1 else if w = 2 then sOpen (sPlan 10 d 0 0 0).1 ((sPlan 10 d 0 0 0).1 0 5).toNat else jBits (sPlan 10 d 0 0 0).2.2.2
theorem zOb_fix (hOb : zObOK) {d : zM} {k c : Int} (H : zInv d) (hk : 0 ≤ k ∧ k ≤ 999) (hc : 0 ≤ c ∧ c ≤ 999) : zInv (opFix d k c).2 := by
  have := (hOb d 102 (fun j => if j = 0 then k else c) H (fun j hj => by
    show 0 ≤ (if j = 0 then k else c) ∧ (if j = 0 then k else c) ≤ 999
    split <;> omega)).2
  exact this
