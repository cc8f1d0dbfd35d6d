/-! PURE FACTS -/
/-- a ship's fixtures are cargoes -/
def fOk (d : zM) (k : Int) (N : Nat) : Prop := ∀ n : Nat, n < N → 0 ≤ d (11 + k) (n : Int) ∧ d (11 + k) (n : Int) < d 0 5
/-- if no fixture is too late all are gone through -/
theorem sTime_all {d : zM} {k : Int} : ∀ (r n : Nat), (∀ m : Nat, n ≤ m ∧ m < n + r → 0 ≤ sMarg d k (d (11 + k) (m : Int)) (sPos d k m).1 (sPos d k m).2.1) → sTime d k r n = n + r := by
  intro r
  induction r with
  | zero => intro n _; rfl
  | succ r ih =>
    intro n h
    have := h n (by omega)
    rw [sTime_n (by omega), ih (n + 1) (fun m hm => h m (by omega))]
    omega
theorem fOk_of {d : zM} (H : zInv d) {k : Int} (hk : 0 ≤ k ∧ k < d 0 4) : fOk d k (sNum d k) := (zInv_G H k hk).1
theorem late_of {d : zM} (H : zInv d) {k : Int} (hk : 0 ≤ k ∧ k < d 0 4) : ∀ n : Nat, n < sNum d k → 0 ≤ sMarg d k (d (11 + k) (n : Int)) (sPos d k n).1 (sPos d k n).2.1 := H.2.2.2.2.2.2 k hk
/-- the days of a voyage, and what it earns -/
theorem sVoy_b {d : zM} {k c : Int} (H : zInv d) (hk : 0 ≤ k ∧ k < d 0 4) (hc : 0 ≤ c ∧ c < d 0 5) : (-300000 ≤ sEarn d k c (sEnd d k).1 (sEnd d k).2.1 ∧ sEarn d k c (sEnd d k).1 (sEnd d k).2.1 ≤ 300000) ∧ (4 ≤ sFree d k c (sEnd d k).1 (sEnd d k).2.1 - (sEnd d k).2.1 ∧ sFree d k c (sEnd d k).1 (sEnd d k).2.1 - (sEnd d k).2.1 ≤ 2300) := by
  have h1 := sEa_b H.1 hk hc (zInv_G H k hk)
  unfold sEa at h1
  have hg := (zInv_G H k hk).2 _ (Nat.le_refl _)
  have hs := H.1.2.2.1 k hk
  have hcc := H.1.2.2.2 c hc
  have e1 := sArr_b (t := (sEnd d k).2.1) H.1.2.1 hs.2.1 hcc hg.1
  have e2 := sLoad_b (t := (sEnd d k).2.1) H.1.2.1 hs.2.1 hcc hg.1
  have e3 := sFree_b (t := (sEnd d k).2.1) H.1.2.1 hs.2.1 hcc hg.1
  have h2 : 0 ≤ (sEnd d k).2.1 ∧ (sEnd d k).2.1 ≤ 2000 := hg.2
  change _ ≤ sArr d k c (sEnd d k).1 _ ∧ sArr d k c (sEnd d k).1 _ ≤ _ at e1
  change sArr d k c (sEnd d k).1 _ ≤ sLoad d k c (sEnd d k).1 _ ∧ (sLoad d k c (sEnd d k).1 _ ≤ 999 ∨ sLoad d k c (sEnd d k).1 _ = sArr d k c (sEnd d k).1 _) at e2
  change sLoad d k c (sEnd d k).1 _ + 4 ≤ sFree d k c (sEnd d k).1 _ ∧ sFree d k c (sEnd d k).1 _ ≤ sLoad d k c (sEnd d k).1 _ + 87 at e3
  constructor
  · omega
  · omega

