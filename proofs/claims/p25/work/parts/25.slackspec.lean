/-! SLACK: by how many days a ship may come later -/
def zmx (x : Int) : Int := if x < 0 then 0 else x
theorem zup_zup {d : zM} {o i a b : Int} : zup (zup d o i a) o i b = zup d o i b := by
  funext p q
  by_cases e : p = o ∧ q = i
  · rw [e.1, e.2, zup_s, zup_s]
  · rw [zup_n (by omega), zup_n (by omega), zup_n (by omega)]
theorem sLat_e {d : zM} {k j o i : Int} (h : o ≠ 6 + k ∨ i ≠ 4) : sLater d k j o i = d o i := zup_n h
theorem sLat_n {d : zM} {k j : Int} : sNum (sLater d k j) k = sNum d k := by unfold sNum; rw [sLat_e (by omega)]
theorem sSail_lat {d : zM} {k j p q : Int} (hk : 0 ≤ k) : sSail (sLater d k j) k p q = sSail d k p q := by
  unfold sSail sFar
  rw [sLat_e (by omega), sLat_e (by omega), sLat_e (by omega), sLat_e (by omega), sLat_e (by omega)]
theorem sStp_lat {d : zM} {k j p t e c W : Int} (hk : 0 ≤ k ∧ k < 5) (hc : 0 ≤ c) (he : e = t + zmx (j - W)) :
    sArr (sLater d k j) k c p e = sArr d k c p t + zmx (j - W) ∧ sLoad (sLater d k j) k c p e = sLoad d k c p t + zmx (j - (W + (sLoad d k c p t - sArr d k c p t))) ∧ sFree (sLater d k j) k c p e = sFree d k c p t + zmx (j - (W + (sLoad d k c p t - sArr d k c p t))) := by
  have a1 : sArr (sLater d k j) k c p e = sArr d k c p t + zmx (j - W) := by
    unfold sArr
    rw [sSail_lat hk.1, sLat_e (by omega), he]
    omega
  have a2 : sLoad (sLater d k j) k c p e = sLoad d k c p t + zmx (j - (W + (sLoad d k c p t - sArr d k c p t))) := by
    unfold sLoad
    rw [a1, sLat_e (by omega)]
    unfold zmx
    split <;> split <;> split <;> (try split) <;> omega
  refine ⟨a1, a2, ?_⟩
  unfold sFree
  rw [a2, sSail_lat hk.1, sLat_e (by omega), sLat_e (by omega)]
  omega
theorem sPos_lat {d : zM} {k j : Int} (hk : 0 ≤ k ∧ k < 5) (hj : 0 ≤ j) : ∀ n : Nat, (∀ m : Nat, m < n → 0 ≤ d (11 + k) (m : Int)) → (sPos (sLater d k j) k n).1 = (sPos d k n).1 ∧ (sPos (sLater d k j) k n).2.1 = (sPos d k n).2.1 + zmx (j - sW d k n) := by
  intro n
  induction n with
  | zero =>
    intro _
    refine ⟨sLat_e (by omega), ?_⟩
    show sLater d k j (6 + k) 4 = d (6 + k) 4 + zmx (j - 0)
    have : sLater d k j (6 + k) 4 = d (6 + k) 4 + j := zup_s
    unfold zmx
    rw [if_neg (by omega)]
    omega
  | succ n ih =>
    intro h
    obtain ⟨i1, i2⟩ := ih (fun m hm => h m (by omega))
    have hc := h n (by omega)
    have e11 : sLater d k j (11 + k) (n : Int) = d (11 + k) (n : Int) := sLat_e (by omega)
    have st := sStp_lat (d := d) (j := j) (p := (sPos d k n).1) hk hc i2
    constructor
    · show sLater d k j (16 + sLater d k j (11 + k) (n : Int)) 2 = d (16 + d (11 + k) (n : Int)) 2
      rw [e11, sLat_e (by omega)]
    · show sFree (sLater d k j) k (sLater d k j (11 + k) (n : Int)) (sPos (sLater d k j) k n).1 (sPos (sLater d k j) k n).2.1 = sFree d k (d (11 + k) (n : Int)) (sPos d k n).1 (sPos d k n).2.1 + zmx (j - sW d k (n + 1))
      rw [e11, i1]
      exact st.2.2
theorem sMarg_lat {d : zM} {k j : Int} (hk : 0 ≤ k ∧ k < 5) (hj : 0 ≤ j) (n : Nat) (h : ∀ m : Nat, m ≤ n → 0 ≤ d (11 + k) (m : Int)) : sMarg (sLater d k j) k (sLater d k j (11 + k) (n : Int)) (sPos (sLater d k j) k n).1 (sPos (sLater d k j) k n).2.1 = sMarg d k (d (11 + k) (n : Int)) (sPos d k n).1 (sPos d k n).2.1 - zmx (j - sW d k n) := by
  obtain ⟨i1, i2⟩ := sPos_lat hk hj n (fun m hm => h m (by omega))
  have hc := h n (by omega)
  have e11 : sLater d k j (11 + k) (n : Int) = d (11 + k) (n : Int) := sLat_e (by omega)
  have st := sStp_lat (d := d) (j := j) (p := (sPos d k n).1) hk hc i2
  unfold sMarg
  rw [e11, i1, st.1, sLat_e (by omega)]
  omega
theorem sTime_iff {d : zM} {k : Int} : ∀ (r n : Nat), sTime d k r n = n + r ↔ ∀ m : Nat, n ≤ m ∧ m < n + r → 0 ≤ sMarg d k (d (11 + k) (m : Int)) (sPos d k m).1 (sPos d k m).2.1 := by
  intro r n
  constructor
  · induction r generalizing n with
    | zero => intro _ m hm; exact absurd hm (by omega)
    | succ r ih =>
      intro h m hm
      by_cases q : sMarg d k (d (11 + k) (n : Int)) (sPos d k n).1 (sPos d k n).2.1 < 0
      · rw [sTime_p q] at h; exact absurd h (by omega)
      · rw [sTime_n q] at h
        by_cases e : m = n
        · rw [e]; omega
        · exact ih (n + 1) (by omega) m (by omega)
  · exact sTime_all r n
theorem sL_iff {d : zM} {k j : Int} : ∀ n : Nat, j ≤ sL d k (n + 1) ↔ ∀ m : Nat, m ≤ n → j ≤ sMarg d k (d (11 + k) (m : Int)) (sPos d k m).1 (sPos d k m).2.1 + sW d k m := by
  intro n
  induction n with
  | zero =>
    rw [← sL_f (d := d) (k := k) (n := 0) rfl]
    exact ⟨fun h m hm => (by have e : m = 0 := (by omega); rw [e]; exact h), fun h => h 0 (Nat.le_refl _)⟩
  | succ n ih =>
    rw [← sL_s (d := d) (k := k) (n := n + 1) (by omega)]
    constructor
    · intro h m hm
      by_cases e : m = n + 1
      · rw [e]
        split at h <;> omega
      · refine ih.mp ?_ m (by omega)
        split at h <;> omega
    · intro h
      have a := ih.mpr (fun m hm => h m (by omega))
      have b := h (n + 1) (Nat.le_refl _)
      split <;> omega
theorem sSlk {d : zM} {k j : Int} (H : zInv d) (hk : 0 ≤ k ∧ k < d 0 4) (hN : 0 < sNum d k) (hj : 0 ≤ j) : sInT (sLater d k j) k = sNum d k ↔ j ≤ sL d k (sNum d k) := by
  have hk5 : 0 ≤ k ∧ k < 5 := by have := H.1.1.1; omega
  have hF := fOk_of H hk
  have hL := late_of H hk
  obtain ⟨N, hNe⟩ : ∃ N, sNum d k = N + 1 := ⟨sNum d k - 1, by omega⟩
  unfold sInT
  rw [sLat_n, hNe, sL_iff]
  have t := sTime_iff (d := sLater d k j) (k := k) (N + 1) 0
  rw [Nat.zero_add] at t
  rw [t]
  constructor
  · intro h m hm
    have h1 := h m (by omega)
    have h2 := hL m (by omega)
    rw [sMarg_lat hk5 hj m (fun x hx => (hF x (by omega)).1)] at h1
    unfold zmx at h1
    split at h1 <;> omega
  · intro h m hm
    have h1 := h m (by omega)
    have h2 := hL m (by omega)
    rw [sMarg_lat hk5 hj m (fun x hx => (hF x (by omega)).1)]
    unfold zmx
    split <;> omega
/-- the day that a ship may still begin on -/
theorem sSlk_b {d : zM} {k j : Int} (H : zInv d) (hk : 0 ≤ k ∧ k < d 0 4) (hN : 0 < sNum d k) (hj : j ≤ sL d k (sNum d k)) : d (6 + k) 4 + j ≤ 999 := by
  obtain ⟨N, hNe⟩ : ∃ N, sNum d k = N + 1 := ⟨sNum d k - 1, by omega⟩
  have hF := fOk_of H hk
  rw [hNe] at hj
  have h0 := (sL_iff N).mp hj 0 (by omega)
  obtain ⟨hN0, hP, hB3, hB4⟩ := id H.1
  obtain ⟨hs0, hs1, hs2, hs3, hs4, hs6⟩ := hB3 k hk
  have hc := hB4 _ (hF 0 (by omega))
  have hp : 0 ≤ (sPos d k 0).1 ∧ (sPos d k 0).1 ≤ 7 := hs3
  have ha := sArr_b (t := (sPos d k 0).2.1) hP hs1 hc hp
  have e : (sPos d k 0).2.1 = d (6 + k) 4 := rfl
  have ew : sW d k 0 = 0 := rfl
  have h4 := hc.2.2.2.2.1
  unfold sMarg at h0
  omega
theorem sL_0 {d : zM} {k : Int} (H : zInv d) (hk : 0 ≤ k ∧ k < d 0 4) (hN : 0 < sNum d k) : 0 ≤ sL d k (sNum d k) := by
  obtain ⟨N, hNe⟩ : ∃ N, sNum d k = N + 1 := ⟨sNum d k - 1, by omega⟩
  rw [hNe]
  refine (sL_iff N).mpr (fun m hm => ?_)
  have h1 := late_of H hk m (by omega)
  have h2 := (sWL_b H.1 hk (zInv_G H k hk) m (by omega)).1
  omega
