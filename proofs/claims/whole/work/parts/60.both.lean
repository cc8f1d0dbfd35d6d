/-! WHAT HOLDS BETWEEN TWO CALLS: both sides stand in one state -/
theorem ob_inv {d : zM} (H : zInv d) (c : Int) (f : Int → Int) : zInv (sObey d c f).2 ∧ rOK (sObey d c f) d := by
  unfold sObey
  split
  · exact inv_cargo H _ _ _ _ _ _
  · split
    · exact inv_delay H _ _
    · split
      · exact inv_fix H _ _
      · split
        · exact inv_ship H _ _ _ _ _
        · exact ⟨H, rOK_err (by omega)⟩
theorem zOb : zObOK := fun d c f H _ => ⟨(ob_inv H c f).2.1, (ob_inv H c f).1⟩
theorem zObL : zObLow := fun d c f H _ => (ob_inv H c f).2.2.1
theorem sTry_inv {L : Int} {t : Int → Int} : ∀ (r : Nat) (st : Int) (d : zM) (m : Int), zInv d → 0 ≤ m → (0 ≤ (sTry L t r st d m).2.2.1 ∧ (sTry L t r st d m).2.2.1 ≤ m + (r : Int)) ∧ zInv (sTry L t r st d m).2.1 := by
  intro r
  induction r with
  | zero => intro st d m H hm; exact ⟨⟨hm, by show m ≤ m + ((0 : Nat) : Int); omega⟩, H⟩
  | succ r ih =>
    intro st d m H hm
    unfold sTry
    split
    · split
      · split
        · exact ⟨⟨hm, by show m ≤ _; omega⟩, H⟩
        · have := ih (sOrder L t st (fun _ => 0)).2.1 (sObey d (cAt L t st) (sOrder L t st (fun _ => 0)).2.2).2 (m + 1) (ob_inv H _ _).1 (by omega)
          exact ⟨⟨this.1.1, by omega⟩, this.2⟩
      · exact ⟨⟨hm, by show m ≤ _; omega⟩, H⟩
    · exact ⟨⟨hm, by show m ≤ _; omega⟩, H⟩
theorem inv_play {d : zM} (H : zInv d) {L : Int} (hL : 0 ≤ L ∧ L ≤ 60) (t : Int → Int) : zInv (opPlay d L t).2 ∧ rOK (opPlay d L t) d ∧ (0 ≤ (sTry L t L.toNat 0 d 0).2.2.1 ∧ (sTry L t L.toNat 0 d 0).2.2.1 ≤ 60) := by
  have h := sTry_inv (L := L) (t := t) L.toNat 0 d 0 H (Int.le_refl _)
  have hb : 0 ≤ (sTry L t L.toNat 0 d 0).2.2.1 ∧ (sTry L t L.toNat 0 d 0).2.2.1 ≤ 60 := by omega
  unfold opPlay
  split
  · exact ⟨h.2, rOK_ok (by omega), hb⟩
  · exact ⟨H, rOK_err (by omega), hb⟩
theorem plan_e (d : zM) (w : Int) : qPlan d w = rPlan d w := by
  unfold qPlan rPlan
  rw [jBits_e]
theorem bestC_e (d : zM) (k a b c : Int) : qBestC d k (0, a, b, c) = qBestC d k (0, 0, 0, 0) := by
  have := sAll_l (d := d) (k := k) (c := 0) (m := (d 0 5).toNat) (q := (0, a, b, c)) (q' := (0, 0, 0, 0)) (Or.inr ⟨rfl, rfl⟩) 1
  unfold qBestC
  rcases this with h | ⟨h1, h2⟩
  · rw [h]
  · rw [if_neg (c := (sAll d k 0 (d 0 5).toNat 1 (0, a, b, c)).1 = 1) (by omega), if_neg (c := (sAll d k 0 (d 0 5).toNat 1 (0, 0, 0, 0)).1 = 1) (by omega)]
theorem bestS_e (d : zM) (k a b c : Int) : qBestS d k (0, a, b, c) = qBestS d k (0, 0, 0, 0) := by
  have := sAll_l (d := d) (k := 0) (c := k) (m := 1) (q := (0, a, b, c)) (q' := (0, 0, 0, 0)) (Or.inr ⟨rfl, rfl⟩) (d 0 4).toNat
  unfold qBestS
  rcases this with h | ⟨h1, h2⟩
  · rw [h]
  · rw [if_neg (c := (sAll d 0 k 1 (d 0 4).toNat (0, a, b, c)).1 = 1) (by omega), if_neg (c := (sAll d 0 k 1 (d 0 4).toNat (0, 0, 0, 0)).1 = 1) (by omega)]
/-- the states of the history are as they should be, too -/
def zAllI (q : zM × Int × (Int → zM)) : Prop := zInv q.1 ∧ ∀ i, 0 ≤ i ∧ i < q.2.1 → zInv (q.2.2 i)
theorem zAllI_keep {d : zM} {n : Int} {h : Int → zM} {r : Int × zM} (H : zAllI (d, n, h)) (hn : 0 ≤ n ∧ n ≤ 4) (hr : zInv r.2) : zAllI (sKeep r d n h) := by
  unfold sKeep
  split
  · exact H
  · refine ⟨hr, fun i hi => ?_⟩
    have hi2 : 0 ≤ i ∧ i < sPushN n := hi
    show zInv (sPushH n h d i)
    unfold sPushN at hi2
    unfold sPushH
    split
    · rename_i q
      rw [if_pos q] at hi2
      split
      · exact H.1
      · exact H.2 (i + 1) (by show _ ∧ _ < n; omega)
    · rename_i q
      rw [if_neg q] at hi2
      split
      · exact H.1
      · exact H.2 i (by show _ ∧ _ < n; omega)
theorem zAllI_undo {d : zM} {n : Int} {h : Int → zM} (H : zAllI (d, n, h)) : zAllI (opUndo d n h).2 := by
  unfold opUndo
  split
  · refine ⟨H.2 (n - 1) (by show _ ∧ _ < n; omega), fun i hi => H.2 i ?_⟩
    have hi2 : 0 ≤ i ∧ i < n - 1 := hi
    show _ ∧ _ < n
    omega
  · exact H
/-- the law's invariant: the class's memory and the reference's show one state -/
def zBoth (μ ν : zM) : Prop := ∃ (d : zM) (n : Int) (h : Int → zM) (L : Int) (t : Int → Int), zSt μ d n h L t ∧ rSt ν d n h L t ∧ zAllI (d, n, h)
theorem zBoth_q {μ ν : zM} {q : zM × Int × (Int → zM)} {L : Int} {t : Int → Int} (h1 : zStK μ q L t) (h2 : rStK ν q L t) (h3 : zAllI q) : zBoth μ ν := ⟨q.1, q.2.1, q.2.2, L, t, h1, h2, h3⟩
