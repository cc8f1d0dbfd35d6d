theorem sNums_k {L : Int} {t : Int → Int} : ∀ (r : Nat) (e k : Int) (f : Int → Int) (j : Int), j < k → (sNums L t r e f k).2.2 j = f j := by
  intro r
  induction r with
  | zero => intro e k f j _; rfl
  | succ r ih =>
    intro e k f j hj
    have u : ∀ v : Int, (if j = k then v else f j) = f j := fun v => if_neg (by omega)
    by_cases q : (sRd L t 3 e 0).1 = e
    · rw [sNums_e q]; exact u _
    · by_cases q2 : cAt L t (sRd L t 3 e 0).1 = (if r = 0 then 59 else 44)
      · rw [sNums_s q q2, ih _ _ _ j (by omega)]; exact u _
      · rw [sNums_m q q2]; exact u _
theorem sNums_b {μ : zM} {L : Int} {t : Int → Int} (H : zTx μ L t) : ∀ (r : Nat) (e k : Int) (f : Int → Int), 0 ≤ e ∧ e ≤ L → ((sNums L t r e f k).1 = 0 ∨ (sNums L t r e f k).1 = 1) ∧ (e ≤ (sNums L t r e f k).2.1 ∧ (sNums L t r e f k).2.1 ≤ L) ∧ ((sNums L t r e f k).1 = 1 → ∀ j, k ≤ j ∧ j < k + (r : Int) → 0 ≤ (sNums L t r e f k).2.2 j ∧ (sNums L t r e f k).2.2 j ≤ 999) := by
  intro r
  induction r with
  | zero => intro e k f he; exact ⟨Or.inr rfl, ⟨Int.le_refl _, he.2⟩, fun _ j hj => absurd hj (by omega)⟩
  | succ r ih =>
    intro e k f he
    have b := sRd_3 H he.1
    by_cases q : (sRd L t 3 e 0).1 = e
    · rw [sNums_e q]; exact ⟨Or.inl rfl, ⟨Int.le_refl _, he.2⟩, fun z => absurd (show (0 : Int) = 1 from z) (by decide)⟩
    · have hc := b.2.2.2 (by omega)
      by_cases q2 : cAt L t (sRd L t 3 e 0).1 = (if r = 0 then 59 else 44)
      · have hin := cAt_in H (i := (sRd L t 3 e 0).1) (by rw [q2]; split <;> decide)
        rw [sNums_s q q2]
        have i1 := ih ((sRd L t 3 e 0).1 + 1) (k + 1) (fun j => if j = k then (sRd L t 3 e 0).2 else f j) (by omega)
        refine ⟨i1.1, by omega, fun z j hj => ?_⟩
        by_cases w : j = k
        · rw [w, sNums_k r _ _ _ k (by omega)]
          show 0 ≤ (if k = k then (sRd L t 3 e 0).2 else f k) ∧ (if k = k then (sRd L t 3 e 0).2 else f k) ≤ 999
          rw [if_pos rfl]
          exact b.2.2.1
        · exact i1.2.2 z j (by omega)
      · rw [sNums_m q q2]; exact ⟨Or.inl rfl, ⟨b.1, hc⟩, fun z => absurd (show (0 : Int) = 1 from z) (by decide)⟩
theorem sNums_g {L : Int} {t : Int → Int} : ∀ (r : Nat) (e k : Int) (f g : Int → Int), (sNums L t r e f k).1 = (sNums L t r e g k).1 ∧ (sNums L t r e f k).2.1 = (sNums L t r e g k).2.1 ∧ ((sNums L t r e f k).1 = 1 → ∀ j, k ≤ j ∧ j < k + (r : Int) → (sNums L t r e f k).2.2 j = (sNums L t r e g k).2.2 j) := by
  intro r
  induction r with
  | zero => intro e k f g; exact ⟨rfl, rfl, fun _ j hj => absurd hj (by omega)⟩
  | succ r ih =>
    intro e k f g
    by_cases q : (sRd L t 3 e 0).1 = e
    · rw [sNums_e q, sNums_e q]; exact ⟨rfl, rfl, fun z => absurd (show (0 : Int) = 1 from z) (by decide)⟩
    · by_cases q2 : cAt L t (sRd L t 3 e 0).1 = (if r = 0 then 59 else 44)
      · rw [sNums_s q q2, sNums_s q q2]
        have i1 := ih ((sRd L t 3 e 0).1 + 1) (k + 1) (fun j => if j = k then (sRd L t 3 e 0).2 else f j) (fun j => if j = k then (sRd L t 3 e 0).2 else g j)
        refine ⟨i1.1, i1.2.1, fun z j hj => ?_⟩
        by_cases w : j = k
        · rw [w, sNums_k r _ _ _ k (by omega), sNums_k r _ _ _ k (by omega)]
          show (if k = k then (sRd L t 3 e 0).2 else f k) = (if k = k then (sRd L t 3 e 0).2 else g k)
          rw [if_pos rfl, if_pos rfl]
        · exact i1.2.2 z j (by omega)
      · rw [sNums_m q q2, sNums_m q q2]; exact ⟨rfl, rfl, fun z => absurd (show (0 : Int) = 1 from z) (by decide)⟩
theorem sOrder_b {μ : zM} {L : Int} {t : Int → Int} (H : zTx μ L t) {e : Int} (he : 0 ≤ e ∧ e < L) (f : Int → Int) : ((sOrder L t e f).1 = 0 ∨ (sOrder L t e f).1 = 1) ∧ (e ≤ (sOrder L t e f).2.1 ∧ (sOrder L t e f).2.1 ≤ L) ∧ ((sOrder L t e f).1 = 1 → e < (sOrder L t e f).2.1 ∧ ∀ j, 0 ≤ j ∧ j < cNum (cAt L t e) → 0 ≤ (sOrder L t e f).2.2 j ∧ (sOrder L t e f).2.2 j ≤ 999) := by
  unfold sOrder
  have hb := cNum_b (cAt L t e)
  split
  · exact ⟨Or.inl rfl, ⟨Int.le_refl _, by show e ≤ L; omega⟩, fun z => absurd (show (0 : Int) = 1 from z) (by decide)⟩
  · have i1 := sNums_b H (cNum (cAt L t e)).toNat (e + 1) 0 f (by omega)
    exact ⟨i1.1, by omega, fun z => ⟨by omega, fun j hj => i1.2.2 z j (by omega)⟩⟩
theorem sOrder_g {L : Int} {t : Int → Int} (e : Int) (f g : Int → Int) : (sOrder L t e f).1 = (sOrder L t e g).1 ∧ (sOrder L t e f).2.1 = (sOrder L t e g).2.1 ∧ ((sOrder L t e f).1 = 1 → ∀ j, 0 ≤ j ∧ j < cNum (cAt L t e) → (sOrder L t e f).2.2 j = (sOrder L t e g).2.2 j) := by
  unfold sOrder
  have hb := cNum_b (cAt L t e)
  split
  · exact ⟨rfl, rfl, fun z => absurd (show (0 : Int) = 1 from z) (by decide)⟩
  · have i1 := sNums_g (L := L) (t := t) (cNum (cAt L t e)).toNat (e + 1) 0 f g
    exact ⟨i1.1, i1.2.1, fun z j hj => i1.2.2 z j (by omega)⟩
/-- an order is done -/
def sObey (d : zM) (c : Int) (f : Int → Int) : Int × zM := if c = 99 then opCargo d (f 0) (f 1) (f 2) (f 3) (f 4) (f 5) else if c = 100 then opDelay d (f 0) (f 1) else if c = 102 then opFix d (f 0) (f 1) else if c = 115 then opShip d (f 0) (f 1) (f 2) (f 3) (f 4) else (-1000001, d)
theorem sObey_g {d : zM} {c : Int} {f g : Int → Int} (h : ∀ j, 0 ≤ j ∧ j < cNum c → f j = g j) : sObey d c f = sObey d c g := by
  unfold sObey
  split
  · rename_i q
    have e : cNum c = 6 := by rw [q]; rfl
    rw [h 0 (by omega), h 1 (by omega), h 2 (by omega), h 3 (by omega), h 4 (by omega), h 5 (by omega)]
  · split
    · rename_i q
      have e : cNum c = 2 := by rw [q]; rfl
      rw [h 0 (by omega), h 1 (by omega)]
    · split
      · rename_i q
        have e : cNum c = 2 := by rw [q]; rfl
        rw [h 0 (by omega), h 1 (by omega)]
      · split
        · rename_i q
          have e : cNum c = 5 := by rw [q]; rfl
          rw [h 0 (by omega), h 1 (by omega), h 2 (by omega), h 3 (by omega), h 4 (by omega)]
        · rfl
/-- what is known of an order that is done in a state as it should be (proved behind the reference's part) -/
def zObOK : Prop := ∀ (d : zM) (c : Int) (f : Int → Int), zInv d → (∀ j, 0 ≤ j ∧ j < cNum c → 0 ≤ f j ∧ f j ≤ 999) → (-2147483648 ≤ (sObey d c f).1 ∧ (sObey d c f).1 ≤ 2147483647) ∧ zInv (sObey d c f).2
/-- all orders from st on are done: whether all are possible, the desk, how many, or the fault's place, reason, cause -/
def sTry (L : Int) (t : Int → Int) : Nat → Int → zM → Int → Int × zM × Int × Int × Int × Int
  | 0, _, d, m => (1, d, m, 0, 0, 0)
  | r + 1, st, d, m => if st < L then
      (if (sOrder L t st (fun _ => 0)).1 = 1 then
        (if -1000004 ≤ (sObey d (cAt L t st) (sOrder L t st (fun _ => 0)).2.2).1 ∧ (sObey d (cAt L t st) (sOrder L t st (fun _ => 0)).2.2).1 ≤ -1000001 then (0, d, m, st, 2, (sObey d (cAt L t st) (sOrder L t st (fun _ => 0)).2.2).1)
         else sTry L t r (sOrder L t st (fun _ => 0)).2.1 (sObey d (cAt L t st) (sOrder L t st (fun _ => 0)).2.2).2 (m + 1))
       else (0, d, m, st, 1, (sOrder L t st (fun _ => 0)).2.1 - st))
    else (1, d, m, 0, 0, 0)
/-- what the trial has come to -/
def zTry (q : Int × zM × Int × Int × Int × Int) (μ' : zM) : Prop := if q.1 = 1 then vw μ' 26 = q.2.1 ∧ μ' 162 0 = q.2.2.1 else μ' 162 1 = q.2.2.2.1 ∧ μ' 162 2 = q.2.2.2.2.1 ∧ μ' 162 3 = q.2.2.2.2.2
