/-! THE HISTORY: its four desks stand in some order -/
theorem zup_v {μ : zM} {c i z c' i' : Int} (h : c' = c ∧ i' = i) : zup μ c i z c' i' = z := if_pos h
def zPm (μ : zM) : Prop := (∀ i, 0 ≤ i ∧ i < 4 → 2 ≤ μ 158 i ∧ μ 158 i ≤ 5) ∧ ∀ i j, 0 ≤ i ∧ i < 4 → 0 ≤ j ∧ j < 4 → μ 158 i = μ 158 j → i = j
def zHi (μ : zM) (n : Int) (h : Int → zM) : Prop := zPm μ ∧ μ 157 1 = n ∧ (0 ≤ n ∧ n ≤ 4) ∧ ∀ i, 0 ≤ i ∧ i < n → vw μ (26 * μ 158 i) = h i
def sPushN (n : Int) : Int := if n = 4 then 4 else n + 1
def sPushH (n : Int) (h : Int → zM) (d : zM) : Int → zM := fun i => if n = 4 then (if i = 3 then d else h (i + 1)) else if i = n then d else h i
theorem zHi_eq {μ : zM} {n : Int} {h h' : Int → zM} (H : zHi μ n h) (e : ∀ i, 0 ≤ i ∧ i < n → h i = h' i) : zHi μ n h' := ⟨H.1, H.2.1, H.2.2.1, fun i hi => by rw [← e i hi]; exact H.2.2.2 i hi⟩
theorem zb_s {μ : zM} {i : Int} (h : zPm μ) (hi : 0 ≤ i ∧ i < 4) : zb (26 * μ 158 i) := ⟨μ 158 i, by have := h.1 i hi; omega, by have := h.1 i hi; omega, rfl⟩
/-- what is not the history's stays: its views too -/
theorem zHi_fr {μ μ' : zM} {n : Int} {h : Int → zM} (H : zHi μ n h) (e1 : ∀ c, 52 ≤ c ∧ c < 159 → μ' c = μ c) : zHi μ' n h := by
  obtain ⟨h1, h2, h3, h4⟩ := H
  have e158 : μ' 158 = μ 158 := e1 158 (by omega)
  refine ⟨by unfold zPm; rw [e158]; exact h1, by rw [e1 157 (by omega)]; exact h2, h3, fun i hi => ?_⟩
  rw [e158, ← h4 i hi]
  have hb := h1.1 i (by omega)
  exact vw_eq (fun o j hr => by rw [e1 _ (by unfold zrel at hr; omega)])
theorem zHi_drop {μ μ' : zM} {h : Int → zM} (H : zHi μ 4 h) (h0 : μ' 158 0 = μ 158 1) (h1 : μ' 158 1 = μ 158 2) (h2 : μ' 158 2 = μ 158 3) (h3 : μ' 158 3 = μ 158 0) (hs : μ' 157 1 = 3) (e : ∀ c, c < 157 → μ' c = μ c) : zHi μ' 3 (fun i => h (i + 1)) := by
  obtain ⟨⟨p1, p2⟩, q2, q3, q4⟩ := H
  have b0 := p1 0 (by omega)
  have b1 := p1 1 (by omega)
  have b2 := p1 2 (by omega)
  have b3 := p1 3 (by omega)
  have n01 : μ 158 0 ≠ μ 158 1 := fun q => absurd (p2 0 1 (by omega) (by omega) q) (by omega)
  have n02 : μ 158 0 ≠ μ 158 2 := fun q => absurd (p2 0 2 (by omega) (by omega) q) (by omega)
  have n03 : μ 158 0 ≠ μ 158 3 := fun q => absurd (p2 0 3 (by omega) (by omega) q) (by omega)
  have n12 : μ 158 1 ≠ μ 158 2 := fun q => absurd (p2 1 2 (by omega) (by omega) q) (by omega)
  have n13 : μ 158 1 ≠ μ 158 3 := fun q => absurd (p2 1 3 (by omega) (by omega) q) (by omega)
  have n23 : μ 158 2 ≠ μ 158 3 := fun q => absurd (p2 2 3 (by omega) (by omega) q) (by omega)
  have c4 : ∀ i : Int, 0 ≤ i ∧ i < 4 → i = 0 ∨ i = 1 ∨ i = 2 ∨ i = 3 := fun i hi => by omega
  have fr : ∀ x : Int, 2 ≤ x ∧ x ≤ 5 → vw μ' (26 * x) = vw μ (26 * x) := fun x hx => vw_eq (fun o j hr => by rw [e _ (by unfold zrel at hr; omega)])
  refine ⟨⟨fun i hi => ?_, fun i j hi hj q => ?_⟩, hs, by omega, fun i hi => ?_⟩
  · rcases c4 i hi with rfl | rfl | rfl | rfl <;> omega
  · rcases c4 i hi with rfl | rfl | rfl | rfl <;> rcases c4 j hj with rfl | rfl | rfl | rfl <;> omega
  · have hc : i = 0 ∨ i = 1 ∨ i = 2 := by omega
    rcases hc with rfl | rfl | rfl
    · rw [h0, fr _ b1]; exact q4 1 (by omega)
    · rw [h1, fr _ b2]; exact q4 2 (by omega)
    · rw [h2, fr _ b3]; exact q4 3 (by omega)
theorem zHi_put {μ μ2 μ3 : zM} {m : Int} {h : Int → zM} (hm : m < 4) (H : zHi μ m h) (hv : vw μ2 (26 * μ 158 m) = vw μ 0) (hf : zFd μ (26 * μ 158 m) μ2) (h3 : μ3 = zup μ2 157 1 (m + 1)) : zHi μ3 (m + 1) (fun i => if i = m then vw μ 0 else h i) := by
  obtain ⟨⟨p1, p2⟩, q2, q3, q4⟩ := H
  have bm := p1 m (by omega)
  have e3 : ∀ c, c ≠ 157 → μ3 c = μ2 c := fun c hc => by rw [h3, zup_o hc]
  have e158 : μ3 158 = μ 158 := by rw [e3 158 (by omega), hf 158 (by omega)]
  have fr : ∀ x : Int, 2 ≤ x ∧ x ≤ 5 → vw μ3 (26 * x) = vw μ2 (26 * x) := fun x hx => vw_eq (fun o j hr => by rw [e3 _ (by unfold zrel at hr; omega)])
  refine ⟨⟨by rw [e158]; exact p1, by rw [e158]; exact p2⟩, by rw [h3, zup_s], by omega, fun i hi => ?_⟩
  have bi := p1 i (by omega)
  rw [e158, fr _ bi]
  show _ = (if i = m then vw μ 0 else h i)
  by_cases q : i = m
  · rw [if_pos q, q]; exact hv
  · have nq : μ 158 i ≠ μ 158 m := fun z => q (p2 i m (by omega) (by omega) z)
    rw [if_neg q, ← q4 i (by omega)]
    exact vw_eq (fun o j hr => by rw [hf _ (by unfold zrel at hr; omega)])
theorem zHi_cut {μ μ' : zM} {n : Int} {h : Int → zM} (H : zHi μ n h) (hn : 1 ≤ n) (e : ∀ c, 52 ≤ c ∧ c < 159 ∧ c ≠ 157 → μ' c = μ c) (h2 : μ' 157 1 = n - 1) : zHi μ' (n - 1) h := by
  obtain ⟨h1, _, h3, h4⟩ := H
  have e158 : μ' 158 = μ 158 := e 158 (by omega)
  refine ⟨by unfold zPm; rw [e158]; exact h1, h2, by omega, fun i hi => ?_⟩
  rw [e158, ← h4 i (by omega)]
  have hb := h1.1 i (by omega)
  exact vw_eq (fun o j hr => by rw [e _ (by unfold zrel at hr; omega)])
/-- a change is kept, or it was an error -/
def isErr (r : Int) : Prop := -1000004 ≤ r ∧ r ≤ -1000001
