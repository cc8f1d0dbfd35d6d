/-! THE STATE: the desk d, n states h in the history, L characters t -/
def zTx (μ : zM) (L : Int) (t : Int → Int) : Prop := μ 159 1 = L ∧ (0 ≤ L ∧ L ≤ 60) ∧ ∀ i, 0 ≤ i ∧ i < L → μ 160 i = t i ∧ (32 ≤ t i ∧ t i ≤ 126)
def zSt (μ : zM) (d : zM) (n : Int) (h : Int → zM) (L : Int) (t : Int → Int) : Prop := vw μ 0 = d ∧ zHi μ n h ∧ zTx μ L t
/-- a change: kept, or an error -/
def sKeep (r : Int × zM) (d : zM) (n : Int) (h : Int → zM) : zM × Int × (Int → zM) := if -1000004 ≤ r.1 ∧ r.1 ≤ -1000001 then (d, n, h) else (r.2, sPushN n, sPushH n h d)
def zStK (μ : zM) (q : zM × Int × (Int → zM)) (L : Int) (t : Int → Int) : Prop := zSt μ q.1 q.2.1 q.2.2 L t
theorem zTx_fr {μ μ' : zM} {L : Int} {t : Int → Int} (H : zTx μ L t) (e1 : μ' 159 1 = μ 159 1) (e2 : ∀ i, 0 ≤ i ∧ i < L → μ' 160 i = μ 160 i) : zTx μ' L t := ⟨by rw [e1]; exact H.1, H.2.1, fun i hi => by rw [e2 i hi]; exact H.2.2 i hi⟩
/-- only the trial has changed, and what is not the state's -/
theorem zSt_fr {μ μ' d : zM} {n L : Int} {h : Int → zM} {t : Int → Int} (H : zSt μ d n h L t) (e0 : vw μ' 0 = vw μ 0) (e1 : ∀ c, 52 ≤ c ∧ c < 159 → μ' c = μ c) (e2 : μ' 159 1 = μ 159 1) (e3 : μ' 160 = μ 160) : zSt μ' d n h L t := ⟨e0.trans H.1, zHi_fr H.2.1 e1, zTx_fr H.2.2 e2 (fun i _ => by rw [e3])⟩
theorem zSt_tr {μ μ' d : zM} {n L : Int} {h : Int → zM} {t : Int → Int} (H : zSt μ d n h L t) (e : zFd μ 26 μ') : zSt μ' d n h L t := zSt_fr H (vw_eq (fun o i hr => by rw [e _ (by unfold zrel at hr; omega)])) (fun c hc => e c (by omega)) (by rw [e 159 (by omega)]) (e 160 (by omega))
theorem vw_fd {μ μ' : zM} {b b2 : Int} (e : zFd μ b2 μ') (h : b + 26 ≤ b2 ∨ b2 + 26 ≤ b) : vw μ' b = vw μ b := vw_eq (fun o i hr => by rw [e _ (by unfold zrel at hr; omega)])
/-- ships and cargoes that have not come are new; fixtures are fixed cargoes, each once, none too late -/
def zInv (d : zM) : Prop := bD d ∧ (∀ k, d 0 4 ≤ k ∧ k < 5 → d (6 + k) 5 = 0 ∧ d (6 + k) 6 = 0) ∧ (∀ c, d 0 5 ≤ c ∧ c < 10 → d (16 + c) 6 = 0) ∧
  (∀ k, 0 ≤ k ∧ k < d 0 4 → ∀ x, 0 ≤ x ∧ x < d (6 + k) 6 → 0 ≤ d (11 + k) x ∧ d (11 + k) x < d 0 5) ∧
  (∀ k, 0 ≤ k ∧ k < d 0 4 → ∀ x, 0 ≤ x ∧ x < d (6 + k) 6 → d (16 + d (11 + k) x) 6 = 1) ∧
  (∀ k k' x x', 0 ≤ k ∧ k < d 0 4 → 0 ≤ k' ∧ k' < d 0 4 → 0 ≤ x ∧ x < d (6 + k) 6 → 0 ≤ x' ∧ x' < d (6 + k') 6 → d (11 + k) x = d (11 + k') x' → k = k' ∧ x = x') ∧
  (∀ k, 0 ≤ k ∧ k < d 0 4 → ∀ n : Nat, n < sNum d k → 0 ≤ sMarg d k (d (11 + k) (n : Int)) (sPos d k n).1 (sPos d k n).2.1)
theorem zInv_F {d : zM} (H : zInv d) : ∀ k, 0 ≤ k ∧ k < d 0 4 → ∀ x, 0 ≤ x ∧ x < d (6 + k) 6 → 0 ≤ d (11 + k) x ∧ d (11 + k) x < d 0 5 := H.2.2.2.1
theorem zInv_G {d : zM} (H : zInv d) : ∀ k, 0 ≤ k ∧ k < d 0 4 → zGo d k (sNum d k) := by
  intro k hk
  obtain ⟨hB, _, _, hF, _, _, hL⟩ := H
  have hs := hB.2.2.1 k hk
  have hNe := sNum_e (d := d) (k := k) hs.2.2.2.2.2.1
  have hF' : ∀ n : Nat, n < sNum d k → 0 ≤ d (11 + k) (n : Int) ∧ d (11 + k) (n : Int) < d 0 5 := fun n hn => hF k hk n (by omega)
  refine ⟨hF', fun n hn => ?_⟩
  have := sPos_b hB hk n (fun m hm => hF' m (by omega)) (fun m hm => hL k hk m (by omega))
  exact ⟨this.1, this.2.1, by omega⟩
theorem zpigeon : ∀ (N : Nat) (f : Nat → Nat), (∀ i, i < N + 1 → f i < N) → (∀ i j, i < N + 1 → j < N + 1 → f i = f j → i = j) → False := by
  intro N
  induction N with
  | zero => intro f h _; exact absurd (h 0 (by omega)) (by omega)
  | succ N ih =>
    intro f h hi
    refine ih (fun i => if f i = N then f (N + 1) else f i) (fun i hi2 => ?_) (fun i j h1 h2 e => ?_)
    · have a := h i (by omega)
      have b := h (N + 1) (by omega)
      split
      · rename_i q
        have : f (N + 1) ≠ N := fun z => absurd (hi i (N + 1) (by omega) (by omega) (q.trans z.symm)) (by omega)
        omega
      · omega
    · split at e
      · rename_i q1
        split at e
        · rename_i q2
          exact hi i j (by omega) (by omega) (q1.trans q2.symm)
        · exact absurd (hi (N + 1) j (by omega) (by omega) e) (by omega)
      · split at e
        · exact absurd (hi i (N + 1) (by omega) (by omega) e) (by omega)
        · exact hi i j (by omega) (by omega) e
theorem zInv_full {d : zM} (H : zInv d) : ∀ k c, 0 ≤ k ∧ k < d 0 4 → 0 ≤ c ∧ c < d 0 5 → d (16 + c) 6 = 0 → d (6 + k) 6 < 10 := by
  intro k c hk hc h0
  obtain ⟨hB, _, _, hF, hS, hI, _⟩ := H
  have hN := hB.1.2
  by_cases q : d (6 + k) 6 < 10
  · exact q
  · exfalso
    refine zpigeon 10 (fun i => if i = 10 then c.toNat else (d (11 + k) (i : Int)).toNat) (fun i hi => ?_) (fun i j hi hj e => ?_)
    · split
      · omega
      · have := hF k hk i (by omega)
        omega
    · have g : ∀ m : Nat, m < 10 → (d (11 + k) (m : Int)).toNat ≠ c.toNat := by
        intro m hm z
        have f1 := hF k hk m (by omega)
        have f2 := hS k hk m (by omega)
        have : d (11 + k) (m : Int) = c := by omega
        rw [this, h0] at f2
        exact absurd f2 (by decide)
      split at e
      · split at e
        · omega
        · exact absurd e.symm (g j (by omega))
      · split at e
        · exact absurd e (g i (by omega))
        · have f1 := hF k hk i (by omega)
          have f2 := hF k hk j (by omega)
          have := (hI k k i j hk hk (by omega) (by omega) (by omega)).2
          omega
def opUndo (d : zM) (n : Int) (h : Int → zM) : Int × (zM × Int × (Int → zM)) := if 1 ≤ n then (n - 1, (h (n - 1), n - 1, h)) else (-1000002, (d, n, h))
