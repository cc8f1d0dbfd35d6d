theorem zup_id {d : zM} {o i z : Int} (h : d o i = z) : zup d o i z = d := by
  funext o' i'
  by_cases e : o' = o ∧ i' = i
  · rw [e.1, e.2, zup_s, h]
  · rw [zup_n (by omega)]
theorem rSl_look {d : zM} {k c p t : Int} {μ μ1 : zM} (h : rFr μ μ1) : rSl μ μ1 := ⟨fun c hc => h.1 c (by omega), h.2, fun x _ => by rw [h.1 1 (by omega)]⟩
theorem rSl_tr {μ μ1 μ2 : zM} (h : rSl μ μ1) (h2 : rSl μ1 μ2) : rSl μ μ2 := ⟨fun c hc => (h2.1 c hc).trans (h.1 c hc), fun i hi => (h2.2.1 i hi).trans (h.2.1 i hi), fun x hx => (h2.2.2 x hx).trans (h.2.2 x hx)⟩
theorem rSl_fr {μ μ1 : zM} (h : rFr μ μ1) : rSl μ μ1 := ⟨fun c hc => h.1 c (by omega), h.2, fun x _ => by rw [h.1 1 (by omega)]⟩
theorem rSl_f1 {μ μ1 : zM} (h : rF1 0 μ μ1) : rSl μ μ1 := ⟨fun c hc => h.1 c (by omega), fun i _ => by rw [h.1 0 (by omega)], fun x hx => h.2 x (by omega)⟩
theorem fOk_of {d : zM} (H : zInv d) {k : Int} (hk : 0 ≤ k ∧ k < d 0 4) : fOk d k (sNum d k) := (zInv_G H k hk).1
theorem late_of {d : zM} (H : zInv d) {k : Int} (hk : 0 ≤ k ∧ k < d 0 4) : ∀ n : Nat, n < sNum d k → 0 ≤ sMarg d k (d (11 + k) (n : Int)) (sPos d k n).1 (sPos d k n).2.1 := H.2.2.2.2.2.2 k hk
def rTx (μ : zM) (L : Int) (t : Int → Int) : Prop := μ 0 3 = L ∧ (0 ≤ L ∧ L ≤ 60) ∧ ∀ i, 0 ≤ i ∧ i < L → μ 2 i = t i ∧ (32 ≤ t i ∧ t i ≤ 126)
def rSt (μ : zM) (d : zM) (n : Int) (h : Int → zM) (L : Int) (t : Int → Int) : Prop := rv μ 0 = d ∧ rHi μ n h ∧ rTx μ L t
def rStK (μ : zM) (q : zM × Int × (Int → zM)) (L : Int) (t : Int → Int) : Prop := rSt μ q.1 q.2.1 q.2.2 L t
theorem rHi_eq {μ : zM} {n : Int} {h h' : Int → zM} (H : rHi μ n h) (e : ∀ i, 0 ≤ i ∧ i < n → h i = h' i) : rHi μ n h' := ⟨H.1, H.2.1, fun i hi => by rw [← e i hi]; exact H.2.2 i hi⟩
theorem rHi_put {μ m1 m2 : zM} {n : Int} {h : Int → zM} (H : rHi μ n h) (hn : n < 4) (h1 : m1 = zup μ 0 1 (n + 1)) (hv : rv m2 (n + 1) = rv m1 6) (hf : rF1 (n + 1) m1 m2) : rHi m2 (n + 1) (fun i => if i = n then rv μ 6 else h i) := by
  obtain ⟨q1, q2, q3⟩ := H
  refine ⟨by rw [hf.1 0 (by omega), h1, zup_s], by omega, fun i hi => ?_⟩
  show rv m2 (i + 1) = (if i = n then rv μ 6 else h i)
  by_cases q : i = n
  · rw [if_pos q, q, hv, h1, rv_c0 (by omega)]
  · rw [if_neg q, rF1_v hf (by omega), h1, rv_c0 (by omega)]
    exact q3 i (by omega)
theorem rHi_cut {μ m1 : zM} {n : Int} {h : Int → zM} (H : rHi μ n h) (hn : 1 ≤ n) (e0 : m1 0 1 = n - 1) (e : ∀ x, 190 ≤ x → m1 1 x = μ 1 x) : rHi m1 (n - 1) h := by
  obtain ⟨q1, q2, q3⟩ := H
  refine ⟨e0, by omega, fun i hi => ?_⟩
  rw [← q3 i (by omega)]
  exact rv_eq (fun o j hr => e _ (by have := rp_b hr; omega))
theorem rHi_fr {μ m1 : zM} {n : Int} {h : Int → zM} (H : rHi μ n h) (e0 : m1 0 1 = μ 0 1) (e : ∀ x, 190 ≤ x ∧ x < 950 → m1 1 x = μ 1 x) : rHi m1 n h := by
  obtain ⟨q1, q2, q3⟩ := H
  refine ⟨e0.trans q1, q2, fun i hi => ?_⟩
  rw [← q3 i hi]
  exact rv_eq (fun o j hr => e _ (by have := rp_b hr; omega))
/-- what acted does -/
def rAct (μ : zM) (a : Int) (n : Int) (h : Int → zM) (μ' : zM) : Prop := if -1000001 < a then rHi μ' (sPushN n) (sPushH n h (rv μ 6)) ∧ rv μ' 0 = rv μ 0 ∧ (∀ c, 2 ≤ c → μ' c = μ c) ∧ (∀ i, i ≠ 1 → μ' 0 i = μ 0 i) else μ' = μ
