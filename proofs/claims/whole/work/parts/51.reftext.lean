/-! THE TEXT, as the reference reads it -/
theorem zTx_of {μ : zM} {L : Int} {t : Int → Int} (H : rTx μ L t) : zTx (fun c i => if c = 159 then L else t i) L t := ⟨if_pos rfl, H.2.1, fun i hi => ⟨if_neg (by omega), (H.2.2 i hi).2⟩⟩
theorem rTx_fr {μ μ' : zM} {L : Int} {t : Int → Int} (H : rTx μ L t) (e1 : μ' 0 3 = μ 0 3) (e2 : μ' 2 = μ 2) : rTx μ' L t := ⟨by rw [e1]; exact H.1, H.2.1, fun i hi => by rw [e2]; exact H.2.2 i hi⟩
/-- what reading an order leaves as it was -/
def rFs (μ μ' : zM) : Prop := ∀ c i, (c = 0 → i ≠ 6) → c ≠ 3 → μ' c i = μ c i
theorem rTx_fs {μ μ' : zM} {L : Int} {t : Int → Int} (H : rTx μ L t) (e : rFs μ μ') : rTx μ' L t := rTx_fr H (e 0 3 (by omega) (by omega)) (by funext i; exact e 2 i (by omega) (by omega))
/-- behind a number: r numbers are wanting, from the k-th on -/
def sMid (L : Int) (t : Int → Int) (r : Nat) (e : Int) (f : Int → Int) (k : Int) : Int × Int × (Int → Int) := if cAt L t e = (if r = 0 then 59 else 44) then sNums L t r (e + 1) f k else (0, e, f)
theorem sNums_q {L : Int} {t : Int → Int} {r : Nat} {e k : Int} {f : Int → Int} (h : ¬ (sRd L t 3 e 0).1 = e) : sNums L t (r + 1) e f k = sMid L t r (sRd L t 3 e 0).1 (fun j => if j = k then (sRd L t 3 e 0).2 else f j) (k + 1) := if_neg h
theorem sMid_p {L : Int} {t : Int → Int} {r : Nat} {e k m : Int} {f : Int → Int} (hm : (if r = 0 then (59 : Int) else 44) = m) (h : cAt L t e = m) : sMid L t r e f k = sNums L t r (e + 1) f k := if_pos (h.trans hm.symm)
theorem sMid_n {L : Int} {t : Int → Int} {r : Nat} {e k m : Int} {f : Int → Int} (hm : (if r = 0 then (59 : Int) else 44) = m) (h : ¬ cAt L t e = m) : sMid L t r e f k = (0, e, f) := if_neg (fun q => h (q.trans hm))
/-- what is known of an order's answer -/
def zObLow : Prop := ∀ (d : zM) (c : Int) (f : Int → Int), zInv d → (∀ j, 0 ≤ j ∧ j < cNum c → 0 ≤ f j ∧ f j ≤ 999) → -1000004 ≤ (sObey d c f).1
/-- what all orders leave as it was -/
def rGn (μ μ' : zM) : Prop := μ' 2 = μ 2 ∧ μ' 0 1 = μ 0 1 ∧ μ' 0 3 = μ 0 3 ∧ ∀ x, 190 ≤ x → μ' 1 x = μ 1 x
theorem rGn_rf (μ : zM) : rGn μ μ := ⟨rfl, rfl, rfl, fun _ _ => rfl⟩
theorem rGn_tr {μ μ1 μ2 : zM} (h : rGn μ μ1) (h2 : rGn μ1 μ2) : rGn μ μ2 := ⟨h2.1.trans h.1, h2.2.1.trans h.2.1, h2.2.2.1.trans h.2.2.1, fun x hx => (h2.2.2.2 x hx).trans (h.2.2.2 x hx)⟩
theorem rGn_fs {μ μ1 : zM} (h : rFs μ μ1) : rGn μ μ1 := ⟨by funext i; exact h 2 i (by omega) (by omega), h 0 1 (by omega) (by omega), h 0 3 (by omega) (by omega), fun x _ => h 1 x (by omega) (by omega)⟩
theorem rGn_sl {μ μ1 : zM} (h : rSl μ μ1) : rGn μ μ1 := ⟨h.1 2 (by omega), h.2.1 1 (by omega), h.2.1 3 (by omega), h.2.2⟩
theorem rGn_up {μ μ1 : zM} {i z : Int} (h : rGn μ μ1) (hi : i ≠ 1 ∧ i ≠ 3) : rGn μ (zup μ1 0 i z) := ⟨by rw [zup_o (by omega)]; exact h.1, by rw [zup_n (by omega)]; exact h.2.1, by rw [zup_n (by omega)]; exact h.2.2.1, fun x hx => by rw [zup_o (by omega)]; exact h.2.2.2 x hx⟩
theorem rTx_gn {μ μ' : zM} {L : Int} {t : Int → Int} (H : rTx μ L t) (e : rGn μ μ') : rTx μ' L t := rTx_fr H e.2.2.1 e.1
theorem rv_fs {μ μ' : zM} {t : Int} (h : rFs μ μ') : rv μ' t = rv μ t := rv_1 (by funext i; exact h 1 i (by omega) (by omega))
/-- what the orders have come to -/
def rTry (q : Int × zM × Int × Int × Int × Int) (μ' : zM) : Prop := if q.1 = 1 then rv μ' 0 = q.2.1 else μ' 0 4 = q.2.2.2.2.1 ∧ μ' 0 5 = q.2.2.2.2.2
def sMany (q : Int × zM × Int × Int × Int × Int) : Int := if q.1 = 1 then q.2.2.1 else -q.2.2.2.1 - 1
theorem sTry_1 {L : Int} {t : Int → Int} : ∀ (r : Nat) (st : Int) (d : zM) (m : Int), (sTry L t r st d m).1 = 0 ∨ (sTry L t r st d m).1 = 1 := by
  intro r
  induction r with
  | zero => intro _ _ _; exact Or.inr rfl
  | succ r ih =>
    intro st d m
    unfold sTry
    split
    · split
      · split
        · exact Or.inl rfl
        · exact ih _ _ _
      · exact Or.inl rfl
    · exact Or.inr rfl
theorem rSt_gn {μ μ1 d : zM} {n L : Int} {h : Int → zM} {t : Int → Int} (H : rSt μ d n h L t) (e : rGn μ μ1) (e0 : rv μ1 0 = d) : rSt μ1 d n h L t := ⟨e0, rHi_fr H.2.1 e.2.1 (fun x hx => e.2.2.2 x (by omega)), rTx_gn H.2.2 e⟩
theorem rSt_f6 {μ μ1 d : zM} {n L : Int} {h : Int → zM} {t : Int → Int} (H : rSt μ d n h L t) (e : rF1 6 μ μ1) : rSt μ1 d n h L t := ⟨(rF1_v e (by omega)).trans H.1, rHi_fr H.2.1 (by rw [e.1 0 (by omega)]) (fun x hx => e.2 x (by omega)), rTx_fr H.2.2 (by rw [e.1 0 (by omega)]) (e.1 2 (by omega))⟩
theorem rGn_f0 {μ μ1 : zM} (h : rF1 0 μ μ1) : rGn μ μ1 := ⟨h.1 2 (by omega), by rw [h.1 0 (by omega)], by rw [h.1 0 (by omega)], fun x hx => h.2 x (by omega)⟩
theorem rv_gn {μ μ1 : zM} {t : Int} (h : rGn μ μ1) (ht : 1 ≤ t) : rv μ1 t = rv μ t := rv_eq (fun o i hr => h.2.2.2 _ (by have := rp_b hr; omega))
