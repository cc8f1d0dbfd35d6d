theorem zup_id {d : zM} {o i z : Int} (h : d o i = z) : zup d o i z = d := by
  funext o' i'
  by_cases e : o' = o ∧ i' = i
  · rw [e.1, e.2, zup_s, h]
  · rw [zup_n (by omega)]
theorem rSl_look {d : zM} {k c p t : Int} {μ μ1 : zM} (h : rFr μ μ1) : rSl μ μ1 := ⟨fun c hc => h.1 c (by omega), h.2, fun x _ => by rw [h.1 1 (by omega)]⟩
theorem rSl_tr {μ μ1 μ2 : zM} (h : rSl μ μ1) (h2 : rSl μ1 μ2) : rSl μ μ2 := ⟨fun c hc => (h2.1 c hc).trans (h.1 c hc), fun i hi => (h2.2.1 i hi).trans (h.2.1 i hi), fun x hx => (h2.2.2 x hx).trans (h.2.2 x hx)⟩
theorem rSl_fr {μ μ1 : zM} (h : rFr μ μ1) : rSl μ μ1 := ⟨fun c hc => h.1 c (by omega), h.2, fun x _ => by rw [h.1 1 (by omega)]⟩
theorem rSl_f1 {μ μ1 : zM} (h : rF1 0 μ μ1) : rSl μ μ1 := ⟨fun c hc => h.1 c (by omega), fun i _ => by rw [h.1 0 (by omega)], fun x hx => h.2 x (by omega)⟩
theorem fOk_of {d : zM} (H : zInv d) {k : Int} (hk : 0 ≤ k ∧ k < d 0 4) : fOk d k (sNum d k) := (zInv_G H k hk).1
theorem late_of {d : zM} (H : zInv d) {k : Int} (hk : 0 ≤ k ∧ k < d 0 4) : ∀ n : Nat, n < sNum d k → 0 ≤ sMarg d k (d (11 + k) (n : Int)) (sPos d k n).1 (sPos d k n).2.1 := H.2.2.2.2.2.2 k hk
