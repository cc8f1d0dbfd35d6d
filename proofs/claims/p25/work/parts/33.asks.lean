/-! WHAT THE CALLS ANSWER, in the desk's words -/
theorem ask_s0 {d : zM} {k : Int} (hk : 0 ≤ k ∧ k < d 0 4) : qShip d k 0 = d (6 + k) 0 := by unfold qShip; rw [if_neg (fun z => z hk), if_pos rfl]
theorem ask_s1 {d : zM} {k : Int} (hk : 0 ≤ k ∧ k < d 0 4) : qShip d k 1 = d (6 + k) 1 := by unfold qShip; rw [if_neg (fun z => z hk), if_neg (by decide), if_pos rfl]
theorem ask_s2 {d : zM} {k : Int} (hk : 0 ≤ k ∧ k < d 0 4) : qShip d k 2 = d (6 + k) 2 := by unfold qShip; rw [if_neg (fun z => z hk), if_neg (by decide), if_neg (by decide), if_pos rfl]
theorem ask_s3 {d : zM} {k : Int} (hk : 0 ≤ k ∧ k < d 0 4) : qShip d k 3 = (sEnd d k).1 := by unfold qShip; rw [if_neg (fun z => z hk), if_neg (by decide), if_neg (by decide), if_neg (by decide), if_pos rfl]
theorem ask_s4 {d : zM} {k : Int} (hk : 0 ≤ k ∧ k < d 0 4) : qShip d k 4 = (sEnd d k).2.1 := by unfold qShip; rw [if_neg (fun z => z hk), if_neg (by decide), if_neg (by decide), if_neg (by decide), if_neg (by decide), if_pos rfl]
theorem ask_s5 {d : zM} {k : Int} (hk : 0 ≤ k ∧ k < d 0 4) : qShip d k 5 = d (6 + k) 3 := by unfold qShip; rw [if_neg (fun z => z hk), if_neg (by decide), if_neg (by decide), if_neg (by decide), if_neg (by decide), if_neg (by decide), if_pos rfl]
theorem ask_s6 {d : zM} {k : Int} (hk : 0 ≤ k ∧ k < d 0 4) : qShip d k 6 = d (6 + k) 4 := by unfold qShip; rw [if_neg (fun z => z hk), if_neg (by decide), if_neg (by decide), if_neg (by decide), if_neg (by decide), if_neg (by decide), if_neg (by decide), if_pos rfl]
theorem ask_s7 {d : zM} {k : Int} (hk : 0 ≤ k ∧ k < d 0 4) : qShip d k 7 = d (6 + k) 6 := by unfold qShip; rw [if_neg (fun z => z hk), if_neg (by decide), if_neg (by decide), if_neg (by decide), if_neg (by decide), if_neg (by decide), if_neg (by decide), if_neg (by decide), if_pos rfl]
theorem ask_s8 {d : zM} {k : Int} (hk : 0 ≤ k ∧ k < d 0 4) : qShip d k 8 = d (6 + k) 5 + 1000000 := by unfold qShip; rw [if_neg (fun z => z hk), if_neg (by decide), if_neg (by decide), if_neg (by decide), if_neg (by decide), if_neg (by decide), if_neg (by decide), if_neg (by decide), if_neg (by decide), if_pos rfl]
theorem ask_s9 {d : zM} {k : Int} (hk : 0 ≤ k ∧ k < d 0 4) : qShip d k 9 = (sEnd d k).2.2 + 1000000 := by unfold qShip; rw [if_neg (fun z => z hk), if_neg (by decide), if_neg (by decide), if_neg (by decide), if_neg (by decide), if_neg (by decide), if_neg (by decide), if_neg (by decide), if_neg (by decide), if_neg (by decide), if_pos rfl]
theorem ask_c0 {d : zM} {c : Int} (hc : 0 ≤ c ∧ c < d 0 5) : qCargo d c 0 = d (16 + c) 0 := by unfold qCargo; rw [if_neg (fun z => z hc), if_pos rfl]
theorem ask_c1 {d : zM} {c : Int} (hc : 0 ≤ c ∧ c < d 0 5) : qCargo d c 1 = d (16 + c) 1 := by unfold qCargo; rw [if_neg (fun z => z hc), if_neg (by decide), if_pos rfl]
theorem ask_c2 {d : zM} {c : Int} (hc : 0 ≤ c ∧ c < d 0 5) : qCargo d c 2 = d (16 + c) 2 := by unfold qCargo; rw [if_neg (fun z => z hc), if_neg (by decide), if_neg (by decide), if_pos rfl]
theorem ask_c3 {d : zM} {c : Int} (hc : 0 ≤ c ∧ c < d 0 5) : qCargo d c 3 = d (16 + c) 3 := by unfold qCargo; rw [if_neg (fun z => z hc), if_neg (by decide), if_neg (by decide), if_neg (by decide), if_pos rfl]
theorem ask_c4 {d : zM} {c : Int} (hc : 0 ≤ c ∧ c < d 0 5) : qCargo d c 4 = d (16 + c) 4 := by unfold qCargo; rw [if_neg (fun z => z hc), if_neg (by decide), if_neg (by decide), if_neg (by decide), if_neg (by decide), if_pos rfl]
theorem ask_c5 {d : zM} {c : Int} (hc : 0 ≤ c ∧ c < d 0 5) : qCargo d c 5 = d (16 + c) 5 := by unfold qCargo; rw [if_neg (fun z => z hc), if_neg (by decide), if_neg (by decide), if_neg (by decide), if_neg (by decide), if_neg (by decide), if_pos rfl]
theorem ask_c6 {d : zM} {c : Int} (hc : 0 ≤ c ∧ c < d 0 5) : qCargo d c 6 = d (16 + c) 6 := by unfold qCargo; rw [if_neg (fun z => z hc), if_neg (by decide), if_neg (by decide), if_neg (by decide), if_neg (by decide), if_neg (by decide), if_neg (by decide), if_pos rfl]
theorem ask_c7 {d : zM} {c : Int} (hc : 0 ≤ c ∧ c < d 0 5) (h : d (16 + c) 6 = 1) : qCargo d c 7 = d (16 + c) 7 := by unfold qCargo; rw [if_neg (fun z => z hc), if_neg (by decide), if_neg (by decide), if_neg (by decide), if_neg (by decide), if_neg (by decide), if_neg (by decide), if_neg (by decide), if_pos rfl, if_pos h]
theorem ask_c7n {d : zM} {c : Int} (hc : 0 ≤ c ∧ c < d 0 5) (h : ¬ d (16 + c) 6 = 1) : qCargo d c 7 = -1000004 := by unfold qCargo; rw [if_neg (fun z => z hc), if_neg (by decide), if_neg (by decide), if_neg (by decide), if_neg (by decide), if_neg (by decide), if_neg (by decide), if_neg (by decide), if_pos rfl, if_neg h]
theorem ask_fe {d : zM} {k p : Int} (hk : 0 ≤ k ∧ k < d 0 4) (hp : 0 ≤ p) (h : d (6 + k) 6 ≤ p) : qFixt d k p 0 = -1000004 := by unfold qFixt; rw [if_neg (fun z => z ⟨hk, hp, by decide⟩), if_pos h]
theorem ask_fb {d : zM} {k : Int} : qFixt d k (-1) 0 = -1000001 := by unfold qFixt; rw [if_pos (fun z => absurd z.2.1 (by decide))]
theorem ask_f0 {d : zM} {k : Int} {i : Nat} (hk : 0 ≤ k ∧ k < d 0 4) (hi : (i : Int) < d (6 + k) 6) : qFixt d k (i : Int) 0 = d (11 + k) (i : Int) := by unfold qFixt; rw [if_neg (fun z => z ⟨hk, by omega, by decide⟩), if_neg (by omega), if_pos rfl]
theorem ask_f1 {d : zM} {k : Int} {i : Nat} (hk : 0 ≤ k ∧ k < d 0 4) (hi : (i : Int) < d (6 + k) 6) : qFixt d k (i : Int) 1 = sArr d k (d (11 + k) (i : Int)) (sPos d k i).1 (sPos d k i).2.1 := by unfold qFixt; rw [if_neg (fun z => z ⟨hk, by omega, by decide⟩), if_neg (by omega), if_neg (by decide), if_pos rfl]; rfl
theorem ask_f2 {d : zM} {k : Int} {i : Nat} (hk : 0 ≤ k ∧ k < d 0 4) (hi : (i : Int) < d (6 + k) 6) : qFixt d k (i : Int) 2 = sLoad d k (d (11 + k) (i : Int)) (sPos d k i).1 (sPos d k i).2.1 := by unfold qFixt; rw [if_neg (fun z => z ⟨hk, by omega, by decide⟩), if_neg (by omega), if_neg (by decide), if_neg (by decide), if_pos rfl]; rfl
theorem ask_f3 {d : zM} {k : Int} {i : Nat} (hk : 0 ≤ k ∧ k < d 0 4) (hi : (i : Int) < d (6 + k) 6) : qFixt d k (i : Int) 3 = sFree d k (d (11 + k) (i : Int)) (sPos d k i).1 (sPos d k i).2.1 := by unfold qFixt; rw [if_neg (fun z => z ⟨hk, by omega, by decide⟩), if_neg (by omega), if_neg (by decide), if_neg (by decide), if_neg (by decide), if_pos rfl]; rfl
theorem ask_f4 {d : zM} {k : Int} {i : Nat} (hk : 0 ≤ k ∧ k < d 0 4) (hi : (i : Int) < d (6 + k) 6) : qFixt d k (i : Int) 4 = sEarn d k (d (11 + k) (i : Int)) (sPos d k i).1 (sPos d k i).2.1 + 1000000 := by unfold qFixt; rw [if_neg (fun z => z ⟨hk, by omega, by decide⟩), if_neg (by omega), if_neg (by decide), if_neg (by decide), if_neg (by decide), if_neg (by decide), if_pos rfl]; rfl
theorem ask_f5 {d : zM} {k : Int} {i : Nat} (hk : 0 ≤ k ∧ k < d 0 4) (hi : (i : Int) < d (6 + k) 6) : qFixt d k (i : Int) 5 = sMarg d k (d (11 + k) (i : Int)) (sPos d k i).1 (sPos d k i).2.1 := by unfold qFixt; rw [if_neg (fun z => z ⟨hk, by omega, by decide⟩), if_neg (by omega), if_neg (by decide), if_neg (by decide), if_neg (by decide), if_neg (by decide), if_neg (by decide)]; rfl
theorem ask_fl {d : zM} {k p : Int} (hk : 0 ≤ k ∧ k < d 0 4) (hp : 0 ≤ p ∧ p < d (6 + k) 6) : qFixt d k p 0 = d (11 + k) p := by unfold qFixt; rw [if_neg (fun z => z ⟨hk, hp.1, by decide⟩), if_neg (by omega), if_pos rfl]
theorem ask_d {d : zM} {p q : Int} (hp : 0 ≤ p ∧ p ≤ 7) (hq : 0 ≤ q ∧ q ≤ 7) : qDist d p q = sFar d p q := by unfold qDist; rw [if_neg (fun z => z ⟨hp, hq⟩)]
theorem ask_k {d : zM} {k : Int} (hk : 0 ≤ k ∧ k < d 0 4) : qSlack d k = sL d k (sNum d k) := by unfold qSlack; rw [if_neg (fun z => z hk)]
theorem ask_n0 {d : zM} {n L : Int} : qCount d n L 0 = d 0 4 := by unfold qCount; rw [if_pos rfl]
theorem ask_n1 {d : zM} {n L : Int} : qCount d n L 1 = d 0 5 := by unfold qCount; rw [if_neg (by decide), if_pos rfl]
theorem ask_n2 {d : zM} {n L : Int} : qCount d n L 2 = sCnt d 0 (d 0 5).toNat := by unfold qCount; rw [if_neg (by decide), if_neg (by decide), if_pos rfl]
theorem ask_n3 {d : zM} {n L : Int} : qCount d n L 3 = sCnt d 1 (d 0 5).toNat := by unfold qCount; rw [if_neg (by decide), if_neg (by decide), if_neg (by decide), if_pos rfl]
theorem ask_n4 {d : zM} {n L : Int} : qCount d n L 4 = sAcc d (d 0 4).toNat + 1000000 := by unfold qCount; rw [if_neg (by decide), if_neg (by decide), if_neg (by decide), if_neg (by decide), if_pos rfl]
theorem ask_n5 {d : zM} {n L : Int} : qCount d n L 5 = d 0 6 := by unfold qCount; rw [if_neg (by decide), if_neg (by decide), if_neg (by decide), if_neg (by decide), if_neg (by decide), if_pos rfl]
theorem ask_n6 {d : zM} {n L : Int} : qCount d n L 6 = d 0 7 := by unfold qCount; rw [if_neg (by decide), if_neg (by decide), if_neg (by decide), if_neg (by decide), if_neg (by decide), if_neg (by decide), if_pos rfl]
section ZSAME
variable {Γ : zG} {ω : zO} {own : String} {cc : ByteArray} {nL fr lo : Nat} {rt : Option FieldType} {post : Option Value → zM → Prop} {μ : zM} {pc : Nat} {L : List (Nat × Value)} {st : List Value}
/-- both are the same: no jump -/
theorem z_sameN (h : zC Γ ω own cc nL fr lo rt post) {v1 v2 : Int32} {off : Int} (tgt : Nat) (hv : v1 = v2) (hdg : decode cc pc = .ok (.if_icmp .ne off, 3)) (ht : (pc : Int) + off = (tgt : Int)) (kk : Z Γ ω μ (pc + 3) L st) : Z Γ ω μ pc L (.int v2 :: .int v1 :: st) := by
  obtain ⟨p, l, e, R, s, m, args, below, meth, c, hV, hH0, hnl, hx, hb, hml, hown, hts, hK, hr, hlk, hfr, hlo⟩ := h
  intro H locs ls hH hS hl
  have K := kk H locs ls hH hS hl
  rw [hV] at K ⊢
  exact lv_icmp_ne hx hb hdg ht (fun q => absurd hv q) (fun _ => K)
/-- whether they are the same or not -/
theorem z_anyE (h : zC Γ ω own cc nL fr lo rt post) {v1 v2 : Int32} {off : Int} (tgt : Nat) (hdg : decode cc pc = .ok (.if_icmp .eq off, 3)) (ht : (pc : Int) + off = (tgt : Int)) (kt : Z Γ ω μ tgt L st) (kf : Z Γ ω μ (pc + 3) L st) : Z Γ ω μ pc L (.int v2 :: .int v1 :: st) := by
  obtain ⟨p, l, e, R, s, m, args, below, meth, c, hV, hH0, hnl, hx, hb, hml, hown, hts, hK, hr, hlk, hfr, hlo⟩ := h
  intro H locs ls hH hS hl
  have KT := kt H locs ls hH hS hl
  have KF := kf H locs ls hH hS hl
  rw [hV] at KT KF ⊢
  exact lv_icmp_eq hx hb hdg ht (fun _ => KT) (fun _ => KF)
end ZSAME
