/-! WHAT THE TABLES SAY, AND THE START -/
theorem ln_0 : (.methodLinkNest RX2 32 yX1_init RX7 : Cond) ∈ lw_tbl := List.mem_of_getElem? (i := 38) (by decide +kernel)
theorem ln_1 : (.methodLinkNest RX2 37 yX6_init RX7 : Cond) ∈ lw_tbl := List.mem_of_getElem? (i := 82) (by decide +kernel)
theorem ln_2 : (.methodLinkNest RX2 38 yX0_init RX7 : Cond) ∈ lw_tbl := List.mem_of_getElem? (i := 130) (by decide +kernel)
theorem ln_3 : (.methodLinkNest RX7 28 yX5_init RX7 : Cond) ∈ lw_tbl := List.mem_of_getElem? (i := 241) (by decide +kernel)
theorem ln_4 : (.methodLinkNest RX7 35 yX3_init RX7 : Cond) ∈ lw_tbl := List.mem_of_getElem? (i := 262) (by decide +kernel)
theorem ln_5 : (.methodLinkNest RX2 65 yX7_isPort RX7 : Cond) ∈ lw_tbl := List.mem_of_getElem? (i := 319) (by decide +kernel)
theorem ln_6 : (.methodLinkNest RX2 69 yX7_isIn RX7 : Cond) ∈ lw_tbl := List.mem_of_getElem? (i := 325) (by decide +kernel)
theorem ln_7 : (.methodLinkNest RX2 149 yX7_divideUp RX7 : Cond) ∈ lw_tbl := List.mem_of_getElem? (i := 403) (by decide +kernel)
theorem lo_0 : (.arrayOver (.object RX6) : Cond) ∈ lw_tbl := List.mem_of_getElem? (i := 33) (by decide +kernel)
theorem lo_1 : (.arrayOver (.object RX0) : Cond) ∈ lw_tbl := List.mem_of_getElem? (i := 35) (by decide +kernel)
theorem lo_2 : (.arrayOver (.object RX2) : Cond) ∈ lw_tbl := List.mem_of_getElem? (i := 229) (by decide +kernel)
set_option maxHeartbeats 4000000 in
set_option maxRecDepth 100000 in
/-- what the tables say at the law's entry -/
theorem l_known {s : State} {args : Array Value} (hts0 : ∀ w ∈ lw_tbl, w.before args s = true) : ∃ (G : va_G) (ca : Nat → ClassId), yK G ca s := by
  have hts : ∀ w ∈ AL, w.before args s = true := fun w h => hts0 w (al_in w h)
  obtain ⟨c0, i0, k0⟩ := u_known hts iA_X0 (hts _ qn_X0)
  obtain ⟨c1, i1, k1⟩ := u_known hts iA_X1 (hts _ qn_X1)
  obtain ⟨c2, i2, k2⟩ := u_known hts iA_X2 (hts _ qn_X2)
  obtain ⟨c3, i3, k3⟩ := u_known hts iA_X3 (hts _ qn_X3)
  obtain ⟨c4, i4, k4⟩ := u_known hts iA_X4 (hts _ qn_X4)
  obtain ⟨c5, i5, k5⟩ := u_known hts iA_X5 (hts _ qn_X5)
  obtain ⟨c6, i6, k6⟩ := u_known hts iA_X6 (hts _ qn_X6)
  obtain ⟨c7, i7, k7⟩ := u_known hts iA_X7 (hts _ qn_X7)
  obtain ⟨a0, ka0, co0, x1, x2, x3⟩ := Cond.arrayClass_spec (hts _ qA_int)
  obtain ⟨a1, ka1, co1, y1, y2, y3⟩ := Cond.arrayClass_spec (hts _ qA_char)
  have v0 : va_AO RX6 s := va_AO.of (hts0 _ lo_0)
  have v1 : va_AO RX0 s := va_AO.of (hts0 _ lo_1)
  have v2 : va_AO RX2 s := va_AO.of (hts0 _ lo_2)
  obtain ⟨cp2, a2, ka2, f1, -, f2, f3, f4⟩ := Cond.arrayOver_spec v0
  obtain ⟨cp3, a3, ka3, g1, -, g2, g3, g4⟩ := Cond.arrayOver_spec v1
  obtain ⟨cp4, a4, ka4, h1, -, h2, h3, h4⟩ := Cond.arrayOver_spec v2
  refine ⟨(fun j => match j with | 0 => c0 | 1 => c1 | 2 => c2 | 3 => c3 | 4 => c4 | 5 => c5 | 6 => c6 | _ => c7, fun j => match j with | 0 => i0 | 1 => i1 | 2 => i2 | 3 => i3 | 4 => i4 | 5 => i5 | 6 => i6 | _ => i7), (fun j => match j with | 0 => a0 | 1 => a1 | 2 => a2 | 3 => a3 | _ => a4), ⟨?_, ?_⟩, ?_, v0, v1, v2⟩
  · intro j q hq
    match j, hq with
    | 0, hq => cases hq; exact k0
    | 1, hq => cases hq; exact k1
    | 2, hq => cases hq; exact k2
    | 3, hq => cases hq; exact k3
    | 4, hq => cases hq; exact k4
    | 5, hq => cases hq; exact k5
    | 6, hq => cases hq; exact k6
    | 7, hq => cases hq; exact k7
    | j + 8, hq => simp [zcl] at hq
  · intro j q hq
    match j, hq with
    | 0, hq => cases hq; exact ⟨fun n z => ⟨fun k h => (by cases h), ka0, x2, co0, x3⟩, x1⟩
    | 1, hq => cases hq; exact ⟨fun n z => ⟨fun k h => (by cases h), ka1, y2, co1, y3⟩, y1⟩
    | 2, hq => cases hq; exact ⟨fun n z => ⟨fun k h => (by cases h), ka2, f2, cp2, f3⟩, ka2, cp2, f2, f3, f1, f4⟩
    | 3, hq => cases hq; exact ⟨fun n z => ⟨fun k h => (by cases h), ka3, g2, cp3, g3⟩, ka3, cp3, g2, g3, g1, g4⟩
    | 4, hq => cases hq; exact ⟨fun n z => ⟨fun k h => (by cases h), ka4, h2, cp4, h3⟩, ka4, cp4, h2, h3, h1, h4⟩
    | j + 5, hq => simp [zty] at hq
  · intro w hw
    simp only [zNst, List.mem_cons, List.not_mem_nil, or_false] at hw
    rcases hw with h | h | h | h | h | h | h | h <;> subst h
    · exact va_Nw.of rfl (hts0 _ ln_0)
    · exact va_Nw.of rfl (hts0 _ ln_1)
    · exact va_Nw.of rfl (hts0 _ ln_2)
    · exact va_Nw.of rfl (hts0 _ ln_3)
    · exact va_Nw.of rfl (hts0 _ ln_4)
    · exact va_Nw.of rfl (hts0 _ ln_5)
    · exact va_Nw.of rfl (hts0 _ ln_6)
    · exact va_Nw.of rfl (hts0 _ ln_7)


set_option maxHeartbeats 4000000 in
set_option maxRecDepth 100000 in
/-- YOUR PART: from the entry, for every script of at most 260 ints, the law comes to its end with true -/
theorem whole_start {p : Program} {e : Env} {s : State} {m : MethodId} {below : List Frame} {meth : Method} {c : Code} (l : Launch) (hflags : l.flags = flags0) {b L : Nat} {xs : Nat → Int32} (hL : L ≤ 260) (C0 : lw_At p s m meth c b L xs) : W p l e room_1 s m #[Value.ref b] below meth c s.heap [] 0 0 (lw_Z below #[Value.ref b] s) (entryFrame m ([Value.ref b] : List Value).toArray 18) := by
  obtain ⟨hx, hb, hr, hml, hown, hts0, hX, hbl, hlocks, hgv⟩ := id C0
  have hts : ∀ w ∈ AL, w.before #[Value.ref b] s = true := fun w h => hts0 w (al_in w h)
  obtain ⟨G, ca, hK⟩ := l_known hts0
  have hA : ∀ q : Nat, s.heap.size ≤ q → (fun q : Nat => s.heap.size ≤ q) q := fun _ h => h
  have hS : va_S (fun q : Nat => s.heap.size ≤ q) s.heap s.heap [] := va_S.rf
  have hP : va_P G zcl (fws 0 (fun _ => 0) (fun _ => eFd)) s.heap := fun k q h => absurd (fws_q h).1 (Nat.not_lt_zero k)
  have hD : va_D (fun q : Nat => s.heap.size ≤ q) (fws 0 (fun _ => 0) (fun _ => eFd)) := ⟨fun i j p q h => absurd (fws_q h).1 (Nat.not_lt_zero i), fun k q h => absurd (fws_q h).1 (Nat.not_lt_zero k)⟩
  have hl := lv_entry ([.ref b]) (n := 18) (Nat.le_of_ble_eq_true rfl)
  rw [lg_entry_eq]
  generalize (lg_sl ([.ref b]) ++ List.replicate (18 - (lg_sl ([.ref b])).length) Slot.unset).toArray = ls at hl ⊢
  have hl : lv_has ls 18 [(0, .ref b)] := hl
  refine va_new (ci := 7) (fs := [.null, .null, .null, .null, .null]) (C := RX7) (T := TX7) (N := 5) hx hb hts iA_X7 tyX7 tyX7_ok hown (hts _ qK_L_9) (hts _ qn_X7) (hts _ qi_X7) hK.1 hP hD hS hA rfl (fun j hj => by rcases (show j = 0 ∨ j = 1 ∨ j = 2 ∨ j = 3 ∨ j = 4 by omega) with rfl | rfl | rfl | rfl | rfl <;> rfl) (Nat.le_of_ble_eq_true rfl) (Nat.le_of_ble_eq_true rfl) dL_law_0 (fun q0 H hP hD hS => ?_)
  rw [fws_push] at hP hD
  refine lv_dup hx hb dL_law_3 rfl ?_
  have hH0 : yH G (fun q : Nat => s.heap.size ≤ q) (0 + 1) (va_up (fun _ => 0) 0 q0) (va_up (fun _ => eFd) 0 (.inr (7, [.null, .null, .null, .null, .null]))) H := ⟨hP, hD⟩
  have hF0 := y_free hH0 hS hA
  rw [va_up_s, va_up_s] at hF0
  refine yc_go (va_runI (As := []) (rest := [.ref q0]) ⟨hx, hb, hml, hown, hts⟩ (m_X7_init l G ca q0 H.size) (cwI 0 hts (al_g1 qC_X7_init) rfl rfl rfl (hts _ qi_X7) (hts _ qM_L_39) (hts _ qI_X7_init) rfl (by decide +kernel) ⟨Nat.le_of_ble_eq_true rfl, Nat.le_of_ble_eq_true rfl⟩) ⟨fun a U g mk q => ⟨q.1, q.2.1, q.2.2.1.same (u := U) (U := U.calling g mk a) rfl, q.2.2.2⟩, fun U hU hW => ⟨rfl, by rw [hU], hK.warm hW, by rw [hU]; have := y_P1 hH0; rw [va_up_s, va_up_s] at this; exact this⟩⟩ rfl rfl hl.1 rfl (lv_room (Nat.le_of_ble_eq_true rfl)) dL_law_4 ⟨Nat.le_of_ble_eq_true rfl, Nat.le_of_ble_eq_true rfl⟩) hS hF0 (fun α2 H1 locs1 hα2 h2 hz1 hk1 hS => ?_)
  refine lv_astore_n (lv' := [(1, .ref q0), (0, .ref b)]) hx hb dL_law_7 rfl hl (by decide) rfl (fun ls hl => ?_)
  have hD := h2.2.weaken (B := fun q : Nat => s.heap.size ≤ q) (fun k q hk hq => hF0 _ hq)
  have j1 : yH G (fun q : Nat => s.heap.size ≤ q) 163 α2 (eMain ca F5 α2) H1 := ⟨h2.1, hD⟩
  have hcls := mk_class j1
  have e1 : adO α2 156 = q0 := hα2
  have in1 : ∀ q : Nat, cA (adO α2) 163 q → ∃ k : Nat, k < 163 ∧ q = α2 k := by
    rintro q ⟨c9, hc9, rfl⟩
    have hr9 := plI_r (c := c9) (by omega)
    exact ⟨(plI c9).toNat, by omega, rfl⟩
  have hC : xC (fun H locs pc ls st => W p l e room_1 s m #[Value.ref b] below meth c H locs 163 1412 (lw_Z below #[Value.ref b] s) (F0 m pc ls st), s.heap, fun q : Nat => s.heap.size ≤ q, 18) G ca (adO α2) b L xs := by
    refine ⟨p, l, e, s, m, below, meth, c, rfl, rfl, rfl, rfl, hx, hb, hml, hown, hts, hK, hX, hbl, hL, fun q hq => ?_, hr, hlocks⟩
    obtain ⟨k, hk, rfl⟩ := in1 q hq
    exact j1.2.2 k _ (fws_at hk)
  refine W.widen (k := 163) (n := 1412) (Nat.le_of_ble_eq_true rfl) (Nat.le_of_ble_eq_true rfl) ?_
  have hl9 : zL ls 18 [(1, .ref (adO α2 156)), (0, .ref b)] := by
    rw [e1]
    exact zL.of hl
  exact law_go hC stt0 H1 _ ls hcls hS hl9
