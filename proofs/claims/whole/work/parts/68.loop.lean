/-! THE LAW'S LOOP AND ITS START -/

set_option maxHeartbeats 4000000 in
set_option maxRecDepth 100000 in
theorem law_loop {Γ : zG} {G : va_G} {ca : Nat → ClassId} {ac ar : Int → Nat} {b Lx : Nat} {xs : Nat → Int32} (hC : xC Γ G ca ac ar b Lx xs) (hLx : Lx ≤ 3584) : ∀ (r : Nat) (i : Int) (μ ν : zM), 0 ≤ i → i ≤ 4000 → (Lx : Int) < i + 7 * ((r : Int) + 1) → zBoth μ ν → X Γ G ca ac ar μ ν 18 [(3, .int (iZ i)), (2, .ref (ar 0)), (1, .ref (ac 156)), (0, .ref b)] [] := by
  intro r
  induction r with
  | zero =>
    intro i μ ν h0 h4 hr hB
    refine x_iload_n hC dL_law_18 rfl ?_
    refine x_aload_n hC dL_law_19 rfl ?_
    refine x_alen hC dL_law_20 ?_
    refine x_bipush hC dL_law_21 (by decide) ?_
    refine x_isub hC dL_law_23 ?_
    refine x_icmp_gt hC 820 dL_law_24 (by decide) (by omega) (by omega) (fun c_1 => ?_) (fun c_1 => ?_)
    rotate_left
    · exfalso; omega
    refine x_iconst hC dL_law_820 ?_
    exact x_end hC dL_law_821
  | succ r ih =>
    intro i μ ν h0 h4 hr hB
    refine x_iload_n hC dL_law_18 rfl ?_
    refine x_aload_n hC dL_law_19 rfl ?_
    refine x_alen hC dL_law_20 ?_
    refine x_bipush hC dL_law_21 (by decide) ?_
    refine x_isub hC dL_law_23 ?_
    refine x_icmp_gt hC 820 dL_law_24 (by decide) (by omega) (by omega) (fun c_1 => ?_) (fun c_1 => ?_)
    · refine x_iconst hC dL_law_820 ?_
      exact x_end hC dL_law_821
    have hi : 0 ≤ i ∧ i + 7 ≤ (Lx : Int) := by omega
    have kk : ∀ μ' ν' : zM, zBoth μ' ν' → X Γ G ca ac ar μ' ν' 814 [(3, .int (iZ i)), (2, .ref (ar 0)), (1, .ref (ac 156)), (0, .ref b)] [] := by
      intro μ' ν' hB'
      refine x_iinc hC dL_law_814 rfl (by decide) rfl ?_
      refine x_goto hC 18 dL_law_817 (by decide) ?_
      refine x_weak (L' := [(3, .int (iZ (i + 7))), (2, .ref (ar 0)), (1, .ref (ac 156)), (0, .ref b)]) ⟨rfl, rfl, rfl, rfl, trivial⟩ ?_
      exact ih (i + 7) μ' ν' (by omega) (by omega) (by omega) hB'
    refine x_aload_n hC dL_law_27 rfl ?_
    refine x_iload_n hC dL_law_28 rfl ?_
    refine x_ald hC (by omega) (by omega) dL_law_29 ?_
    refine x_bipush hC dL_law_30 (by decide) ?_
    refine x_iand hC dL_law_32 ?_
    refine x_any (fun z hz => ?_)
    rcases (show z = 0 ∨ z = 1 ∨ z = 2 ∨ z = 3 ∨ z = 4 ∨ z = 5 ∨ z = 6 ∨ z = 7 ∨ z = 8 ∨ z = 9 ∨ z = 10 ∨ z = 11 ∨ z = 12 ∨ z = 13 ∨ z = 14 ∨ z = 15 ∨ z = 16 ∨ z = 17 ∨ z = 18 ∨ z = 19 ∨ z = 20 ∨ z = 21 ∨ (z < 0 ∨ 21 < z) by omega) with w | w | w | w | w | w | w | w | w | w | w | w | w | w | w | w | w | w | w | w | w | w | w
    · refine x_tableIn hC 136 dL_law_33 (by omega) (by omega) (by omega) (by rw [w]; rfl) (by decide) ?_
      exact law_port hC hLx hi hB kk
    · refine x_tableIn hC 179 dL_law_33 (by omega) (by omega) (by omega) (by rw [w]; rfl) (by decide) ?_
      exact law_ship hC hLx hi hB kk
    · refine x_tableIn hC 242 dL_law_33 (by omega) (by omega) (by omega) (by rw [w]; rfl) (by decide) ?_
      exact law_cargo hC hLx hi hB kk
    · refine x_tableIn hC 317 dL_law_33 (by omega) (by omega) (by omega) (by rw [w]; rfl) (by decide) ?_
      exact law_fix hC hLx hi hB kk
    · refine x_tableIn hC 350 dL_law_33 (by omega) (by omega) (by omega) (by rw [w]; rfl) (by decide) ?_
      exact law_delay hC hLx hi hB kk
    · refine x_tableIn hC 383 dL_law_33 (by omega) (by omega) (by omega) (by rw [w]; rfl) (by decide) ?_
      exact law_callOff hC hLx hi hB kk
    · refine x_tableIn hC 406 dL_law_33 (by omega) (by omega) (by omega) (by rw [w]; rfl) (by decide) ?_
      exact law_settle hC hLx hi hB kk
    · refine x_tableIn hC 429 dL_law_33 (by omega) (by omega) (by omega) (by rw [w]; rfl) (by decide) ?_
      exact law_shipOf hC hLx hi hB kk
    · refine x_tableIn hC 462 dL_law_33 (by omega) (by omega) (by omega) (by rw [w]; rfl) (by decide) ?_
      exact law_cargoOf hC hLx hi hB kk
    · refine x_tableIn hC 495 dL_law_33 (by omega) (by omega) (by omega) (by rw [w]; rfl) (by decide) ?_
      exact law_fixtureOf hC hLx hi hB kk
    · refine x_tableIn hC 538 dL_law_33 (by omega) (by omega) (by omega) (by rw [w]; rfl) (by decide) ?_
      exact law_distance hC hLx hi hB kk
    · refine x_tableIn hC 571 dL_law_33 (by omega) (by omega) (by omega) (by rw [w]; rfl) (by decide) ?_
      exact law_voyage hC hLx hi hB kk
    · refine x_tableIn hC 614 dL_law_33 (by omega) (by omega) (by omega) (by rw [w]; rfl) (by decide) ?_
      exact law_bestCargo hC hLx hi hB kk
    · refine x_tableIn hC 637 dL_law_33 (by omega) (by omega) (by omega) (by rw [w]; rfl) (by decide) ?_
      exact law_bestShip hC hLx hi hB kk
    · refine x_tableIn hC 660 dL_law_33 (by omega) (by omega) (by omega) (by rw [w]; rfl) (by decide) ?_
      exact law_plan hC hLx hi hB kk
    · refine x_tableIn hC 683 dL_law_33 (by omega) (by omega) (by omega) (by rw [w]; rfl) (by decide) ?_
      exact law_slack hC hLx hi hB kk
    · refine x_tableIn hC 706 dL_law_33 (by omega) (by omega) (by omega) (by rw [w]; rfl) (by decide) ?_
      exact law_count hC hLx hi hB kk
    · refine x_tableIn hC 729 dL_law_33 (by omega) (by omega) (by omega) (by rw [w]; rfl) (by decide) ?_
      exact law_undo hC hLx hi hB kk
    · refine x_tableIn hC 742 dL_law_33 (by omega) (by omega) (by omega) (by rw [w]; rfl) (by decide) ?_
      exact law_type hC hLx hi hB kk
    · refine x_tableIn hC 765 dL_law_33 (by omega) (by omega) (by omega) (by rw [w]; rfl) (by decide) ?_
      exact law_clearText hC hLx hi hB kk
    · refine x_tableIn hC 778 dL_law_33 (by omega) (by omega) (by omega) (by rw [w]; rfl) (by decide) ?_
      exact law_fault hC hLx hi hB kk
    · refine x_tableIn hC 801 dL_law_33 (by omega) (by omega) (by omega) (by rw [w]; rfl) (by decide) ?_
      exact law_play hC hLx hi hB kk
    · refine x_tableOut hC 814 dL_law_33 (by omega) w (by decide) ?_
      exact kk _ _ hB

theorem ln_0 : (.methodLinkNest RX2 32 yX1_init RX7 : Cond) ∈ lw_tbl := List.mem_of_getElem? (i := 69) (by decide +kernel)

theorem ln_1 : (.methodLinkNest RX2 37 yX6_init RX7 : Cond) ∈ lw_tbl := List.mem_of_getElem? (i := 113) (by decide +kernel)

theorem ln_2 : (.methodLinkNest RX2 38 yX0_init RX7 : Cond) ∈ lw_tbl := List.mem_of_getElem? (i := 161) (by decide +kernel)

theorem ln_3 : (.methodLinkNest RX7 28 yX5_init RX7 : Cond) ∈ lw_tbl := List.mem_of_getElem? (i := 272) (by decide +kernel)

theorem ln_4 : (.methodLinkNest RX7 35 yX3_init RX7 : Cond) ∈ lw_tbl := List.mem_of_getElem? (i := 299) (by decide +kernel)

theorem ln_5 : (.methodLinkNest RX2 65 yX7_isPort RX7 : Cond) ∈ lw_tbl := List.mem_of_getElem? (i := 363) (by decide +kernel)

theorem ln_6 : (.methodLinkNest RX2 69 yX7_isIn RX7 : Cond) ∈ lw_tbl := List.mem_of_getElem? (i := 369) (by decide +kernel)

theorem ln_7 : (.methodLinkNest RX2 149 yX7_divideUp RX7 : Cond) ∈ lw_tbl := List.mem_of_getElem? (i := 447) (by decide +kernel)

theorem ln_8 : (.methodLinkNest RX5 42 yX7_isIn RX7 : Cond) ∈ lw_tbl := List.mem_of_getElem? (i := 626) (by decide +kernel)

theorem lo_0 : (.arrayOver (.object RX6) : Cond) ∈ lw_tbl := List.mem_of_getElem? (i := 64) (by decide +kernel)

theorem lo_1 : (.arrayOver (.object RX0) : Cond) ∈ lw_tbl := List.mem_of_getElem? (i := 66) (by decide +kernel)

theorem lo_2 : (.arrayOver (.object RX2) : Cond) ∈ lw_tbl := List.mem_of_getElem? (i := 260) (by decide +kernel)

set_option maxHeartbeats 4000000 in
set_option maxRecDepth 100000 in
/-- what the tables say at the law's entry -/
theorem l_known {s : State} {args : Array Value} (hts0 : ∀ w ∈ lw_tbl, w.before args s = true) : ∃ (G : va_G) (ca : Nat → ClassId), yK G ca s := by
  have hts : ∀ w ∈ AL, w.before args s = true := fun w h => hts0 w (al_in w h)
  obtain ⟨c0, i0, k0⟩ := u_known hts iA_X0 (hts _ qn_X0)
  obtain ⟨c1, i1, k1⟩ := u_known hts iA_X1 (hts _ qn_X1)
  obtain ⟨c2, i2, k2⟩ := u_known hts iA_X2 (hts _ qn_X2)
  obtain ⟨c3, i3, k3⟩ := u_known hts iA_X3 (hts _ qn_X3)
  obtain ⟨c4, i4, k4⟩ := u_known hts iA_X4 (hts _ qn_X4)
  obtain ⟨c5, i5, k5⟩ := u_known hts iA_X5 (hts _ qn_X5)
  obtain ⟨c6, i6, k6⟩ := u_known hts iA_X6 (hts _ qn_X6)
  obtain ⟨c7, i7, k7⟩ := u_known hts iA_X7 (hts _ qn_X7)
  obtain ⟨c8, i8, k8⟩ := u_known hts iA_X8 (hts _ qn_X8)
  obtain ⟨a0, ka0, co0, x1, x2, x3⟩ := Cond.arrayClass_spec (hts _ qA_int)
  obtain ⟨a1, ka1, co1, y1, y2, y3⟩ := Cond.arrayClass_spec (hts _ qA_char)
  have v0 : va_AO RX6 s := va_AO.of (hts0 _ lo_0)
  have v1 : va_AO RX0 s := va_AO.of (hts0 _ lo_1)
  have v2 : va_AO RX2 s := va_AO.of (hts0 _ lo_2)
  obtain ⟨cp2, a2, ka2, f1, -, f2, f3, f4⟩ := Cond.arrayOver_spec v0
  obtain ⟨cp3, a3, ka3, g1, -, g2, g3, g4⟩ := Cond.arrayOver_spec v1
  obtain ⟨cp4, a4, ka4, h1, -, h2, h3, h4⟩ := Cond.arrayOver_spec v2
  refine ⟨(fun j => match j with | 0 => c0 | 1 => c1 | 2 => c2 | 3 => c3 | 4 => c4 | 5 => c5 | 6 => c6 | 7 => c7 | _ => c8, fun j => match j with | 0 => i0 | 1 => i1 | 2 => i2 | 3 => i3 | 4 => i4 | 5 => i5 | 6 => i6 | 7 => i7 | _ => i8), (fun j => match j with | 0 => a0 | 1 => a1 | 2 => a2 | 3 => a3 | _ => a4), ⟨?_, ?_⟩, ?_, v0, v1, v2⟩
  · intro j q hq
    match j, hq with
    | 0, hq => cases hq; exact k0
    | 1, hq => cases hq; exact k1
    | 2, hq => cases hq; exact k2
    | 3, hq => cases hq; exact k3
    | 4, hq => cases hq; exact k4
    | 5, hq => cases hq; exact k5
    | 6, hq => cases hq; exact k6
    | 7, hq => cases hq; exact k7
    | 8, hq => cases hq; exact k8
    | j + 9, hq => simp [zcl] at hq
  · intro j q hq
    match j, hq with
    | 0, hq => cases hq; exact ⟨fun n z => ⟨fun k h => (by cases h), ka0, x2, co0, x3⟩, x1⟩
    | 1, hq => cases hq; exact ⟨fun n z => ⟨fun k h => (by cases h), ka1, y2, co1, y3⟩, y1⟩
    | 2, hq => cases hq; exact ⟨fun n z => ⟨fun k h => (by cases h), ka2, f2, cp2, f3⟩, ka2, cp2, f2, f3, f1, f4⟩
    | 3, hq => cases hq; exact ⟨fun n z => ⟨fun k h => (by cases h), ka3, g2, cp3, g3⟩, ka3, cp3, g2, g3, g1, g4⟩
    | 4, hq => cases hq; exact ⟨fun n z => ⟨fun k h => (by cases h), ka4, h2, cp4, h3⟩, ka4, cp4, h2, h3, h1, h4⟩
    | j + 5, hq => simp [zty] at hq
  · intro w hw
    simp only [zNst, List.mem_cons, List.not_mem_nil, or_false] at hw
    rcases hw with h | h | h | h | h | h | h | h | h <;> subst h
    · exact va_Nw.of rfl (hts0 _ ln_0)
    · exact va_Nw.of rfl (hts0 _ ln_1)
    · exact va_Nw.of rfl (hts0 _ ln_2)
    · exact va_Nw.of rfl (hts0 _ ln_3)
    · exact va_Nw.of rfl (hts0 _ ln_4)
    · exact va_Nw.of rfl (hts0 _ ln_5)
    · exact va_Nw.of rfl (hts0 _ ln_6)
    · exact va_Nw.of rfl (hts0 _ ln_7)
    · exact va_Nw.of rfl (hts0 _ ln_8)

theorem yH.fst {G : va_G} {A : Nat → Prop} {n m : Nat} {α α' : Nat → Nat} {ε ε' : Nat → va_E} {H : Heap} (q : yH G A (n + m) α ε H) (h : ∀ k, k < n → α k = α' k ∧ ε k = ε' k) : yH G A n α' ε' H := by
  have at' : ∀ (k : Nat) (p : Nat × va_E), (fws n α' ε')[k]? = some p → (fws (n + m) α ε)[k]? = some p := by
    intro k p hp
    obtain ⟨hk, rfl⟩ := fws_q hp
    rw [fws_at (by omega), (h k hk).1, (h k hk).2]
  exact ⟨fun k p hp => q.1 k p (at' k p hp), fun i j p p' hi hj e => q.2.1 i j p p' (at' i p hi) (at' j p' hj) e, fun k p hp => q.2.2 k p (at' k p hp)⟩
theorem yH.snd {G : va_G} {A : Nat → Prop} {n m : Nat} {α α' : Nat → Nat} {ε ε' : Nat → va_E} {H : Heap} (q : yH G A (n + m) α ε H) (h : ∀ k, k < m → α (n + k) = α' k ∧ ε (n + k) = ε' k) : yH G A m α' ε' H := by
  have at' : ∀ (k : Nat) (p : Nat × va_E), (fws m α' ε')[k]? = some p → (fws (n + m) α ε)[n + k]? = some p := by
    intro k p hp
    obtain ⟨hk, rfl⟩ := fws_q hp
    rw [fws_at (by omega), (h k hk).1, (h k hk).2]
  exact ⟨fun k p hp => q.1 (n + k) p (at' k p hp), fun i j p p' hi hj e => by have := q.2.1 (n + i) (n + j) p p' (at' i p hi) (at' j p' hj) e; omega, fun k p hp => q.2.2 (n + k) p (at' k p hp)⟩

set_option maxHeartbeats 4000000 in
set_option maxRecDepth 100000 in
/-- YOUR PART: from the entry, for every script of at most 3584 ints, the law comes to its end with true -/
theorem whole_start {p : Program} {e : Env} {s : State} {m : MethodId} {below : List Frame} {meth : Method} {c : Code} (l : Launch) (hflags : l.flags = flags0) {b L : Nat} {xs : Nat → Int32} (hL : L ≤ 3584) (C0 : lw_At p s m meth c b L xs) : W p l e room_1 s m #[Value.ref b] below meth c s.heap [] 0 0 (lw_Z below #[Value.ref b] s) (entryFrame m ([Value.ref b] : List Value).toArray 4) := by
  obtain ⟨hx, hb, hr, hml, hown, hts0, hX, hbl, hlocks, hgv⟩ := id C0
  have hts : ∀ w ∈ AL, w.before #[Value.ref b] s = true := fun w h => hts0 w (al_in w h)
  obtain ⟨G, ca, hK⟩ := l_known hts0
  have hA : ∀ q : Nat, s.heap.size ≤ q → (fun q : Nat => s.heap.size ≤ q) q := fun _ h => h
  have hS : va_S (fun q : Nat => s.heap.size ≤ q) s.heap s.heap [] := va_S.rf
  have hP : va_P G zcl (fws 0 (fun _ => 0) (fun _ => eFd)) s.heap := fun k q h => absurd (fws_q h).1 (Nat.not_lt_zero k)
  have hD : va_D (fun q : Nat => s.heap.size ≤ q) (fws 0 (fun _ => 0) (fun _ => eFd)) := ⟨fun i j p q h => absurd (fws_q h).1 (Nat.not_lt_zero i), fun k q h => absurd (fws_q h).1 (Nat.not_lt_zero k)⟩
  have hl := lv_entry ([.ref b]) (n := 4) (Nat.le_of_ble_eq_true rfl)
  rw [lg_entry_eq]
  generalize (lg_sl ([.ref b]) ++ List.replicate (4 - (lg_sl ([.ref b])).length) Slot.unset).toArray = ls at hl ⊢
  have hl : lv_has ls 4 [(0, .ref b)] := hl
  -- the class's object
  refine va_new (ci := 7) (fs := [.null, .null, .null, .null, .null]) (C := RX7) (T := TX7) (N := 5) hx hb hts iA_X7 tyX7 tyX7_ok hown (hts _ qK_L_7) (hts _ qn_X7) (hts _ qi_X7) hK.1 hP hD hS hA rfl (fun j hj => by rcases (show j = 0 ∨ j = 1 ∨ j = 2 ∨ j = 3 ∨ j = 4 by omega) with rfl | rfl | rfl | rfl | rfl <;> rfl) (Nat.le_of_ble_eq_true rfl) (Nat.le_of_ble_eq_true rfl) dL_law_0 (fun q0 H hP hD hS => ?_)
  rw [fws_push] at hP hD
  refine lv_dup hx hb dL_law_3 rfl ?_
  have hH0 : yH G (fun q : Nat => s.heap.size ≤ q) (0 + 1) (va_up (fun _ => 0) 0 q0) (va_up (fun _ => eFd) 0 (.inr (7, [.null, .null, .null, .null, .null]))) H := ⟨hP, hD⟩
  have hF0 := y_free hH0 hS hA
  rw [va_up_s, va_up_s] at hF0
  refine yc_go (va_runI (As := []) (rest := [.ref q0]) ⟨hx, hb, hml, hown, hts⟩ (m_X7_init l G ca q0 H.size) (cwI 0 hts (al_g1 qC_X7_init) rfl rfl rfl (hts _ qi_X7) (hts _ qM_L_9) (hts _ qI_X7_init) rfl (by decide +kernel) ⟨Nat.le_of_ble_eq_true rfl, Nat.le_of_ble_eq_true rfl⟩) ⟨fun a U g mk q => ⟨q.1, q.2.1, q.2.2.1.same (u := U) (U := U.calling g mk a) rfl, q.2.2.2⟩, fun U hU hW => ⟨rfl, by rw [hU], hK.warm hW, by rw [hU]; have := y_P1 hH0; rw [va_up_s, va_up_s] at this; exact this⟩⟩ rfl rfl hl.1 rfl (lv_room (Nat.le_of_ble_eq_true rfl)) dL_law_4 ⟨Nat.le_of_ble_eq_true rfl, Nat.le_of_ble_eq_true rfl⟩) hS hF0 (fun α2 H1 locs1 hα2 h2 hz1 hk1 hS => ?_)
  have hP := h2.1
  have hD := h2.2.weaken (B := fun q : Nat => s.heap.size ≤ q) (fun k q hk hq => hF0 _ hq)
  refine lv_astore_n (lv' := [(1, .ref q0), (0, .ref b)]) hx hb dL_law_7 rfl hl (by decide) rfl (fun ls hl => ?_)
  -- the reference's object
  refine va_new (ci := 8) (fs := [.null, vz, .null, vz, vz, vz, vz, .null, vz, vz, vz, vz, vz, vz, vz, vz]) (C := RX8) (T := TX8) (N := 16) hx hb hts iA_X8 tyX8 tyX8_ok hown (hts _ qK_L_10) (hts _ qn_X8) (hts _ qi_X8) hK.1 hP hD hS hA rfl (fun j hj => by rcases (show j = 0 ∨ j = 1 ∨ j = 2 ∨ j = 3 ∨ j = 4 ∨ j = 5 ∨ j = 6 ∨ j = 7 ∨ j = 8 ∨ j = 9 ∨ j = 10 ∨ j = 11 ∨ j = 12 ∨ j = 13 ∨ j = 14 ∨ j = 15 by omega) with rfl | rfl | rfl | rfl | rfl | rfl | rfl | rfl | rfl | rfl | rfl | rfl | rfl | rfl | rfl | rfl <;> rfl) (Nat.le_of_ble_eq_true rfl) (Nat.le_of_ble_eq_true rfl) dL_law_8 (fun q1 H2 hP hD hS => ?_)
  rw [fws_push] at hP hD
  refine lv_dup hx hb dL_law_11 rfl ?_
  have hH2 : yH G (fun q : Nat => s.heap.size ≤ q) (163 + 1) (va_up α2 163 q1) (va_up (eMain ca F5 α2) 163 (.inr (8, [.null, vz, .null, vz, vz, vz, vz, .null, vz, vz, vz, vz, vz, vz, vz, vz]))) H2 := ⟨hP, hD⟩
  have hF2 := y_free hH2 hS hA
  have hF2' := hF2
  rw [va_up_s, va_up_s] at hF2'
  refine yc_go (va_runI (As := []) (rest := [.ref q1]) ⟨hx, hb, hml, hown, hts⟩ (m_X8_init l G ca q1 H2.size) (cwI 0 hts (al_g1 qC_X8_init) rfl rfl rfl (hts _ qi_X8) (hts _ qM_L_12) (hts _ qI_X8_init) rfl (by decide +kernel) ⟨Nat.le_of_ble_eq_true rfl, Nat.le_of_ble_eq_true rfl⟩) ⟨fun a U g mk q => ⟨q.1, q.2.1, q.2.2.1.same (u := U) (U := U.calling g mk a) rfl, q.2.2.2⟩, fun U hU hW => ⟨rfl, by rw [hU], hK.warm hW, by rw [hU]; have := y_P1 hH2; rw [va_up_s, va_up_s] at this; exact this⟩⟩ rfl rfl hl.1 rfl (lv_room (Nat.le_of_ble_eq_true rfl)) dL_law_12 ⟨Nat.le_of_ble_eq_true rfl, Nat.le_of_ble_eq_true rfl⟩) hS hF2' (fun α4 H3 locs3 hα4 h4 hz3 hk3 hS => ?_)
  have hJ := y_join (n := 163) (ε2 := eRef ca 8 α4) (n2 := 4) (α2 := α4) hH2 hF2 (by rw [va_up_s, va_up_s]; exact h4) (by rw [va_up_s, va_up_s]; exact hk3)
  refine lv_astore_n (lv' := [(2, .ref q1), (1, .ref q0), (0, .ref b)]) hx hb dL_law_15 rfl hl (by decide) rfl (fun ls hl => ?_)
  refine lv_iconst (v := 0) hx hb dL_law_16 (by decide) ?_
  refine lv_istore_n (lv' := [(3, .int 0), (2, .ref q1), (1, .ref q0), (0, .ref b)]) hx hb dL_law_17 rfl hl (by decide) rfl (fun ls hl => ?_)
  have j1 : yH G (fun q : Nat => s.heap.size ≤ q) 163 α2 (eMain ca F5 α2) H3 := hJ.fst (fun k hk => ⟨by rw [if_pos hk, va_up_n (by omega)], by rw [if_pos hk, va_up_n (by omega)]⟩)
  have j2 : yH G (fun q : Nat => s.heap.size ≤ q) 4 α4 (eRef ca 8 α4) H3 := hJ.snd (fun k hk => ⟨by rw [if_neg (by omega)]; congr 1; omega, by rw [if_neg (by omega)]; congr 1; omega⟩)
  have hcls := mk_class j1
  have href := mk_ref j2
  have e1 : adO α2 156 = q0 := hα2
  have e2 : adR α4 0 = q1 := hα4
  have in1 : ∀ q : Nat, cA (adO α2) 163 q → ∃ k : Nat, k < 163 ∧ q = α2 k := by
    rintro q ⟨c9, hc9, rfl⟩
    have hr9 := plI_r (c := c9) (by omega)
    exact ⟨(plI c9).toNat, by omega, rfl⟩
  have in2 : ∀ q : Nat, cA (adR α4) 4 q → ∃ k : Nat, k < 4 ∧ q = α4 k := by
    rintro q ⟨c9, hc9, rfl⟩
    exact ⟨c9.toNat, by omega, rfl⟩
  have hC : xC (fun H locs pc ls st => W p l e room_1 s m #[Value.ref b] below meth c H locs 167 2824 (lw_Z below #[Value.ref b] s) (F0 m pc ls st), s.heap, fun q : Nat => s.heap.size ≤ q, 4) G ca (adO α2) (adR α4) b L xs := by
    refine ⟨p, l, e, s, m, below, meth, c, rfl, rfl, rfl, rfl, hx, hb, hml, hown, hts, hK, hX, hbl, hL, fun q hq => ?_, fun q hq => ?_, fun q hq hq2 => ?_, hr, hlocks⟩
    · obtain ⟨k, hk, rfl⟩ := in1 q hq
      exact j1.2.2 k _ (fws_at hk)
    · obtain ⟨k, hk, rfl⟩ := in2 q hq
      exact j2.2.2 k _ (fws_at hk)
    · obtain ⟨k, hk, rfl⟩ := in1 q hq
      obtain ⟨k2, hk2, hq3⟩ := in2 _ hq2
      have := hJ.2.1 k (163 + k2) _ _ (fws_at (by omega)) (fws_at (by omega)) (by
        show (if k < 163 then va_up α2 163 q1 k else α4 (k - 163)) = (if 163 + k2 < 163 then va_up α2 163 q1 (163 + k2) else α4 (163 + k2 - 163))
        rw [if_pos hk, va_up_n (by omega), if_neg (by omega), hq3]
        congr 1
        omega)
      omega
  refine W.widen (k := 167) (n := 2824) (Nat.le_of_ble_eq_true rfl) (Nat.le_of_ble_eq_true rfl) ?_
  have hl9 : zL ls 4 [(3, .int (iZ 0)), (2, .ref (adR α4 0)), (1, .ref (adO α2 156)), (0, .ref b)] := by
    rw [e1, e2]
    exact zL.of hl
  exact law_loop hC hL L 0 mu0 nu0 (by omega) (by omega) (by omega) both0 H3 _ ls hcls href hS hl9
