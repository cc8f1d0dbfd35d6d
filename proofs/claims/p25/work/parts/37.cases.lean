/-! THE LAW'S CASES -/
theorem fx_6 {d D : zM} {k c r : Int} (hk : 0 ≤ k ∧ k < d 0 4) (hc : 0 ≤ c ∧ c < d 0 5) (h5 : d 0 4 ≤ 5) (h : d (16 + c) 6 = 0 ∧ sCould d k c = 0) (hR : opFix d k c = (r, D)) : D (6 + k) 6 = d (6 + k) 6 + 1 ∧ r = sFree d k c (sEnd d k).1 (sEnd d k).2.1 := by
  have e := hR.symm.trans (fx_ok hk hc h)
  have e1 : r = sFree d k c (sEnd d k).1 (sEnd d k).2.1 := congrArg Prod.fst e
  have e2 : D = zup (zup (zup (zup d (11 + k) (d (6 + k) 6) c) (6 + k) 6 (d (6 + k) 6 + 1)) (16 + c) 6 1) (16 + c) 7 k := congrArg Prod.snd e
  refine ⟨?_, e1⟩
  rw [e2, zup_n (by omega), zup_n (by omega), zup_s]

set_option maxHeartbeats 4000000 in
set_option maxRecDepth 100000 in
/-- case 0: a delay -/
theorem law_delay {Γ : zG} {G : va_G} {ca : Nat → ClassId} {ac : Int → Nat} {b Lx : Nat} {xs : Nat → Int32} (hC : xC Γ G ca ac b Lx xs) {μ d : zM} {n : Int} {h : Int → zM} {L9 : Int} {t : Int → Int} (hX : zSt μ d n h L9 t) (hI2 : zIn2 d) {S C : Int} (hS4 : d 0 4 = S) (hC5 : d 0 5 = C) {y k c i : Int} (hy : 0 ≤ y ∧ y ≤ 2147483647) (hk0 : 0 ≤ k ∧ k < S) (hc0 : 0 ≤ c ∧ c < C)  (kk : ∀ (μ9 d9 : zM) (n9 : Int) (h9 : Int → zM), zSt μ9 d9 n9 h9 L9 t → zIn2 d9 → d9 0 4 = S → d9 0 5 = C → X Γ G ca ac μ9 978 [(5, .int (iZ i)), (4, .int (iZ C)), (3, .int (iZ S)), (2, .int (iZ 1)), (1, .ref (ac 156)), (0, .ref b)] []) : X Γ G ca ac μ 360 [(9, .int (iZ (d (6 + k) 6))), (8, .int (iZ c)), (7, .int (iZ k)), (6, .int (iZ y)), (5, .int (iZ i)), (4, .int (iZ C)), (3, .int (iZ S)), (2, .int (iZ 1)), (1, .ref (ac 156)), (0, .ref b)] [] := by
  have hI : zInv d := hI2.1
  obtain ⟨hB, _⟩ := id hI
  obtain ⟨hN, hP, hB3, hB4⟩ := id hB
  obtain ⟨hN1, hN2⟩ := id hN
  have hk : 0 ≤ k ∧ k < d 0 4 := by omega
  obtain ⟨hs0, hs1, hs2, hs3, hs4, hs6⟩ := hB3 k hk
  have hNe := sNum_e (d := d) (k := k) hs6.1
  have hG := zInv_G hI k hk
  refine x_aload_n hC dL_law_360 rfl ?_
  refine x_iconst hC dL_law_361 ?_
  refine x_callV hC [.int (iZ 5)] 1 rfl dL_law_362 (fun l => m_X7_count l G ca ac (cA ac 163) μ d n h L9 t hX (hI2).1 5 (by omega)) qM_L_30 qI_X7_count qS_X7_count qi_X7 qC_X7_count (by decide +kernel) (by decide) (by decide) rfl (Nat.le_of_ble_eq_true rfl) (xk (fun μ1 hμ1 => ?_)) rfl
  refine x_top (b9 := d 0 6) (ask_n5) ?_
  refine x_istore hC dL_law_365 (by decide) rfl ?_
  refine x_iconst hC dL_law_367 ?_
  refine x_iload hC dL_law_368 rfl ?_
  refine x_sipush hC dL_law_370 (by decide) ?_
  refine x_idiv hC dL_law_373 (by omega) (by omega) ?_
  refine x_bipush hC dL_law_374 (by decide) ?_
  refine x_irem hC dL_law_376 (by omega) (by omega) ?_
  refine x_iadd hC dL_law_377 ?_
  refine x_topn (fun v hv => ?_)
  have hvr : 1 ≤ v ∧ v ≤ 99 := by omega
  have hsl := (sWL_b hB hk hG (sNum d k) (Nat.le_refl _)).2
  refine x_istore hC dL_law_378 (by decide) rfl ?_
  refine x_aload_n hC dL_law_380 rfl ?_
  refine x_iload hC dL_law_381 rfl ?_
  refine x_callV hC [.int (iZ k)] 1 rfl dL_law_383 (fun l => m_X7_slack l G ca ac (cA ac 163) μ1 d n h L9 t hμ1 (hI2).1 k (by omega)) qM_L_26 qI_X7_slack qS_X7_slack qi_X7 qC_X7_slack (by decide +kernel) (by decide) (by decide) rfl (Nat.le_of_ble_eq_true rfl) (xk (fun μ2 hμ2 => ?_)) rfl
  refine x_top (b9 := sL d k (sNum d k)) (ask_k (by omega)) ?_
  refine x_istore hC dL_law_386 (by decide) rfl ?_
  refine x_aload_n hC dL_law_388 rfl ?_
  refine x_iload hC dL_law_389 rfl ?_
  refine x_iload hC dL_law_391 rfl ?_
  refine x_callV hC [.int (iZ k), .int (iZ v)] 2 rfl dL_law_393 (fun l => m_X7_delay l G ca ac (cA ac 163) μ2 d n h L9 t hμ2 (hI2).1 k v (by omega) (by omega) (inv_delay (hI2).1 k v).2.1) qM_L_58 qI_X7_delay qS_X7_delay qi_X7 qC_X7_delay (by decide +kernel) (by decide) (by decide) rfl (Nat.le_of_ble_eq_true rfl) (xk (fun μ3 hμ3 => ?_)) rfl
  by_cases q : 1999 < d (6 + k) 4 + v
  · have eμ3 : opDelay d k v = (-1000003, d) := dl_late hk hvr q
    have kμ3 := keep_err (r := opDelay d k v) (by rw [eμ3]; show (-1000004 : Int) ≤ -1000003 ∧ (-1000003 : Int) ≤ -1000001; decide) hμ3
    refine x_top (b9 := -1000003) (by rw [eμ3]) ?_
    refine x_istore hC dL_law_396 (by decide) rfl ?_
    refine x_iload hC dL_law_398 rfl ?_
    refine x_if_lt hC 470 dL_law_400 (by decide) (by omega) (fun c_4 => ?_) (fun c_4 => ?_)
    · refine x_iload hC dL_law_470 rfl ?_
      refine x_ldc hC (-1000003) qc_L_61 rfl dL_law_472 ?_
      refine x_icmp_ne hC 498 dL_law_474 (by decide) (by omega) (by omega) (fun c_5 => ?_) (fun c_5 => ?_)
      · exfalso; omega
      · refine x_aload_n hC dL_law_477 rfl ?_
        refine x_iload hC dL_law_478 rfl ?_
        refine x_bipush hC dL_law_480 (by decide) ?_
        refine x_callV hC [.int (iZ k), .int (iZ 6)] 2 rfl dL_law_482 (fun l => m_X7_shipOf l G ca ac (cA ac 163) μ3 d n h L9 t kμ3 (hI2).1 k 6 (by omega) (by omega)) qM_L_8 qI_X7_shipOf qS_X7_shipOf qi_X7 qC_X7_shipOf (by decide +kernel) (by decide) (by decide) rfl (Nat.le_of_ble_eq_true rfl) (xk (fun μ6 hμ6 => ?_)) rfl
        refine x_top (b9 := d (6 + k) 4) (ask_s6 (by omega)) ?_
        refine x_iload hC dL_law_485 rfl ?_
        refine x_iadd hC dL_law_487 ?_
        refine x_sipush hC dL_law_488 (by decide) ?_
        refine x_icmp_le hC 498 dL_law_491 (by decide) (by omega) (by omega) (fun c_7 => ?_) (fun c_7 => ?_)
        · exfalso; omega
        · refine x_iconst hC dL_law_494 ?_
          refine x_goto hC 499 dL_law_495 (by decide) ?_
          refine x_istore_n hC dL_law_499 (by decide) rfl ?_
          refine x_goto hC 978 dL_law_500 (by decide) ?_
          refine x_weak (L' := [(5, .int (iZ i)), (4, .int (iZ C)), (3, .int (iZ S)), (2, .int (iZ 1)), (1, .ref (ac 156)), (0, .ref b)]) ⟨rfl, rfl, rfl, rfl, rfl, rfl, trivial⟩ ?_
          exact kk _ _ _ _ hμ6 hI2 hS4 hC5
    · exfalso; omega
  · obtain ⟨r, D, hRμ3⟩ : ∃ r D, opDelay d k v = (r, D) := ⟨_, _, rfl⟩
    have F := in2_delay hI2 hk hvr q
    rw [hRμ3] at F
    change zIn2 D ∧ (D 0 4 = d 0 4 ∧ D 0 5 = d 0 5) ∧ (0 ≤ r ∧ r ≤ d (6 + k) 6) ∧ D 0 6 = d 0 6 + r ∧ D (6 + k) 6 = d (6 + k) 6 - r ∧ (0 < d (6 + k) 6 → (r = 0 ↔ v ≤ sL d k (sNum d k))) at F
    obtain ⟨z2, ⟨zDS, zDC⟩, zr, z6, z7, zl⟩ := F
    have kμ3 := keep_ok (r := opDelay d k v) (by rw [hRμ3]; exact zr.1) hμ3
    rw [hRμ3] at kμ3
    change zSt μ3 D (sPushN n) (sPushH n h d) L9 t at kμ3
    refine x_top (b9 := r) (by rw [hRμ3]) ?_
    refine x_istore hC dL_law_396 (by decide) rfl ?_
    refine x_iload hC dL_law_398 rfl ?_
    refine x_if_lt hC 470 dL_law_400 (by decide) (by omega) (fun c_8 => ?_) (fun c_8 => ?_)
    · exfalso; omega
    · refine x_aload_n hC dL_law_403 rfl ?_
      refine x_iconst hC dL_law_404 ?_
      refine x_callV hC [.int (iZ 5)] 1 rfl dL_law_405 (fun l => m_X7_count l G ca ac (cA ac 163) μ3 D (sPushN n) (sPushH n h d) L9 t kμ3 (z2).1 5 (by omega)) qM_L_30 qI_X7_count qS_X7_count qi_X7 qC_X7_count (by decide +kernel) (by decide) (by decide) rfl (Nat.le_of_ble_eq_true rfl) (xk (fun μ9 hμ9 => ?_)) rfl
      refine x_top (b9 := D 0 6) (ask_n5) ?_
      refine x_iload hC dL_law_408 rfl ?_
      refine x_iload hC dL_law_410 rfl ?_
      refine x_iadd hC dL_law_412 ?_
      refine x_sameN hC 466 (congrArg iZ z6) dL_law_413 (by decide) ?_
      refine x_aload_n hC dL_law_416 rfl ?_
      refine x_iload hC dL_law_417 rfl ?_
      refine x_bipush hC dL_law_419 (by decide) ?_
      refine x_callV hC [.int (iZ k), .int (iZ 7)] 2 rfl dL_law_421 (fun l => m_X7_shipOf l G ca ac (cA ac 163) μ9 D (sPushN n) (sPushH n h d) L9 t hμ9 (z2).1 k 7 (by omega) (by omega)) qM_L_8 qI_X7_shipOf qS_X7_shipOf qi_X7 qC_X7_shipOf (by decide +kernel) (by decide) (by decide) rfl (Nat.le_of_ble_eq_true rfl) (xk (fun μ10 hμ10 => ?_)) rfl
      refine x_top (b9 := D (6 + k) 6) (ask_s7 (by omega)) ?_
      refine x_iload hC dL_law_424 rfl ?_
      refine x_iload hC dL_law_426 rfl ?_
      refine x_isub hC dL_law_428 ?_
      refine x_sameN hC 466 (congrArg iZ z7) dL_law_429 (by decide) ?_
      refine x_iload hC dL_law_432 rfl ?_
      refine x_if_eq hC 462 dL_law_434 (by decide) (by omega) (fun c_11 => ?_) (fun c_11 => ?_)
      · refine x_iconst hC dL_law_462 ?_
        refine x_goto hC 499 dL_law_463 (by decide) ?_
        refine x_istore_n hC dL_law_499 (by decide) rfl ?_
        refine x_goto hC 978 dL_law_500 (by decide) ?_
        refine x_weak (L' := [(5, .int (iZ i)), (4, .int (iZ C)), (3, .int (iZ S)), (2, .int (iZ 1)), (1, .ref (ac 156)), (0, .ref b)]) ⟨rfl, rfl, rfl, rfl, rfl, rfl, trivial⟩ ?_
        exact kk _ _ _ _ hμ10 z2 (zDS.trans hS4) (zDC.trans hC5)
      · have zl2 := zl (by omega)
        refine x_iload hC dL_law_437 rfl ?_
        refine x_if_ne hC 446 dL_law_439 (by decide) (by omega) (fun c_12 => ?_) (fun c_12 => ?_)
        · refine x_iconst hC dL_law_446 ?_
          refine x_iload hC dL_law_447 rfl ?_
          refine x_iload hC dL_law_449 rfl ?_
          refine x_icmp_gt hC 458 dL_law_451 (by decide) (by omega) (by omega) (fun c_13 => ?_) (fun c_13 => ?_)
          · refine x_iconst hC dL_law_458 ?_
            refine x_icmp_ne hC 466 dL_law_459 (by decide) (by omega) (by omega) (fun c_14 => ?_) (fun c_14 => ?_)
            · exfalso; omega
            · refine x_iconst hC dL_law_462 ?_
              refine x_goto hC 499 dL_law_463 (by decide) ?_
              refine x_istore_n hC dL_law_499 (by decide) rfl ?_
              refine x_goto hC 978 dL_law_500 (by decide) ?_
              refine x_weak (L' := [(5, .int (iZ i)), (4, .int (iZ C)), (3, .int (iZ S)), (2, .int (iZ 1)), (1, .ref (ac 156)), (0, .ref b)]) ⟨rfl, rfl, rfl, rfl, rfl, rfl, trivial⟩ ?_
              exact kk _ _ _ _ hμ10 z2 (zDS.trans hS4) (zDC.trans hC5)
          · refine x_iconst hC dL_law_454 ?_
            refine x_goto hC 459 dL_law_455 (by decide) ?_
            refine x_icmp_ne hC 466 dL_law_459 (by decide) (by omega) (by omega) (fun c_15 => ?_) (fun c_15 => ?_)
            · exfalso; omega
            · exfalso; omega
        · refine x_iconst hC dL_law_442 ?_
          refine x_goto hC 447 dL_law_443 (by decide) ?_
          refine x_iload hC dL_law_447 rfl ?_
          refine x_iload hC dL_law_449 rfl ?_
          refine x_icmp_gt hC 458 dL_law_451 (by decide) (by omega) (by omega) (fun c_16 => ?_) (fun c_16 => ?_)
          · refine x_iconst hC dL_law_458 ?_
            refine x_icmp_ne hC 466 dL_law_459 (by decide) (by omega) (by omega) (fun c_17 => ?_) (fun c_17 => ?_)
            · exfalso; omega
            · exfalso; omega
          · refine x_iconst hC dL_law_454 ?_
            refine x_goto hC 459 dL_law_455 (by decide) ?_
            refine x_icmp_ne hC 466 dL_law_459 (by decide) (by omega) (by omega) (fun c_18 => ?_) (fun c_18 => ?_)
            · exfalso; omega
            · refine x_iconst hC dL_law_462 ?_
              refine x_goto hC 499 dL_law_463 (by decide) ?_
              refine x_istore_n hC dL_law_499 (by decide) rfl ?_
              refine x_goto hC 978 dL_law_500 (by decide) ?_
              refine x_weak (L' := [(5, .int (iZ i)), (4, .int (iZ C)), (3, .int (iZ S)), (2, .int (iZ 1)), (1, .ref (ac 156)), (0, .ref b)]) ⟨rfl, rfl, rfl, rfl, rfl, rfl, trivial⟩ ?_
              exact kk _ _ _ _ hμ10 z2 (zDS.trans hS4) (zDC.trans hC5)

set_option maxHeartbeats 4000000 in
set_option maxRecDepth 100000 in
/-- case 1: called off, and fixed again -/
theorem law_off {Γ : zG} {G : va_G} {ca : Nat → ClassId} {ac : Int → Nat} {b Lx : Nat} {xs : Nat → Int32} (hC : xC Γ G ca ac b Lx xs) {μ d : zM} {n : Int} {h : Int → zM} {L9 : Int} {t : Int → Int} (hX : zSt μ d n h L9 t) (hI2 : zIn2 d) {S C : Int} (hS4 : d 0 4 = S) (hC5 : d 0 5 = C) {y k c i : Int} (hy : 0 ≤ y ∧ y ≤ 2147483647) (hk0 : 0 ≤ k ∧ k < S) (hc0 : 0 ≤ c ∧ c < C)  (kk : ∀ (μ9 d9 : zM) (n9 : Int) (h9 : Int → zM), zSt μ9 d9 n9 h9 L9 t → zIn2 d9 → d9 0 4 = S → d9 0 5 = C → X Γ G ca ac μ9 978 [(5, .int (iZ i)), (4, .int (iZ C)), (3, .int (iZ S)), (2, .int (iZ 1)), (1, .ref (ac 156)), (0, .ref b)] []) : X Γ G ca ac μ 503 [(9, .int (iZ (d (6 + k) 6))), (8, .int (iZ c)), (7, .int (iZ k)), (6, .int (iZ y)), (5, .int (iZ i)), (4, .int (iZ C)), (3, .int (iZ S)), (2, .int (iZ 1)), (1, .ref (ac 156)), (0, .ref b)] [] := by
  have hI : zInv d := hI2.1
  obtain ⟨hB, _⟩ := id hI
  obtain ⟨hN, hP, hB3, hB4⟩ := id hB
  obtain ⟨hN1, hN2⟩ := id hN
  have hk : 0 ≤ k ∧ k < d 0 4 := by omega
  obtain ⟨hs0, hs1, hs2, hs3, hs4, hs6⟩ := hB3 k hk
  have hNe := sNum_e (d := d) (k := k) hs6.1
  have hG := zInv_G hI k hk
  refine x_iload hC dL_law_503 rfl ?_
  refine x_if_ne hC 528 dL_law_505 (by decide) (by omega) (fun c_1 => ?_) (fun c_1 => ?_)
  · refine x_aload_n hC dL_law_528 rfl ?_
    refine x_iload hC dL_law_529 rfl ?_
    refine x_iload hC dL_law_531 rfl ?_
    refine x_iconst hC dL_law_533 ?_
    refine x_isub hC dL_law_534 ?_
    refine x_iconst hC dL_law_535 ?_
    obtain ⟨e, he⟩ : ∃ e, e = d (11 + k) (d (6 + k) 6 - 1) := ⟨_, rfl⟩
    have her := zInv_F hI k hk (d (6 + k) 6 - 1) (by omega)
    rw [← he] at her
    obtain ⟨hc1, hc2, hc3, hc4, hc5, hc6, hc7⟩ := hB4 e her
    have hwb := worth_b (hB4 e her)
    refine x_callV hC [.int (iZ k), .int (iZ ((d (6 + k) 6) - 1)), .int (iZ 0)] 3 rfl dL_law_536 (fun l => m_X7_fixtureOf l G ca ac (cA ac 163) μ d n h L9 t hX (hI2).1 k ((d (6 + k) 6) - 1) 0 (by omega) (by omega) (by omega)) qM_L_14 qI_X7_fixtureOf qS_X7_fixtureOf qi_X7 qC_X7_fixtureOf (by decide +kernel) (by decide) (by decide) rfl (Nat.le_of_ble_eq_true rfl) (xk (fun μ2 hμ2 => ?_)) rfl
    refine x_top (b9 := e) ((ask_fl (by omega) (by omega)).trans he.symm) ?_
    refine x_istore hC dL_law_539 (by decide) rfl ?_
    refine x_aload_n hC dL_law_541 rfl ?_
    refine x_iload hC dL_law_542 rfl ?_
    refine x_iconst hC dL_law_544 ?_
    refine x_callV hC [.int (iZ e), .int (iZ 0)] 2 rfl dL_law_545 (fun l => m_X7_cargoOf l G ca ac (cA ac 163) μ2 d n h L9 t hμ2 (hI2).1 e 0 (by omega) (by omega)) qM_L_19 qI_X7_cargoOf qS_X7_cargoOf qi_X7 qC_X7_cargoOf (by decide +kernel) (by decide) (by decide) rfl (Nat.le_of_ble_eq_true rfl) (xk (fun μ3 hμ3 => ?_)) rfl
    refine x_top (b9 := d (16 + e) 0) (ask_c0 (by omega)) ?_
    refine x_aload_n hC dL_law_548 rfl ?_
    refine x_iload hC dL_law_549 rfl ?_
    refine x_iconst hC dL_law_551 ?_
    refine x_callV hC [.int (iZ e), .int (iZ 5)] 2 rfl dL_law_552 (fun l => m_X7_cargoOf l G ca ac (cA ac 163) μ3 d n h L9 t hμ3 (hI2).1 e 5 (by omega) (by omega)) qM_L_19 qI_X7_cargoOf qS_X7_cargoOf qi_X7 qC_X7_cargoOf (by decide +kernel) (by decide) (by decide) rfl (Nat.le_of_ble_eq_true rfl) (xk (fun μ4 hμ4 => ?_)) rfl
    refine x_top (b9 := d (16 + e) 5) (ask_c5 (by omega)) ?_
    refine x_imul hC dL_law_555 ?_
    refine x_bipush hC dL_law_556 (by decide) ?_
    refine x_iadd hC dL_law_558 ?_
    refine x_bipush hC dL_law_559 (by decide) ?_
    refine x_idiv hC dL_law_561 (by omega) (by omega) ?_
    refine x_top (b9 := sPay d e) (by unfold sPay; congr 1; omega) ?_
    refine x_istore hC dL_law_562 (by decide) rfl ?_
    refine x_aload_n hC dL_law_564 rfl ?_
    refine x_iload hC dL_law_565 rfl ?_
    refine x_bipush hC dL_law_567 (by decide) ?_
    refine x_callV hC [.int (iZ k), .int (iZ 8)] 2 rfl dL_law_569 (fun l => m_X7_shipOf l G ca ac (cA ac 163) μ4 d n h L9 t hμ4 (hI2).1 k 8 (by omega) (by omega)) qM_L_8 qI_X7_shipOf qS_X7_shipOf qi_X7 qC_X7_shipOf (by decide +kernel) (by decide) (by decide) rfl (Nat.le_of_ble_eq_true rfl) (xk (fun μ5 hμ5 => ?_)) rfl
    refine x_top (b9 := d (6 + k) 5 + 1000000) (ask_s8 (by omega)) ?_
    refine x_istore hC dL_law_572 (by decide) rfl ?_
    refine x_aload_n hC dL_law_574 rfl ?_
    refine x_bipush hC dL_law_575 (by decide) ?_
    refine x_callV hC [.int (iZ 6)] 1 rfl dL_law_577 (fun l => m_X7_count l G ca ac (cA ac 163) μ5 d n h L9 t hμ5 (hI2).1 6 (by omega)) qM_L_30 qI_X7_count qS_X7_count qi_X7 qC_X7_count (by decide +kernel) (by decide) (by decide) rfl (Nat.le_of_ble_eq_true rfl) (xk (fun μ6 hμ6 => ?_)) rfl
    refine x_top (b9 := d 0 7) (ask_n6) ?_
    refine x_istore hC dL_law_580 (by decide) rfl ?_
    refine x_aload_n hC dL_law_582 rfl ?_
    refine x_iload hC dL_law_583 rfl ?_
    refine x_callV hC [.int (iZ k)] 1 rfl dL_law_585 (fun l => m_X7_callOff l G ca ac (cA ac 163) μ6 d n h L9 t hμ6 (hI2).1 k (by omega) (inv_off (hI2).1 k).2.1) qM_L_62 qI_X7_callOff qS_X7_callOff qi_X7 qC_X7_callOff (by decide +kernel) (by decide) (by decide) rfl (Nat.le_of_ble_eq_true rfl) (xk (fun μ7 hμ7 => ?_)) rfl
    obtain ⟨r, D, hRμ7⟩ : ∃ r D, opOff d k = (r, D) := ⟨_, _, rfl⟩
    have F := in2_off hI2 hk (by omega) he
    rw [hRμ7] at F
    change zIn2 D ∧ (D 0 4 = d 0 4 ∧ D 0 5 = d 0 5) ∧ r = sPay d e ∧ D (6 + k) 5 = d (6 + k) 5 - sPay d e ∧ D (16 + e) 6 = 0 ∧ D 0 7 = d 0 7 + 1 ∧ sCould D k e = 0 at F
    obtain ⟨z2, ⟨zDS, zDC⟩, zr, z5, z6, z7, zc⟩ := F
    have hpb := sPay_b (hB4 e her)
    have kμ7 := keep_ok (r := opOff d k) (by rw [hRμ7]; exact (by show 0 ≤ r; omega)) hμ7
    rw [hRμ7] at kμ7
    change zSt μ7 D (sPushN n) (sPushH n h d) L9 t at kμ7
    refine x_top (b9 := sPay d e) (by rw [hRμ7]; exact zr) ?_
    refine x_iload hC dL_law_588 rfl ?_
    refine x_sameN hC 667 (rfl) dL_law_590 (by decide) ?_
    refine x_aload_n hC dL_law_593 rfl ?_
    refine x_iload hC dL_law_594 rfl ?_
    refine x_bipush hC dL_law_596 (by decide) ?_
    refine x_callV hC [.int (iZ k), .int (iZ 8)] 2 rfl dL_law_598 (fun l => m_X7_shipOf l G ca ac (cA ac 163) μ7 D (sPushN n) (sPushH n h d) L9 t kμ7 (z2).1 k 8 (by omega) (by omega)) qM_L_8 qI_X7_shipOf qS_X7_shipOf qi_X7 qC_X7_shipOf (by decide +kernel) (by decide) (by decide) rfl (Nat.le_of_ble_eq_true rfl) (xk (fun μ8 hμ8 => ?_)) rfl
    refine x_top (b9 := D (6 + k) 5 + 1000000) (ask_s8 (by omega)) ?_
    refine x_iload hC dL_law_601 rfl ?_
    refine x_iload hC dL_law_603 rfl ?_
    refine x_isub hC dL_law_605 ?_
    refine x_sameN hC 667 (congrArg iZ (by omega)) dL_law_606 (by decide) ?_
    refine x_aload_n hC dL_law_609 rfl ?_
    refine x_iload hC dL_law_610 rfl ?_
    refine x_bipush hC dL_law_612 (by decide) ?_
    refine x_callV hC [.int (iZ e), .int (iZ 6)] 2 rfl dL_law_614 (fun l => m_X7_cargoOf l G ca ac (cA ac 163) μ8 D (sPushN n) (sPushH n h d) L9 t hμ8 (z2).1 e 6 (by omega) (by omega)) qM_L_19 qI_X7_cargoOf qS_X7_cargoOf qi_X7 qC_X7_cargoOf (by decide +kernel) (by decide) (by decide) rfl (Nat.le_of_ble_eq_true rfl) (xk (fun μ9 hμ9 => ?_)) rfl
    refine x_top (b9 := D (16 + e) 6) (ask_c6 (by omega)) ?_
    refine x_if_ne hC 667 dL_law_617 (by decide) (by omega) (fun c_10 => ?_) (fun c_10 => ?_)
    · exfalso; omega
    · refine x_aload_n hC dL_law_620 rfl ?_
      refine x_bipush hC dL_law_621 (by decide) ?_
      refine x_callV hC [.int (iZ 6)] 1 rfl dL_law_623 (fun l => m_X7_count l G ca ac (cA ac 163) μ9 D (sPushN n) (sPushH n h d) L9 t hμ9 (z2).1 6 (by omega)) qM_L_30 qI_X7_count qS_X7_count qi_X7 qC_X7_count (by decide +kernel) (by decide) (by decide) rfl (Nat.le_of_ble_eq_true rfl) (xk (fun μ11 hμ11 => ?_)) rfl
      refine x_top (b9 := D 0 7) (ask_n6) ?_
      refine x_iload hC dL_law_626 rfl ?_
      refine x_iconst hC dL_law_628 ?_
      refine x_iadd hC dL_law_629 ?_
      refine x_sameN hC 667 (congrArg iZ z7) dL_law_630 (by decide) ?_
      refine x_aload_n hC dL_law_633 rfl ?_
      refine x_iload hC dL_law_634 rfl ?_
      refine x_iload hC dL_law_636 rfl ?_
      refine x_iconst hC dL_law_638 ?_
      refine x_callV hC [.int (iZ k), .int (iZ e), .int (iZ 0)] 3 rfl dL_law_639 (fun l => m_X7_voyage l G ca ac (cA ac 163) μ11 D (sPushN n) (sPushH n h d) L9 t hμ11 (z2).1 k e 0 (by omega) (by omega) (by omega)) qM_L_66 qI_X7_voyage qS_X7_voyage qi_X7 qC_X7_voyage (by decide +kernel) (by decide) (by decide) rfl (Nat.le_of_ble_eq_true rfl) (xk (fun μ12 hμ12 => ?_)) rfl
      refine x_top (b9 := sCould D k e) (by unfold qVoy; rw [if_pos rfl]) ?_
      refine x_top (b9 := 0) (zc) ?_
      refine x_if_ne hC 667 dL_law_642 (by decide) (by omega) (fun c_13 => ?_) (fun c_13 => ?_)
      · exfalso; omega
      · refine x_aload_n hC dL_law_645 rfl ?_
        refine x_iload hC dL_law_646 rfl ?_
        refine x_iload hC dL_law_648 rfl ?_
        refine x_callV hC [.int (iZ k), .int (iZ e)] 2 rfl dL_law_650 (fun l => m_X7_fix l G ca ac (cA ac 163) μ12 D (sPushN n) (sPushH n h d) L9 t hμ12 (z2).1 k e (by omega) (by omega) (inv_fix (z2).1 k e).2.1) qM_L_69 qI_X7_fix qS_X7_fix qi_X7 qC_X7_fix (by decide +kernel) (by decide) (by decide) rfl (Nat.le_of_ble_eq_true rfl) (xk (fun μ14 hμ14 => ?_)) rfl
        have hkD : 0 ≤ k ∧ k < D 0 4 := by omega
        have heD : 0 ≤ e ∧ e < D 0 5 := by omega
        have hv9 := sVoy_b z2.1 hkD heD
        have hg9 := (zInv_G z2.1 k hkD).2 _ (Nat.le_refl _)
        have hg2 : 0 ≤ (sEnd D k).2.1 ∧ (sEnd D k).2.1 ≤ 2000 := hg9.2
        obtain ⟨r2, D2, hRμ14⟩ : ∃ r2 D2, opFix D k e = (r2, D2) := ⟨_, _, rfl⟩
        have hr2 : r2 = sFree D k e (sEnd D k).1 (sEnd D k).2.1 := by have := fx_ok hkD heD ⟨z6, zc⟩; rw [hRμ14] at this; exact congrArg Prod.fst this
        have z22 := (in2_fix z2 k e).1
        rw [hRμ14] at z22
        change zIn2 D2 at z22
        have hnn := hμ12.2.1.2.2.1
        have kμ14 := keep_ok (r := opFix D k e) (by rw [hRμ14]; exact (by show 0 ≤ r2; omega)) hμ14
        rw [hRμ14] at kμ14
        change zSt μ14 D2 (sPushN (sPushN n)) (sPushH (sPushN n) (sPushH n h d) D) L9 t at kμ14
        refine x_top (b9 := r2) (by rw [hRμ14]) ?_
        refine x_if_le hC 667 dL_law_653 (by decide) (by omega) (fun c_15 => ?_) (fun c_15 => ?_)
        · exfalso; omega
        · refine x_aload_n hC dL_law_656 rfl ?_
          refine x_callV hC [] 0 rfl dL_law_657 (fun l => m_X7_undo l G ca ac (cA ac 163) μ14 D2 (sPushN (sPushN n)) (sPushH (sPushN n) (sPushH n h d) D) L9 t kμ14) qM_L_72 qI_X7_undo qS_X7_undo qi_X7 qC_X7_undo (by decide +kernel) (by decide) (by decide) rfl (Nat.le_of_ble_eq_true rfl) (xk (fun μ16 hμ16 => ?_)) rfl
          have u9 := undo_ok (n := sPushN n) (h := sPushH n h d) (d := D) hnn hμ16
          obtain ⟨u, hu⟩ : ∃ u, u = (opUndo D2 (sPushN (sPushN n)) (sPushH (sPushN n) (sPushH n h d) D)).1 := ⟨_, rfl⟩
          rw [← hu] at u9
          refine x_top (b9 := u) hu.symm ?_
          refine x_if_lt hC 667 dL_law_660 (by decide) (by omega) (fun c_17 => ?_) (fun c_17 => ?_)
          · exfalso; omega
          · refine x_iconst hC dL_law_663 ?_
            refine x_goto hC 668 dL_law_664 (by decide) ?_
            refine x_istore_n hC dL_law_668 (by decide) rfl ?_
            refine x_goto hC 978 dL_law_669 (by decide) ?_
            refine x_weak (L' := [(5, .int (iZ i)), (4, .int (iZ C)), (3, .int (iZ S)), (2, .int (iZ 1)), (1, .ref (ac 156)), (0, .ref b)]) ⟨rfl, rfl, rfl, rfl, rfl, rfl, trivial⟩ ?_
            exact kk _ _ _ _ u9.1 z2 (zDS.trans hS4) (zDC.trans hC5)
  · refine x_aload_n hC dL_law_508 rfl ?_
    refine x_iload hC dL_law_509 rfl ?_
    refine x_callV hC [.int (iZ k)] 1 rfl dL_law_511 (fun l => m_X7_callOff l G ca ac (cA ac 163) μ d n h L9 t hX (hI2).1 k (by omega) (inv_off (hI2).1 k).2.1) qM_L_62 qI_X7_callOff qS_X7_callOff qi_X7 qC_X7_callOff (by decide +kernel) (by decide) (by decide) rfl (Nat.le_of_ble_eq_true rfl) (xk (fun μ18 hμ18 => ?_)) rfl
    have eμ18 : opOff d k = (-1000002, d) := of_no hk (by omega)
    have kμ18 := keep_err (r := opOff d k) (by rw [eμ18]; show (-1000004 : Int) ≤ -1000002 ∧ (-1000002 : Int) ≤ -1000001; decide) hμ18
    refine x_top (b9 := -1000002) (by rw [eμ18]) ?_
    refine x_ldc hC (-1000002) qc_L_65 rfl dL_law_514 ?_
    refine x_sameN hC 523 (rfl) dL_law_516 (by decide) ?_
    refine x_iconst hC dL_law_519 ?_
    refine x_goto hC 524 dL_law_520 (by decide) ?_
    refine x_istore_n hC dL_law_524 (by decide) rfl ?_
    refine x_goto hC 978 dL_law_525 (by decide) ?_
    refine x_weak (L' := [(5, .int (iZ i)), (4, .int (iZ C)), (3, .int (iZ S)), (2, .int (iZ 1)), (1, .ref (ac 156)), (0, .ref b)]) ⟨rfl, rfl, rfl, rfl, rfl, rfl, trivial⟩ ?_
    exact kk _ _ _ _ kμ18 hI2 hS4 hC5

set_option maxHeartbeats 4000000 in
set_option maxRecDepth 100000 in
/-- case 2: settled -/
theorem law_settle {Γ : zG} {G : va_G} {ca : Nat → ClassId} {ac : Int → Nat} {b Lx : Nat} {xs : Nat → Int32} (hC : xC Γ G ca ac b Lx xs) {μ d : zM} {n : Int} {h : Int → zM} {L9 : Int} {t : Int → Int} (hX : zSt μ d n h L9 t) (hI2 : zIn2 d) {S C : Int} (hS4 : d 0 4 = S) (hC5 : d 0 5 = C) {y k c i : Int} (hy : 0 ≤ y ∧ y ≤ 2147483647) (hk0 : 0 ≤ k ∧ k < S) (hc0 : 0 ≤ c ∧ c < C)  (kk : ∀ (μ9 d9 : zM) (n9 : Int) (h9 : Int → zM), zSt μ9 d9 n9 h9 L9 t → zIn2 d9 → d9 0 4 = S → d9 0 5 = C → X Γ G ca ac μ9 978 [(5, .int (iZ i)), (4, .int (iZ C)), (3, .int (iZ S)), (2, .int (iZ 1)), (1, .ref (ac 156)), (0, .ref b)] []) : X Γ G ca ac μ 672 [(9, .int (iZ (d (6 + k) 6))), (8, .int (iZ c)), (7, .int (iZ k)), (6, .int (iZ y)), (5, .int (iZ i)), (4, .int (iZ C)), (3, .int (iZ S)), (2, .int (iZ 1)), (1, .ref (ac 156)), (0, .ref b)] [] := by
  have hI : zInv d := hI2.1
  obtain ⟨hB, _⟩ := id hI
  obtain ⟨hN, hP, hB3, hB4⟩ := id hB
  obtain ⟨hN1, hN2⟩ := id hN
  have hk : 0 ≤ k ∧ k < d 0 4 := by omega
  obtain ⟨hs0, hs1, hs2, hs3, hs4, hs6⟩ := hB3 k hk
  have hNe := sNum_e (d := d) (k := k) hs6.1
  have hG := zInv_G hI k hk
  refine x_iload hC dL_law_672 rfl ?_
  refine x_if_ne hC 697 dL_law_674 (by decide) (by omega) (fun c_1 => ?_) (fun c_1 => ?_)
  · refine x_iload hC dL_law_697 rfl ?_
    refine x_sipush hC dL_law_699 (by decide) ?_
    refine x_idiv hC dL_law_702 (by omega) (by omega) ?_
    refine x_iconst hC dL_law_703 ?_
    refine x_irem hC dL_law_704 (by omega) (by omega) ?_
    refine x_if_ne hC 978 dL_law_705 (by decide) (by omega) (fun c_2 => ?_) (fun c_2 => ?_)
    · refine x_weak (L' := [(5, .int (iZ i)), (4, .int (iZ C)), (3, .int (iZ S)), (2, .int (iZ 1)), (1, .ref (ac 156)), (0, .ref b)]) ⟨rfl, rfl, rfl, rfl, rfl, rfl, trivial⟩ ?_
      exact kk _ _ _ _ hX hI2 hS4 hC5
    · refine x_aload_n hC dL_law_708 rfl ?_
      refine x_iload hC dL_law_709 rfl ?_
      refine x_bipush hC dL_law_711 (by decide) ?_
      refine x_callV hC [.int (iZ k), .int (iZ 8)] 2 rfl dL_law_713 (fun l => m_X7_shipOf l G ca ac (cA ac 163) μ d n h L9 t hX (hI2).1 k 8 (by omega) (by omega)) qM_L_8 qI_X7_shipOf qS_X7_shipOf qi_X7 qC_X7_shipOf (by decide +kernel) (by decide) (by decide) rfl (Nat.le_of_ble_eq_true rfl) (xk (fun μ3 hμ3 => ?_)) rfl
      refine x_top (b9 := d (6 + k) 5 + 1000000) (ask_s8 (by omega)) ?_
      refine x_istore hC dL_law_716 (by decide) rfl ?_
      refine x_aload_n hC dL_law_718 rfl ?_
      refine x_iload hC dL_law_719 rfl ?_
      refine x_bipush hC dL_law_721 (by decide) ?_
      refine x_callV hC [.int (iZ k), .int (iZ 9)] 2 rfl dL_law_723 (fun l => m_X7_shipOf l G ca ac (cA ac 163) μ3 d n h L9 t hμ3 (hI2).1 k 9 (by omega) (by omega)) qM_L_8 qI_X7_shipOf qS_X7_shipOf qi_X7 qC_X7_shipOf (by decide +kernel) (by decide) (by decide) rfl (Nat.le_of_ble_eq_true rfl) (xk (fun μ4 hμ4 => ?_)) rfl
      refine x_top (b9 := (sEnd d k).2.2 + 1000000) (ask_s9 (by omega)) ?_
      refine x_istore hC dL_law_726 (by decide) rfl ?_
      refine x_aload_n hC dL_law_728 rfl ?_
      refine x_iload hC dL_law_729 rfl ?_
      refine x_iconst hC dL_law_731 ?_
      refine x_callV hC [.int (iZ k), .int (iZ 3)] 2 rfl dL_law_732 (fun l => m_X7_shipOf l G ca ac (cA ac 163) μ4 d n h L9 t hμ4 (hI2).1 k 3 (by omega) (by omega)) qM_L_8 qI_X7_shipOf qS_X7_shipOf qi_X7 qC_X7_shipOf (by decide +kernel) (by decide) (by decide) rfl (Nat.le_of_ble_eq_true rfl) (xk (fun μ5 hμ5 => ?_)) rfl
      refine x_top (b9 := (sEnd d k).1) (ask_s3 (by omega)) ?_
      refine x_istore hC dL_law_735 (by decide) rfl ?_
      refine x_aload_n hC dL_law_737 rfl ?_
      refine x_iload hC dL_law_738 rfl ?_
      refine x_iconst hC dL_law_740 ?_
      refine x_callV hC [.int (iZ k), .int (iZ 4)] 2 rfl dL_law_741 (fun l => m_X7_shipOf l G ca ac (cA ac 163) μ5 d n h L9 t hμ5 (hI2).1 k 4 (by omega) (by omega)) qM_L_8 qI_X7_shipOf qS_X7_shipOf qi_X7 qC_X7_shipOf (by decide +kernel) (by decide) (by decide) rfl (Nat.le_of_ble_eq_true rfl) (xk (fun μ6 hμ6 => ?_)) rfl
      refine x_top (b9 := (sEnd d k).2.1) (ask_s4 (by omega)) ?_
      refine x_istore hC dL_law_744 (by decide) rfl ?_
      refine x_aload_n hC dL_law_746 rfl ?_
      refine x_iload hC dL_law_747 rfl ?_
      refine x_callV hC [.int (iZ k)] 1 rfl dL_law_749 (fun l => m_X7_settle l G ca ac (cA ac 163) μ6 d n h L9 t hμ6 (hI2).1 k (by omega) (inv_settle (hI2).1 k).2.1) qM_L_76 qI_X7_settle qS_X7_settle qi_X7 qC_X7_settle (by decide +kernel) (by decide) (by decide) rfl (Nat.le_of_ble_eq_true rfl) (xk (fun μ7 hμ7 => ?_)) rfl
      obtain ⟨r, D, hRμ7⟩ : ∃ r D, opSettle d k = (r, D) := ⟨_, _, rfl⟩
      have F := in2_settle hI2 hk (by omega)
      rw [hRμ7] at F
      change zIn2 D ∧ (D 0 4 = d 0 4 ∧ D 0 5 = d 0 5) ∧ r = (sEnd d k).2.2 + 1000000 ∧ D (6 + k) 5 = d (6 + k) 5 + (sEnd d k).2.2 ∧ D (6 + k) 3 = (sEnd d k).1 ∧ D (6 + k) 4 = (sEnd d k).2.1 ∧ D (6 + k) 6 = 0 at F
      obtain ⟨z2, ⟨zDS, zDC⟩, zr, z5, z3, z4, z6⟩ := F
      have hE := sEnd_b hI hk
      have kμ7 := keep_ok (r := opSettle d k) (by rw [hRμ7]; exact (by show 0 ≤ r; omega)) hμ7
      rw [hRμ7] at kμ7
      change zSt μ7 D (sPushN n) (sPushH n h d) L9 t at kμ7
      refine x_top (b9 := (sEnd d k).2.2 + 1000000) (by rw [hRμ7]; exact zr) ?_
      refine x_iload hC dL_law_752 rfl ?_
      refine x_sameN hC 816 (rfl) dL_law_754 (by decide) ?_
      refine x_aload_n hC dL_law_757 rfl ?_
      refine x_iload hC dL_law_758 rfl ?_
      refine x_bipush hC dL_law_760 (by decide) ?_
      refine x_callV hC [.int (iZ k), .int (iZ 8)] 2 rfl dL_law_762 (fun l => m_X7_shipOf l G ca ac (cA ac 163) μ7 D (sPushN n) (sPushH n h d) L9 t kμ7 (z2).1 k 8 (by omega) (by omega)) qM_L_8 qI_X7_shipOf qS_X7_shipOf qi_X7 qC_X7_shipOf (by decide +kernel) (by decide) (by decide) rfl (Nat.le_of_ble_eq_true rfl) (xk (fun μ8 hμ8 => ?_)) rfl
      refine x_top (b9 := D (6 + k) 5 + 1000000) (ask_s8 (by omega)) ?_
      refine x_iload hC dL_law_765 rfl ?_
      refine x_iload hC dL_law_767 rfl ?_
      refine x_iadd hC dL_law_769 ?_
      refine x_ldc hC (1000000) qc_L_25 rfl dL_law_770 ?_
      refine x_isub hC dL_law_772 ?_
      refine x_sameN hC 816 (congrArg iZ (by omega)) dL_law_773 (by decide) ?_
      refine x_aload_n hC dL_law_776 rfl ?_
      refine x_iload hC dL_law_777 rfl ?_
      refine x_iconst hC dL_law_779 ?_
      refine x_callV hC [.int (iZ k), .int (iZ 5)] 2 rfl dL_law_780 (fun l => m_X7_shipOf l G ca ac (cA ac 163) μ8 D (sPushN n) (sPushH n h d) L9 t hμ8 (z2).1 k 5 (by omega) (by omega)) qM_L_8 qI_X7_shipOf qS_X7_shipOf qi_X7 qC_X7_shipOf (by decide +kernel) (by decide) (by decide) rfl (Nat.le_of_ble_eq_true rfl) (xk (fun μ9 hμ9 => ?_)) rfl
      refine x_top (b9 := D (6 + k) 3) (ask_s5 (by omega)) ?_
      refine x_iload hC dL_law_783 rfl ?_
      refine x_sameN hC 816 (congrArg iZ z3) dL_law_785 (by decide) ?_
      refine x_aload_n hC dL_law_788 rfl ?_
      refine x_iload hC dL_law_789 rfl ?_
      refine x_bipush hC dL_law_791 (by decide) ?_
      refine x_callV hC [.int (iZ k), .int (iZ 6)] 2 rfl dL_law_793 (fun l => m_X7_shipOf l G ca ac (cA ac 163) μ9 D (sPushN n) (sPushH n h d) L9 t hμ9 (z2).1 k 6 (by omega) (by omega)) qM_L_8 qI_X7_shipOf qS_X7_shipOf qi_X7 qC_X7_shipOf (by decide +kernel) (by decide) (by decide) rfl (Nat.le_of_ble_eq_true rfl) (xk (fun μ10 hμ10 => ?_)) rfl
      refine x_top (b9 := D (6 + k) 4) (ask_s6 (by omega)) ?_
      refine x_iload hC dL_law_796 rfl ?_
      refine x_sameN hC 816 (congrArg iZ z4) dL_law_798 (by decide) ?_
      refine x_aload_n hC dL_law_801 rfl ?_
      refine x_iload hC dL_law_802 rfl ?_
      refine x_bipush hC dL_law_804 (by decide) ?_
      refine x_callV hC [.int (iZ k), .int (iZ 7)] 2 rfl dL_law_806 (fun l => m_X7_shipOf l G ca ac (cA ac 163) μ10 D (sPushN n) (sPushH n h d) L9 t hμ10 (z2).1 k 7 (by omega) (by omega)) qM_L_8 qI_X7_shipOf qS_X7_shipOf qi_X7 qC_X7_shipOf (by decide +kernel) (by decide) (by decide) rfl (Nat.le_of_ble_eq_true rfl) (xk (fun μ11 hμ11 => ?_)) rfl
      refine x_top (b9 := D (6 + k) 6) (ask_s7 (by omega)) ?_
      refine x_if_ne hC 816 dL_law_809 (by decide) (by omega) (fun c_12 => ?_) (fun c_12 => ?_)
      · exfalso; omega
      · refine x_iconst hC dL_law_812 ?_
        refine x_goto hC 817 dL_law_813 (by decide) ?_
        refine x_istore_n hC dL_law_817 (by decide) rfl ?_
        refine x_goto hC 978 dL_law_818 (by decide) ?_
        refine x_weak (L' := [(5, .int (iZ i)), (4, .int (iZ C)), (3, .int (iZ S)), (2, .int (iZ 1)), (1, .ref (ac 156)), (0, .ref b)]) ⟨rfl, rfl, rfl, rfl, rfl, rfl, trivial⟩ ?_
        exact kk _ _ _ _ hμ11 z2 (zDS.trans hS4) (zDC.trans hC5)
  · refine x_aload_n hC dL_law_677 rfl ?_
    refine x_iload hC dL_law_678 rfl ?_
    refine x_callV hC [.int (iZ k)] 1 rfl dL_law_680 (fun l => m_X7_settle l G ca ac (cA ac 163) μ d n h L9 t hX (hI2).1 k (by omega) (inv_settle (hI2).1 k).2.1) qM_L_76 qI_X7_settle qS_X7_settle qi_X7 qC_X7_settle (by decide +kernel) (by decide) (by decide) rfl (Nat.le_of_ble_eq_true rfl) (xk (fun μ13 hμ13 => ?_)) rfl
    have eμ13 : opSettle d k = (-1000002, d) := se_no hk (by omega)
    have kμ13 := keep_err (r := opSettle d k) (by rw [eμ13]; show (-1000004 : Int) ≤ -1000002 ∧ (-1000002 : Int) ≤ -1000001; decide) hμ13
    refine x_top (b9 := -1000002) (by rw [eμ13]) ?_
    refine x_ldc hC (-1000002) qc_L_65 rfl dL_law_683 ?_
    refine x_sameN hC 692 (rfl) dL_law_685 (by decide) ?_
    refine x_iconst hC dL_law_688 ?_
    refine x_goto hC 693 dL_law_689 (by decide) ?_
    refine x_istore_n hC dL_law_693 (by decide) rfl ?_
    refine x_goto hC 978 dL_law_694 (by decide) ?_
    refine x_weak (L' := [(5, .int (iZ i)), (4, .int (iZ C)), (3, .int (iZ S)), (2, .int (iZ 1)), (1, .ref (ac 156)), (0, .ref b)]) ⟨rfl, rfl, rfl, rfl, rfl, rfl, trivial⟩ ?_
    exact kk _ _ _ _ kμ13 hI2 hS4 hC5

set_option maxHeartbeats 4000000 in
set_option maxRecDepth 100000 in
/-- the best cargo, or one of the script, is fixed -/
theorem law_fix {Γ : zG} {G : va_G} {ca : Nat → ClassId} {ac : Int → Nat} {b Lx : Nat} {xs : Nat → Int32} (hC : xC Γ G ca ac b Lx xs) {μ d : zM} {n : Int} {h : Int → zM} {L9 : Int} {t : Int → Int} (hX : zSt μ d n h L9 t) (hI2 : zIn2 d) {S C : Int} (hS4 : d 0 4 = S) (hC5 : d 0 5 = C) {y k c i : Int} (hy : 0 ≤ y ∧ y ≤ 2147483647) (hk0 : 0 ≤ k ∧ k < S) (hc0 : 0 ≤ c ∧ c < C) {e : Int} (he : e = -1000004 ∨ (0 ≤ e ∧ e < d 0 5)) (hb9 : y % 2 = 0 → e = -1000004 ∨ (d (16 + e) 6 = 0 ∧ sCould d k e = 0)) (kk : ∀ (μ9 d9 : zM) (n9 : Int) (h9 : Int → zM), zSt μ9 d9 n9 h9 L9 t → zIn2 d9 → d9 0 4 = S → d9 0 5 = C → X Γ G ca ac μ9 978 [(5, .int (iZ i)), (4, .int (iZ C)), (3, .int (iZ S)), (2, .int (iZ 1)), (1, .ref (ac 156)), (0, .ref b)] []) : X Γ G ca ac μ 839 [(9, .int (iZ (d (6 + k) 6))), (8, .int (iZ c)), (7, .int (iZ k)), (6, .int (iZ y)), (5, .int (iZ i)), (4, .int (iZ C)), (3, .int (iZ S)), (2, .int (iZ 1)), (1, .ref (ac 156)), (0, .ref b)] [.int (iZ e)] := by
  have hI : zInv d := hI2.1
  obtain ⟨hB, _⟩ := id hI
  obtain ⟨hN, hP, hB3, hB4⟩ := id hB
  obtain ⟨hN1, hN2⟩ := id hN
  have hk : 0 ≤ k ∧ k < d 0 4 := by omega
  obtain ⟨hs0, hs1, hs2, hs3, hs4, hs6⟩ := hB3 k hk
  have hNe := sNum_e (d := d) (k := k) hs6.1
  have hG := zInv_G hI k hk
  refine x_istore hC dL_law_839 (by decide) rfl ?_
  refine x_iload hC dL_law_841 rfl ?_
  refine x_if_ge hC 862 dL_law_843 (by decide) (by omega) (fun c_1 => ?_) (fun c_1 => ?_)
  · have heC : 0 ≤ e ∧ e < d 0 5 := by omega
    obtain ⟨hc1, hc2, hc3, hc4, hc5, hc6, hc7⟩ := hB4 e heC
    have hcb := sCould_b d k e
    have hv9 := sVoy_b hI hk heC
    have hg2 : 0 ≤ (sEnd d k).2.1 ∧ (sEnd d k).2.1 ≤ 2000 := (hG.2 _ (Nat.le_refl _)).2
    refine x_aload_n hC dL_law_862 rfl ?_
    refine x_iload hC dL_law_863 rfl ?_
    refine x_iload hC dL_law_865 rfl ?_
    refine x_iconst hC dL_law_867 ?_
    refine x_callV hC [.int (iZ k), .int (iZ e), .int (iZ 0)] 3 rfl dL_law_868 (fun l => m_X7_voyage l G ca ac (cA ac 163) μ d n h L9 t hX (hI2).1 k e 0 (by omega) (by omega) (by omega)) qM_L_66 qI_X7_voyage qS_X7_voyage qi_X7 qC_X7_voyage (by decide +kernel) (by decide) (by decide) rfl (Nat.le_of_ble_eq_true rfl) (xk (fun μ2 hμ2 => ?_)) rfl
    refine x_top (b9 := sCould d k e) (by unfold qVoy; rw [if_pos rfl]) ?_
    refine x_if_ne hC 889 dL_law_871 (by decide) (by omega) (fun c_3 => ?_) (fun c_3 => ?_)
    · refine x_iconst hC dL_law_889 ?_
      refine x_istore hC dL_law_890 (by decide) rfl ?_
      refine x_aload_n hC dL_law_892 rfl ?_
      refine x_iload hC dL_law_893 rfl ?_
      refine x_iconst hC dL_law_895 ?_
      refine x_callV hC [.int (iZ k), .int (iZ 4)] 2 rfl dL_law_896 (fun l => m_X7_shipOf l G ca ac (cA ac 163) μ2 d n h L9 t hμ2 (hI2).1 k 4 (by omega) (by omega)) qM_L_8 qI_X7_shipOf qS_X7_shipOf qi_X7 qC_X7_shipOf (by decide +kernel) (by decide) (by decide) rfl (Nat.le_of_ble_eq_true rfl) (xk (fun μ4 hμ4 => ?_)) rfl
      refine x_top (b9 := (sEnd d k).2.1) (ask_s4 (by omega)) ?_
      refine x_aload_n hC dL_law_899 rfl ?_
      refine x_iload hC dL_law_900 rfl ?_
      refine x_iload hC dL_law_902 rfl ?_
      refine x_iconst hC dL_law_904 ?_
      refine x_callV hC [.int (iZ k), .int (iZ e), .int (iZ 2)] 3 rfl dL_law_905 (fun l => m_X7_voyage l G ca ac (cA ac 163) μ4 d n h L9 t hμ4 (hI2).1 k e 2 (by omega) (by omega) (by omega)) qM_L_66 qI_X7_voyage qS_X7_voyage qi_X7 qC_X7_voyage (by decide +kernel) (by decide) (by decide) rfl (Nat.le_of_ble_eq_true rfl) (xk (fun μ5 hμ5 => ?_)) rfl
      refine x_top (b9 := sFree d k e (sEnd d k).1 (sEnd d k).2.1 - (sEnd d k).2.1) (by unfold qVoy; rw [if_neg (by decide)]) ?_
      refine x_iadd hC dL_law_908 ?_
      refine x_top (b9 := sFree d k e (sEnd d k).1 (sEnd d k).2.1) (by omega) ?_
      refine x_istore hC dL_law_909 (by decide) rfl ?_
      refine x_iload hC dL_law_911 rfl ?_
      refine x_iconst hC dL_law_913 ?_
      refine x_irem hC dL_law_914 (by omega) (by omega) ?_
      refine x_iconst hC dL_law_915 ?_
      refine x_icmp_eq hC 924 dL_law_916 (by decide) (by omega) (by omega) (fun c_6 => ?_) (fun c_6 => ?_)
      · refine x_aload_n hC dL_law_924 rfl ?_
        refine x_iload hC dL_law_925 rfl ?_
        refine x_iload hC dL_law_927 rfl ?_
        refine x_callV hC [.int (iZ k), .int (iZ e)] 2 rfl dL_law_929 (fun l => m_X7_fix l G ca ac (cA ac 163) μ5 d n h L9 t hμ5 (hI2).1 k e (by omega) (by omega) (inv_fix (hI2).1 k e).2.1) qM_L_69 qI_X7_fix qS_X7_fix qi_X7 qC_X7_fix (by decide +kernel) (by decide) (by decide) rfl (Nat.le_of_ble_eq_true rfl) (xk (fun μ7 hμ7 => ?_)) rfl
        have eμ7 : opFix d k e = (-1000002, d) := fx_no hk heC (by omega)
        have kμ7 := keep_err (r := opFix d k e) (by rw [eμ7]; show (-1000004 : Int) ≤ -1000002 ∧ (-1000002 : Int) ≤ -1000001; decide) hμ7
        refine x_top (b9 := -1000002) (by rw [eμ7]) ?_
        refine x_iload hC dL_law_932 rfl ?_
        refine x_if_eq hC 942 dL_law_934 (by decide) (by omega) (fun c_8 => ?_) (fun c_8 => ?_)
        · refine x_ldc hC (-1000002) qc_L_65 rfl dL_law_942 ?_
          refine x_sameN hC 976 (rfl) dL_law_944 (by decide) ?_
          refine x_aload_n hC dL_law_947 rfl ?_
          refine x_iload hC dL_law_948 rfl ?_
          refine x_bipush hC dL_law_950 (by decide) ?_
          refine x_callV hC [.int (iZ k), .int (iZ 7)] 2 rfl dL_law_952 (fun l => m_X7_shipOf l G ca ac (cA ac 163) μ7 d n h L9 t kμ7 (hI2).1 k 7 (by omega) (by omega)) qM_L_8 qI_X7_shipOf qS_X7_shipOf qi_X7 qC_X7_shipOf (by decide +kernel) (by decide) (by decide) rfl (Nat.le_of_ble_eq_true rfl) (xk (fun μ9 hμ9 => ?_)) rfl
          refine x_top (b9 := d (6 + k) 6) (ask_s7 (by omega)) ?_
          refine x_iload hC dL_law_955 rfl ?_
          refine x_if_eq hC 967 dL_law_957 (by decide) (by omega) (fun c_10 => ?_) (fun c_10 => ?_)
          · refine x_iload hC dL_law_967 rfl ?_
            refine x_sameN hC 976 (rfl) dL_law_969 (by decide) ?_
            refine x_iconst hC dL_law_972 ?_
            refine x_goto hC 977 dL_law_973 (by decide) ?_
            refine x_istore_n hC dL_law_977 (by decide) rfl ?_
            refine x_weak (L' := [(5, .int (iZ i)), (4, .int (iZ C)), (3, .int (iZ S)), (2, .int (iZ 1)), (1, .ref (ac 156)), (0, .ref b)]) ⟨rfl, rfl, rfl, rfl, rfl, rfl, trivial⟩ ?_
            exact kk _ _ _ _ hμ9 hI2 hS4 hC5
          · exfalso; omega
        · exfalso; omega
      · refine x_iload hC dL_law_919 rfl ?_
        refine x_if_eq hC 976 dL_law_921 (by decide) (by omega) (fun c_11 => ?_) (fun c_11 => ?_)
        · exfalso; omega
        · exfalso; omega
    · refine x_aload_n hC dL_law_874 rfl ?_
      refine x_iload hC dL_law_875 rfl ?_
      refine x_bipush hC dL_law_877 (by decide) ?_
      refine x_callV hC [.int (iZ e), .int (iZ 6)] 2 rfl dL_law_879 (fun l => m_X7_cargoOf l G ca ac (cA ac 163) μ2 d n h L9 t hμ2 (hI2).1 e 6 (by omega) (by omega)) qM_L_19 qI_X7_cargoOf qS_X7_cargoOf qi_X7 qC_X7_cargoOf (by decide +kernel) (by decide) (by decide) rfl (Nat.le_of_ble_eq_true rfl) (xk (fun μ12 hμ12 => ?_)) rfl
      refine x_top (b9 := d (16 + e) 6) (ask_c6 (by omega)) ?_
      refine x_if_ne hC 889 dL_law_882 (by decide) (by omega) (fun c_13 => ?_) (fun c_13 => ?_)
      · refine x_iconst hC dL_law_889 ?_
        refine x_istore hC dL_law_890 (by decide) rfl ?_
        refine x_aload_n hC dL_law_892 rfl ?_
        refine x_iload hC dL_law_893 rfl ?_
        refine x_iconst hC dL_law_895 ?_
        refine x_callV hC [.int (iZ k), .int (iZ 4)] 2 rfl dL_law_896 (fun l => m_X7_shipOf l G ca ac (cA ac 163) μ12 d n h L9 t hμ12 (hI2).1 k 4 (by omega) (by omega)) qM_L_8 qI_X7_shipOf qS_X7_shipOf qi_X7 qC_X7_shipOf (by decide +kernel) (by decide) (by decide) rfl (Nat.le_of_ble_eq_true rfl) (xk (fun μ14 hμ14 => ?_)) rfl
        refine x_top (b9 := (sEnd d k).2.1) (ask_s4 (by omega)) ?_
        refine x_aload_n hC dL_law_899 rfl ?_
        refine x_iload hC dL_law_900 rfl ?_
        refine x_iload hC dL_law_902 rfl ?_
        refine x_iconst hC dL_law_904 ?_
        refine x_callV hC [.int (iZ k), .int (iZ e), .int (iZ 2)] 3 rfl dL_law_905 (fun l => m_X7_voyage l G ca ac (cA ac 163) μ14 d n h L9 t hμ14 (hI2).1 k e 2 (by omega) (by omega) (by omega)) qM_L_66 qI_X7_voyage qS_X7_voyage qi_X7 qC_X7_voyage (by decide +kernel) (by decide) (by decide) rfl (Nat.le_of_ble_eq_true rfl) (xk (fun μ15 hμ15 => ?_)) rfl
        refine x_top (b9 := sFree d k e (sEnd d k).1 (sEnd d k).2.1 - (sEnd d k).2.1) (by unfold qVoy; rw [if_neg (by decide)]) ?_
        refine x_iadd hC dL_law_908 ?_
        refine x_top (b9 := sFree d k e (sEnd d k).1 (sEnd d k).2.1) (by omega) ?_
        refine x_istore hC dL_law_909 (by decide) rfl ?_
        refine x_iload hC dL_law_911 rfl ?_
        refine x_iconst hC dL_law_913 ?_
        refine x_irem hC dL_law_914 (by omega) (by omega) ?_
        refine x_iconst hC dL_law_915 ?_
        refine x_icmp_eq hC 924 dL_law_916 (by decide) (by omega) (by omega) (fun c_16 => ?_) (fun c_16 => ?_)
        · refine x_aload_n hC dL_law_924 rfl ?_
          refine x_iload hC dL_law_925 rfl ?_
          refine x_iload hC dL_law_927 rfl ?_
          refine x_callV hC [.int (iZ k), .int (iZ e)] 2 rfl dL_law_929 (fun l => m_X7_fix l G ca ac (cA ac 163) μ15 d n h L9 t hμ15 (hI2).1 k e (by omega) (by omega) (inv_fix (hI2).1 k e).2.1) qM_L_69 qI_X7_fix qS_X7_fix qi_X7 qC_X7_fix (by decide +kernel) (by decide) (by decide) rfl (Nat.le_of_ble_eq_true rfl) (xk (fun μ17 hμ17 => ?_)) rfl
          have eμ17 : opFix d k e = (-1000002, d) := fx_no hk heC (by omega)
          have kμ17 := keep_err (r := opFix d k e) (by rw [eμ17]; show (-1000004 : Int) ≤ -1000002 ∧ (-1000002 : Int) ≤ -1000001; decide) hμ17
          refine x_top (b9 := -1000002) (by rw [eμ17]) ?_
          refine x_iload hC dL_law_932 rfl ?_
          refine x_if_eq hC 942 dL_law_934 (by decide) (by omega) (fun c_18 => ?_) (fun c_18 => ?_)
          · refine x_ldc hC (-1000002) qc_L_65 rfl dL_law_942 ?_
            refine x_sameN hC 976 (rfl) dL_law_944 (by decide) ?_
            refine x_aload_n hC dL_law_947 rfl ?_
            refine x_iload hC dL_law_948 rfl ?_
            refine x_bipush hC dL_law_950 (by decide) ?_
            refine x_callV hC [.int (iZ k), .int (iZ 7)] 2 rfl dL_law_952 (fun l => m_X7_shipOf l G ca ac (cA ac 163) μ17 d n h L9 t kμ17 (hI2).1 k 7 (by omega) (by omega)) qM_L_8 qI_X7_shipOf qS_X7_shipOf qi_X7 qC_X7_shipOf (by decide +kernel) (by decide) (by decide) rfl (Nat.le_of_ble_eq_true rfl) (xk (fun μ19 hμ19 => ?_)) rfl
            refine x_top (b9 := d (6 + k) 6) (ask_s7 (by omega)) ?_
            refine x_iload hC dL_law_955 rfl ?_
            refine x_if_eq hC 967 dL_law_957 (by decide) (by omega) (fun c_20 => ?_) (fun c_20 => ?_)
            · refine x_iload hC dL_law_967 rfl ?_
              refine x_sameN hC 976 (rfl) dL_law_969 (by decide) ?_
              refine x_iconst hC dL_law_972 ?_
              refine x_goto hC 977 dL_law_973 (by decide) ?_
              refine x_istore_n hC dL_law_977 (by decide) rfl ?_
              refine x_weak (L' := [(5, .int (iZ i)), (4, .int (iZ C)), (3, .int (iZ S)), (2, .int (iZ 1)), (1, .ref (ac 156)), (0, .ref b)]) ⟨rfl, rfl, rfl, rfl, rfl, rfl, trivial⟩ ?_
              exact kk _ _ _ _ hμ19 hI2 hS4 hC5
            · exfalso; omega
          · exfalso; omega
        · refine x_iload hC dL_law_919 rfl ?_
          refine x_if_eq hC 976 dL_law_921 (by decide) (by omega) (fun c_21 => ?_) (fun c_21 => ?_)
          · exfalso; omega
          · exfalso; omega
      · refine x_iconst hC dL_law_885 ?_
        refine x_goto hC 890 dL_law_886 (by decide) ?_
        refine x_istore hC dL_law_890 (by decide) rfl ?_
        refine x_aload_n hC dL_law_892 rfl ?_
        refine x_iload hC dL_law_893 rfl ?_
        refine x_iconst hC dL_law_895 ?_
        refine x_callV hC [.int (iZ k), .int (iZ 4)] 2 rfl dL_law_896 (fun l => m_X7_shipOf l G ca ac (cA ac 163) μ12 d n h L9 t hμ12 (hI2).1 k 4 (by omega) (by omega)) qM_L_8 qI_X7_shipOf qS_X7_shipOf qi_X7 qC_X7_shipOf (by decide +kernel) (by decide) (by decide) rfl (Nat.le_of_ble_eq_true rfl) (xk (fun μ22 hμ22 => ?_)) rfl
        refine x_top (b9 := (sEnd d k).2.1) (ask_s4 (by omega)) ?_
        refine x_aload_n hC dL_law_899 rfl ?_
        refine x_iload hC dL_law_900 rfl ?_
        refine x_iload hC dL_law_902 rfl ?_
        refine x_iconst hC dL_law_904 ?_
        refine x_callV hC [.int (iZ k), .int (iZ e), .int (iZ 2)] 3 rfl dL_law_905 (fun l => m_X7_voyage l G ca ac (cA ac 163) μ22 d n h L9 t hμ22 (hI2).1 k e 2 (by omega) (by omega) (by omega)) qM_L_66 qI_X7_voyage qS_X7_voyage qi_X7 qC_X7_voyage (by decide +kernel) (by decide) (by decide) rfl (Nat.le_of_ble_eq_true rfl) (xk (fun μ23 hμ23 => ?_)) rfl
        refine x_top (b9 := sFree d k e (sEnd d k).1 (sEnd d k).2.1 - (sEnd d k).2.1) (by unfold qVoy; rw [if_neg (by decide)]) ?_
        refine x_iadd hC dL_law_908 ?_
        refine x_top (b9 := sFree d k e (sEnd d k).1 (sEnd d k).2.1) (by omega) ?_
        refine x_istore hC dL_law_909 (by decide) rfl ?_
        refine x_iload hC dL_law_911 rfl ?_
        refine x_iconst hC dL_law_913 ?_
        refine x_irem hC dL_law_914 (by omega) (by omega) ?_
        refine x_iconst hC dL_law_915 ?_
        refine x_icmp_eq hC 924 dL_law_916 (by decide) (by omega) (by omega) (fun c_24 => ?_) (fun c_24 => ?_)
        · refine x_aload_n hC dL_law_924 rfl ?_
          refine x_iload hC dL_law_925 rfl ?_
          refine x_iload hC dL_law_927 rfl ?_
          refine x_callV hC [.int (iZ k), .int (iZ e)] 2 rfl dL_law_929 (fun l => m_X7_fix l G ca ac (cA ac 163) μ23 d n h L9 t hμ23 (hI2).1 k e (by omega) (by omega) (inv_fix (hI2).1 k e).2.1) qM_L_69 qI_X7_fix qS_X7_fix qi_X7 qC_X7_fix (by decide +kernel) (by decide) (by decide) rfl (Nat.le_of_ble_eq_true rfl) (xk (fun μ25 hμ25 => ?_)) rfl
          have hq9 : d (16 + e) 6 = 0 ∧ sCould d k e = 0 := by omega
          obtain ⟨r, D, hRμ25⟩ : ∃ r D, opFix d k e = (r, D) := ⟨_, _, rfl⟩
          obtain ⟨z6, hr9⟩ := fx_6 hk heC hN1.2 hq9 hRμ25
          have F := in2_fix hI2 k e
          rw [hRμ25] at F
          change zIn2 D ∧ D 0 4 = d 0 4 ∧ D 0 5 = d 0 5 at F
          obtain ⟨z2, zDS, zDC⟩ := F
          have kμ25 := keep_ok (r := opFix d k e) (by rw [hRμ25]; exact (by show 0 ≤ r; omega)) hμ25
          rw [hRμ25] at kμ25
          change zSt μ25 D (sPushN n) (sPushH n h d) L9 t at kμ25
          refine x_top (b9 := sFree d k e (sEnd d k).1 (sEnd d k).2.1) (by rw [hRμ25]; exact hr9) ?_
          refine x_iload hC dL_law_932 rfl ?_
          refine x_if_eq hC 942 dL_law_934 (by decide) (by omega) (fun c_26 => ?_) (fun c_26 => ?_)
          · exfalso; omega
          · refine x_iload hC dL_law_937 rfl ?_
            refine x_goto hC 944 dL_law_939 (by decide) ?_
            refine x_sameN hC 976 (rfl) dL_law_944 (by decide) ?_
            refine x_aload_n hC dL_law_947 rfl ?_
            refine x_iload hC dL_law_948 rfl ?_
            refine x_bipush hC dL_law_950 (by decide) ?_
            refine x_callV hC [.int (iZ k), .int (iZ 7)] 2 rfl dL_law_952 (fun l => m_X7_shipOf l G ca ac (cA ac 163) μ25 D (sPushN n) (sPushH n h d) L9 t kμ25 (z2).1 k 7 (by omega) (by omega)) qM_L_8 qI_X7_shipOf qS_X7_shipOf qi_X7 qC_X7_shipOf (by decide +kernel) (by decide) (by decide) rfl (Nat.le_of_ble_eq_true rfl) (xk (fun μ27 hμ27 => ?_)) rfl
            refine x_top (b9 := D (6 + k) 6) (ask_s7 (by omega)) ?_
            refine x_iload hC dL_law_955 rfl ?_
            refine x_if_eq hC 967 dL_law_957 (by decide) (by omega) (fun c_28 => ?_) (fun c_28 => ?_)
            · exfalso; omega
            · refine x_iload hC dL_law_960 rfl ?_
              refine x_iconst hC dL_law_962 ?_
              refine x_iadd hC dL_law_963 ?_
              refine x_goto hC 969 dL_law_964 (by decide) ?_
              refine x_sameN hC 976 (congrArg iZ z6) dL_law_969 (by decide) ?_
              refine x_iconst hC dL_law_972 ?_
              refine x_goto hC 977 dL_law_973 (by decide) ?_
              refine x_istore_n hC dL_law_977 (by decide) rfl ?_
              refine x_weak (L' := [(5, .int (iZ i)), (4, .int (iZ C)), (3, .int (iZ S)), (2, .int (iZ 1)), (1, .ref (ac 156)), (0, .ref b)]) ⟨rfl, rfl, rfl, rfl, rfl, rfl, trivial⟩ ?_
              exact kk _ _ _ _ hμ27 z2 (zDS.trans hS4) (zDC.trans hC5)
        · refine x_iload hC dL_law_919 rfl ?_
          refine x_if_eq hC 976 dL_law_921 (by decide) (by omega) (fun c_29 => ?_) (fun c_29 => ?_)
          · exfalso; omega
          · refine x_aload_n hC dL_law_924 rfl ?_
            refine x_iload hC dL_law_925 rfl ?_
            refine x_iload hC dL_law_927 rfl ?_
            refine x_callV hC [.int (iZ k), .int (iZ e)] 2 rfl dL_law_929 (fun l => m_X7_fix l G ca ac (cA ac 163) μ23 d n h L9 t hμ23 (hI2).1 k e (by omega) (by omega) (inv_fix (hI2).1 k e).2.1) qM_L_69 qI_X7_fix qS_X7_fix qi_X7 qC_X7_fix (by decide +kernel) (by decide) (by decide) rfl (Nat.le_of_ble_eq_true rfl) (xk (fun μ30 hμ30 => ?_)) rfl
            have hq9 : d (16 + e) 6 = 0 ∧ sCould d k e = 0 := by omega
            obtain ⟨r, D, hRμ30⟩ : ∃ r D, opFix d k e = (r, D) := ⟨_, _, rfl⟩
            obtain ⟨z6, hr9⟩ := fx_6 hk heC hN1.2 hq9 hRμ30
            have F := in2_fix hI2 k e
            rw [hRμ30] at F
            change zIn2 D ∧ D 0 4 = d 0 4 ∧ D 0 5 = d 0 5 at F
            obtain ⟨z2, zDS, zDC⟩ := F
            have kμ30 := keep_ok (r := opFix d k e) (by rw [hRμ30]; exact (by show 0 ≤ r; omega)) hμ30
            rw [hRμ30] at kμ30
            change zSt μ30 D (sPushN n) (sPushH n h d) L9 t at kμ30
            refine x_top (b9 := sFree d k e (sEnd d k).1 (sEnd d k).2.1) (by rw [hRμ30]; exact hr9) ?_
            refine x_iload hC dL_law_932 rfl ?_
            refine x_if_eq hC 942 dL_law_934 (by decide) (by omega) (fun c_31 => ?_) (fun c_31 => ?_)
            · exfalso; omega
            · refine x_iload hC dL_law_937 rfl ?_
              refine x_goto hC 944 dL_law_939 (by decide) ?_
              refine x_sameN hC 976 (rfl) dL_law_944 (by decide) ?_
              refine x_aload_n hC dL_law_947 rfl ?_
              refine x_iload hC dL_law_948 rfl ?_
              refine x_bipush hC dL_law_950 (by decide) ?_
              refine x_callV hC [.int (iZ k), .int (iZ 7)] 2 rfl dL_law_952 (fun l => m_X7_shipOf l G ca ac (cA ac 163) μ30 D (sPushN n) (sPushH n h d) L9 t kμ30 (z2).1 k 7 (by omega) (by omega)) qM_L_8 qI_X7_shipOf qS_X7_shipOf qi_X7 qC_X7_shipOf (by decide +kernel) (by decide) (by decide) rfl (Nat.le_of_ble_eq_true rfl) (xk (fun μ32 hμ32 => ?_)) rfl
              refine x_top (b9 := D (6 + k) 6) (ask_s7 (by omega)) ?_
              refine x_iload hC dL_law_955 rfl ?_
              refine x_if_eq hC 967 dL_law_957 (by decide) (by omega) (fun c_33 => ?_) (fun c_33 => ?_)
              · exfalso; omega
              · refine x_iload hC dL_law_960 rfl ?_
                refine x_iconst hC dL_law_962 ?_
                refine x_iadd hC dL_law_963 ?_
                refine x_goto hC 969 dL_law_964 (by decide) ?_
                refine x_sameN hC 976 (congrArg iZ z6) dL_law_969 (by decide) ?_
                refine x_iconst hC dL_law_972 ?_
                refine x_goto hC 977 dL_law_973 (by decide) ?_
                refine x_istore_n hC dL_law_977 (by decide) rfl ?_
                refine x_weak (L' := [(5, .int (iZ i)), (4, .int (iZ C)), (3, .int (iZ S)), (2, .int (iZ 1)), (1, .ref (ac 156)), (0, .ref b)]) ⟨rfl, rfl, rfl, rfl, rfl, rfl, trivial⟩ ?_
                exact kk _ _ _ _ hμ32 z2 (zDS.trans hS4) (zDC.trans hC5)
  · refine x_iload hC dL_law_846 rfl ?_
    refine x_ldc hC (-1000004) qc_L_18 rfl dL_law_848 ?_
    refine x_sameN hC 857 (congrArg iZ (by omega)) dL_law_850 (by decide) ?_
    refine x_iconst hC dL_law_853 ?_
    refine x_goto hC 858 dL_law_854 (by decide) ?_
    refine x_istore_n hC dL_law_858 (by decide) rfl ?_
    refine x_goto hC 978 dL_law_859 (by decide) ?_
    refine x_weak (L' := [(5, .int (iZ i)), (4, .int (iZ C)), (3, .int (iZ S)), (2, .int (iZ 1)), (1, .ref (ac 156)), (0, .ref b)]) ⟨rfl, rfl, rfl, rfl, rfl, rfl, trivial⟩ ?_
    exact kk _ _ _ _ hX hI2 hS4 hC5

set_option maxHeartbeats 4000000 in
set_option maxRecDepth 100000 in
/-- the default: the best cargo, or one of the script -/
theorem law_best {Γ : zG} {G : va_G} {ca : Nat → ClassId} {ac : Int → Nat} {b Lx : Nat} {xs : Nat → Int32} (hC : xC Γ G ca ac b Lx xs) {μ d : zM} {n : Int} {h : Int → zM} {L9 : Int} {t : Int → Int} (hX : zSt μ d n h L9 t) (hI2 : zIn2 d) {S C : Int} (hS4 : d 0 4 = S) (hC5 : d 0 5 = C) {y k c i : Int} (hy : 0 ≤ y ∧ y ≤ 2147483647) (hk0 : 0 ≤ k ∧ k < S) (hc0 : 0 ≤ c ∧ c < C)  (kk : ∀ (μ9 d9 : zM) (n9 : Int) (h9 : Int → zM), zSt μ9 d9 n9 h9 L9 t → zIn2 d9 → d9 0 4 = S → d9 0 5 = C → X Γ G ca ac μ9 978 [(5, .int (iZ i)), (4, .int (iZ C)), (3, .int (iZ S)), (2, .int (iZ 1)), (1, .ref (ac 156)), (0, .ref b)] []) : X Γ G ca ac μ 821 [(9, .int (iZ (d (6 + k) 6))), (8, .int (iZ c)), (7, .int (iZ k)), (6, .int (iZ y)), (5, .int (iZ i)), (4, .int (iZ C)), (3, .int (iZ S)), (2, .int (iZ 1)), (1, .ref (ac 156)), (0, .ref b)] [] := by
  have hI : zInv d := hI2.1
  obtain ⟨hB, _⟩ := id hI
  obtain ⟨hN, hP, hB3, hB4⟩ := id hB
  obtain ⟨hN1, hN2⟩ := id hN
  have hk : 0 ≤ k ∧ k < d 0 4 := by omega
  obtain ⟨hs0, hs1, hs2, hs3, hs4, hs6⟩ := hB3 k hk
  have hNe := sNum_e (d := d) (k := k) hs6.1
  have hG := zInv_G hI k hk
  refine x_iload hC dL_law_821 rfl ?_
  refine x_iconst hC dL_law_823 ?_
  refine x_irem hC dL_law_824 (by omega) (by omega) ?_
  refine x_if_ne hC 837 dL_law_825 (by decide) (by omega) (fun c_1 => ?_) (fun c_1 => ?_)
  · refine x_iload hC dL_law_837 rfl ?_
    refine x_weak (L' := [(9, .int (iZ (d (6 + k) 6))), (8, .int (iZ c)), (7, .int (iZ k)), (6, .int (iZ y)), (5, .int (iZ i)), (4, .int (iZ C)), (3, .int (iZ S)), (2, .int (iZ 1)), (1, .ref (ac 156)), (0, .ref b)]) ⟨rfl, rfl, rfl, rfl, rfl, rfl, rfl, rfl, rfl, rfl, trivial⟩ ?_
    exact law_fix hC hX hI2 hS4 hC5 hy hk0 hc0 (Or.inr (by omega)) (fun z => by omega) kk
  · refine x_aload_n hC dL_law_828 rfl ?_
    refine x_iload hC dL_law_829 rfl ?_
    refine x_callV hC [.int (iZ k)] 1 rfl dL_law_831 (fun l => m_X7_bestCargo l G ca ac (cA ac 163) μ d n h L9 t hX (hI2).1 k (by omega)) qM_L_40 qI_X7_bestCargo qS_X7_bestCargo qi_X7 qC_X7_bestCargo (by decide +kernel) (by decide) (by decide) rfl (Nat.le_of_ble_eq_true rfl) (xk (fun μ2 hμ2 => ?_)) rfl
    refine x_topn (fun e he0 => ?_)
    have hbe := bestC_ok (d := d) (k := k) (a := μ 0 9) (b := μ 0 10) (e := μ 0 11) hk hN2.1
    rw [← he0] at hbe
    refine x_goto hC 839 dL_law_834 (by decide) ?_
    refine x_weak (L' := [(9, .int (iZ (d (6 + k) 6))), (8, .int (iZ c)), (7, .int (iZ k)), (6, .int (iZ y)), (5, .int (iZ i)), (4, .int (iZ C)), (3, .int (iZ S)), (2, .int (iZ 1)), (1, .ref (ac 156)), (0, .ref b)]) ⟨rfl, rfl, rfl, rfl, rfl, rfl, rfl, rfl, rfl, rfl, trivial⟩ ?_
    exact law_fix hC hμ2 hI2 hS4 hC5 hy hk0 hc0 (by omega) (fun _ => by omega) kk
