set_option maxHeartbeats 4000000 in
set_option maxRecDepth 100000 in
/-- cargoes -/
theorem m_X8_cargoes (l : Launch) (G : va_G) (ca : Nat → ClassId) (ad : Int → Nat) (A : Nat → Prop) (μ : zM) (d : zM) (hd : rv μ 0 = d) (st : Int) (hst : -2147483648 ≤ st ∧ st ≤ 2147483647) (N : Nat) (hNN : (N : Int) = d 0 5) (hB : bD d) : zMet l (rω G ca ad) A yX8_cargoes cX8_cargoes 4 (some .int) 1 22 [.ref (ad 0), .int (iZ st)] μ (zpI (.int (iZ (sCnt d st N))) (fun m => m = μ)) := by
  refine zMet_of (by decide) (Nat.le_of_ble_eq_true rfl) (fun Γ hC => ?_)
  show Z Γ _ μ 0 [(0, .ref (ad 0)), (1, .int (iZ st))] []
  obtain ⟨hN, hP, hB3, hB4⟩ := id hB
  obtain ⟨hN1, hN2⟩ := id hN
  refine z_iconst hC dX8_cargoes_0 ?_
  refine z_istore_n hC dX8_cargoes_1 (by decide) rfl ?_
  refine z_iconst hC dX8_cargoes_2 ?_
  refine z_istore_n hC dX8_cargoes_3 (by decide) rfl ?_
  have LOOP : ∀ (r n : Nat), n + r = N → ∀ a : Int, a = sCnt d st n → Z Γ (rω G ca ad) μ 4 [(3, .int (iZ (n : Int))), (2, .int (iZ a)), (0, .ref (ad 0)), (1, .int (iZ st))] [] := by
    intro r
    induction r with
    | zero =>
      intro n hn a ha
      refine z_iload_n hC dX8_cargoes_4 rfl ?_
      refine z_aload_n hC dX8_cargoes_5 rfl ?_
      refine z_get hC iA_X8 rfl 0 (by decide) qF_X8_7 rfl dX8_cargoes_6 rl_0 (rd_0 (ca := ca) (ad := ad)) rfl ?_
      refine z_bipush hC dX8_cargoes_9 (by decide) ?_
      refine z_iald hC dX8_cargoes_11 rl_1 (rd_1 (ca := ca) (ad := ad)) (by omega) (by omega) (by decide) ?_
      refine z_top (b := d 0 5) ((rv_C).symm.trans (congrFun (congrFun hd _) _)) ?_
      refine z_icmp_ge hC 45 dX8_cargoes_12 (by decide) (by omega) (by omega) (fun c_1 => ?_) (fun c_1 => ?_)
      · refine z_iload_n hC dX8_cargoes_45 rfl ?_
        obtain rfl : n = N := by omega
        exact z_iret hC dX8_cargoes_46 ⟨by rw [ha], rfl⟩
      · exfalso; omega
    | succ r ih =>
      intro n hn a ha
      have hn9 : (n : Int) < d 0 5 := by omega
      obtain ⟨hc0, hc1, hc2, hc3, hc4, hc5, hc6⟩ := hB4 (n : Int) (by omega)
      refine z_iload_n hC dX8_cargoes_4 rfl ?_
      refine z_aload_n hC dX8_cargoes_5 rfl ?_
      refine z_get hC iA_X8 rfl 0 (by decide) qF_X8_7 rfl dX8_cargoes_6 rl_0 (rd_0 (ca := ca) (ad := ad)) rfl ?_
      refine z_bipush hC dX8_cargoes_9 (by decide) ?_
      refine z_iald hC dX8_cargoes_11 rl_1 (rd_1 (ca := ca) (ad := ad)) (by omega) (by omega) (by decide) ?_
      refine z_top (b := d 0 5) ((rv_C).symm.trans (congrFun (congrFun hd _) _)) ?_
      refine z_icmp_ge hC 45 dX8_cargoes_12 (by decide) (by omega) (by omega) (fun c_2 => ?_) (fun c_2 => ?_)
      · exfalso; omega
      · refine z_iload_n hC dX8_cargoes_15 rfl ?_
        refine z_aload_n hC dX8_cargoes_16 rfl ?_
        refine z_get hC iA_X8 rfl 0 (by decide) qF_X8_7 rfl dX8_cargoes_17 rl_0 (rd_0 (ca := ca) (ad := ad)) rfl ?_
        refine z_iconst hC dX8_cargoes_20 ?_
        refine z_iload_n hC dX8_cargoes_21 rfl ?_
        refine z_bipush hC dX8_cargoes_22 (by decide) ?_
        refine z_callS hC [.int (iZ 0), .int (iZ (n : Int)), .int (iZ 6)] 3 rfl dX8_cargoes_24 (fun l => m_X8_cargoAt l _ _ _ 0 (n : Int) 6) qM_X8_44 qT_X8_cargoAt qi_X8 qC_X8_cargoAt (by decide +kernel) (by decide) (by decide) (Nat.le_of_ble_eq_true rfl) (zk_pure ?_) rfl
        refine z_iald hC dX8_cargoes_27 rl_1 (rd_1 (ca := ca) (ad := ad)) (by omega) (by omega) (by decide) ?_
        refine z_top (b := d (16 + (n : Int)) 6) ((rv_cargo (by omega) (by omega)).symm.trans (congrFun (congrFun hd _) _)) ?_
        refine z_iload_n hC dX8_cargoes_28 rfl ?_
        refine z_icmp_ne hC 36 dX8_cargoes_29 (by decide) (by omega) (by omega) (fun c_3 => ?_) (fun c_3 => ?_)
        · refine z_iconst hC dX8_cargoes_36 ?_
          refine z_iadd hC dX8_cargoes_37 ?_
          refine z_istore_n hC dX8_cargoes_38 (by decide) rfl ?_
          refine z_iinc hC dX8_cargoes_39 rfl (by decide) rfl ?_
          refine z_goto hC 4 dX8_cargoes_42 (by decide) ?_
          refine z_weak (L' := [(3, .int (iZ ((n + 1 : Nat) : Int))), (2, .int (iZ (a + 0))), (0, .ref (ad 0)), (1, .int (iZ st))]) ⟨rfl, rfl, rfl, rfl, trivial⟩ ?_
          exact ih (n + 1) (by omega) _ (by unfold sCnt; split <;> omega)
        · refine z_iconst hC dX8_cargoes_32 ?_
          refine z_goto hC 37 dX8_cargoes_33 (by decide) ?_
          refine z_iadd hC dX8_cargoes_37 ?_
          refine z_istore_n hC dX8_cargoes_38 (by decide) rfl ?_
          refine z_iinc hC dX8_cargoes_39 rfl (by decide) rfl ?_
          refine z_goto hC 4 dX8_cargoes_42 (by decide) ?_
          refine z_weak (L' := [(3, .int (iZ ((n + 1 : Nat) : Int))), (2, .int (iZ (a + 1))), (0, .ref (ad 0)), (1, .int (iZ st))]) ⟨rfl, rfl, rfl, rfl, trivial⟩ ?_
          exact ih (n + 1) (by omega) _ (by unfold sCnt; split <;> omega)
  refine z_weak (L' := [(3, .int (iZ ((0 : Nat) : Int))), (2, .int (iZ 0)), (0, .ref (ad 0)), (1, .int (iZ st))]) ⟨rfl, rfl, rfl, rfl, trivial⟩ ?_
  exact LOOP N 0 (by omega) _ rfl

set_option maxHeartbeats 4000000 in
set_option maxRecDepth 100000 in
/-- accounts -/
theorem m_X8_accounts (l : Launch) (G : va_G) (ca : Nat → ClassId) (ad : Int → Nat) (A : Nat → Prop) (μ : zM) (d : zM) (hd : rv μ 0 = d) (N : Nat) (hNN : (N : Int) = d 0 4) (hB : bD d) : zMet l (rω G ca ad) A yX8_accounts cX8_accounts 3 (some .int) 1 22 [.ref (ad 0)] μ (zpI (.int (iZ (sAcc d N + 1000000))) (fun m => m = μ)) := by
  refine zMet_of (by decide) (Nat.le_of_ble_eq_true rfl) (fun Γ hC => ?_)
  show Z Γ _ μ 0 [(0, .ref (ad 0))] []
  obtain ⟨hN, hP, hB3, hB4⟩ := id hB
  obtain ⟨hN1, hN2⟩ := id hN
  refine z_ldc hC (1000000) qc_X8_129 rfl dX8_accounts_0 ?_
  refine z_istore_n hC dX8_accounts_2 (by decide) rfl ?_
  refine z_iconst hC dX8_accounts_3 ?_
  refine z_istore_n hC dX8_accounts_4 (by decide) rfl ?_
  have LOOP : ∀ (r n : Nat), n + r = N → ∀ a : Int, a = sAcc d n + 1000000 → Z Γ (rω G ca ad) μ 5 [(2, .int (iZ (n : Int))), (1, .int (iZ a)), (0, .ref (ad 0))] [] := by
    intro r
    induction r with
    | zero =>
      intro n hn a ha
      refine z_iload_n hC dX8_accounts_5 rfl ?_
      refine z_aload_n hC dX8_accounts_6 rfl ?_
      refine z_get hC iA_X8 rfl 0 (by decide) qF_X8_7 rfl dX8_accounts_7 rl_0 (rd_0 (ca := ca) (ad := ad)) rfl ?_
      refine z_bipush hC dX8_accounts_10 (by decide) ?_
      refine z_iald hC dX8_accounts_12 rl_1 (rd_1 (ca := ca) (ad := ad)) (by omega) (by omega) (by decide) ?_
      refine z_top (b := d 0 4) ((rv_S).symm.trans (congrFun (congrFun hd _) _)) ?_
      refine z_icmp_ge hC 36 dX8_accounts_13 (by decide) (by omega) (by omega) (fun c_1 => ?_) (fun c_1 => ?_)
      · refine z_iload_n hC dX8_accounts_36 rfl ?_
        obtain rfl : n = N := by omega
        exact z_iret hC dX8_accounts_37 ⟨by rw [ha], rfl⟩
      · exfalso; omega
    | succ r ih =>
      intro n hn a ha
      have hn9 : (n : Int) < d 0 4 := by omega
      refine z_iload_n hC dX8_accounts_5 rfl ?_
      refine z_aload_n hC dX8_accounts_6 rfl ?_
      refine z_get hC iA_X8 rfl 0 (by decide) qF_X8_7 rfl dX8_accounts_7 rl_0 (rd_0 (ca := ca) (ad := ad)) rfl ?_
      refine z_bipush hC dX8_accounts_10 (by decide) ?_
      refine z_iald hC dX8_accounts_12 rl_1 (rd_1 (ca := ca) (ad := ad)) (by omega) (by omega) (by decide) ?_
      refine z_top (b := d 0 4) ((rv_S).symm.trans (congrFun (congrFun hd _) _)) ?_
      refine z_icmp_ge hC 36 dX8_accounts_13 (by decide) (by omega) (by omega) (fun c_2 => ?_) (fun c_2 => ?_)
      · exfalso; omega
      · refine z_iload_n hC dX8_accounts_16 rfl ?_
        refine z_aload_n hC dX8_accounts_17 rfl ?_
        refine z_get hC iA_X8 rfl 0 (by decide) qF_X8_7 rfl dX8_accounts_18 rl_0 (rd_0 (ca := ca) (ad := ad)) rfl ?_
        refine z_iconst hC dX8_accounts_21 ?_
        refine z_iload_n hC dX8_accounts_22 rfl ?_
        refine z_iconst hC dX8_accounts_23 ?_
        refine z_callS hC [.int (iZ 0), .int (iZ (n : Int)), .int (iZ 5)] 3 rfl dX8_accounts_24 (fun l => m_X8_shipAt l _ _ _ 0 (n : Int) 5) qM_X8_37 qT_X8_shipAt qi_X8 qC_X8_shipAt (by decide +kernel) (by decide) (by decide) (Nat.le_of_ble_eq_true rfl) (zk_pure ?_) rfl
        refine z_iald hC dX8_accounts_27 rl_1 (rd_1 (ca := ca) (ad := ad)) (by omega) (by omega) (by decide) ?_
        refine z_top (b := d (6 + (n : Int)) 5) ((rv_ship (by omega) (by omega)).symm.trans (congrFun (congrFun hd _) _)) ?_
        refine z_iadd hC dX8_accounts_28 ?_
        refine z_istore_n hC dX8_accounts_29 (by decide) rfl ?_
        refine z_iinc hC dX8_accounts_30 rfl (by decide) rfl ?_
        refine z_goto hC 5 dX8_accounts_33 (by decide) ?_
        refine z_weak (L' := [(2, .int (iZ ((n + 1 : Nat) : Int))), (1, .int (iZ (a + (d (6 + (n : Int)) 5)))), (0, .ref (ad 0))]) ⟨rfl, rfl, rfl, trivial⟩ ?_
        exact ih (n + 1) (by omega) _ (by unfold sAcc; omega)
  refine z_weak (L' := [(2, .int (iZ ((0 : Nat) : Int))), (1, .int (iZ 1000000)), (0, .ref (ad 0))]) ⟨rfl, rfl, rfl, trivial⟩ ?_
  exact LOOP N 0 (by omega) _ rfl

set_option maxHeartbeats 4000000 in
set_option maxRecDepth 100000 in
/-- distance -/
theorem m_X8_distance (l : Launch) (G : va_G) (ca : Nat → ClassId) (ad : Int → Nat) (A : Nat → Prop) (μ : zM) (d : zM) (n : Int) (h : Int → zM) (L : Int) (t : Int → Int) (hX : rSt μ d n h L t) (hI : zInv d) (p q : Int) (hp : -2147483648 ≤ p ∧ p ≤ 2147483647) (hq : -2147483648 ≤ q ∧ q ≤ 2147483647) : zMet l (rω G ca ad) A yX8_distance cX8_distance 3 (some .int) 2 43 [.ref (ad 0), .int (iZ p), .int (iZ q)] μ (zpI (.int (iZ (qDist d p q))) (fun μ' => rSt μ' d n h L t)) := by
  refine zMet_of (by decide) (Nat.le_of_ble_eq_true rfl) (fun Γ hC => ?_)
  show Z Γ _ μ 0 [(0, .ref (ad 0)), (1, .int (iZ p)), (2, .int (iZ q))] []
  obtain ⟨hB, hf5, hf6, hIF, hIS, hII, hIL⟩ := id hI
  obtain ⟨hN, hP, hB3, hB4⟩ := id hB
  obtain ⟨hN1, hN2⟩ := id hN
  refine z_iload_n hC dX8_distance_0 rfl ?_
  refine z_iconst hC dX8_distance_1 ?_
  refine z_bipush hC dX8_distance_2 (by decide) ?_
  refine z_callS hC [.int (iZ p), .int (iZ 0), .int (iZ 7)] 3 rfl dX8_distance_4 (fun l => m_X8_in l _ _ _ p 0 7 (by omega) (by omega) (by omega)) qM_X8_29 qT_X8_in qi_X8 qC_X8_in (by decide +kernel) (by decide) (by decide) (Nat.le_of_ble_eq_true rfl) (zk_pure ?_) rfl
  refine z_ifb_eq hC 29 dX8_distance_7 (by decide) (fun c_1 => ?_) (fun c_1 => ?_)
  · refine z_ldc hC (-1000001) qc_X8_24 rfl dX8_distance_29 ?_
    exact z_iret hC dX8_distance_31 ⟨by unfold qDist; rw [if_pos (by omega)], hX⟩
  · refine z_iload_n hC dX8_distance_10 rfl ?_
    refine z_iconst hC dX8_distance_11 ?_
    refine z_bipush hC dX8_distance_12 (by decide) ?_
    refine z_callS hC [.int (iZ q), .int (iZ 0), .int (iZ 7)] 3 rfl dX8_distance_14 (fun l => m_X8_in l _ _ _ q 0 7 (by omega) (by omega) (by omega)) qM_X8_29 qT_X8_in qi_X8 qC_X8_in (by decide +kernel) (by decide) (by decide) (Nat.le_of_ble_eq_true rfl) (zk_pure ?_) rfl
    refine z_ifb_eq hC 29 dX8_distance_17 (by decide) (fun c_2 => ?_) (fun c_2 => ?_)
    · refine z_ldc hC (-1000001) qc_X8_24 rfl dX8_distance_29 ?_
      exact z_iret hC dX8_distance_31 ⟨by unfold qDist; rw [if_pos (by omega)], hX⟩
    · refine z_aload_n hC dX8_distance_20 rfl ?_
      refine z_iload_n hC dX8_distance_21 rfl ?_
      refine z_iload_n hC dX8_distance_22 rfl ?_
      refine z_callV hC [.int (iZ p), .int (iZ q)] 2 rfl dX8_distance_23 (fun l => m_X8_far l G ca ad _ μ d hX.1 p q hP (by omega) (by omega)) qM_X8_41 qI_X8_far qS_X8_far qi_X8 qC_X8_far (by decide +kernel) (by decide) (by decide) rl_0 (rd_0 (ca := ca) (ad := ad)) rfl (Nat.le_of_ble_eq_true rfl) (zk_pure ?_) rfl
      refine z_goto hC 31 dX8_distance_26 (by decide) ?_
      exact z_iret hC dX8_distance_31 ⟨by unfold qDist; rw [if_neg (by omega)], hX⟩

set_option maxHeartbeats 4000000 in
set_option maxRecDepth 100000 in
/-- cargoOf -/
theorem m_X8_cargoOf (l : Launch) (G : va_G) (ca : Nat → ClassId) (ad : Int → Nat) (A : Nat → Prop) (μ : zM) (d : zM) (n : Int) (h : Int → zM) (L : Int) (t : Int → Int) (hX : rSt μ d n h L t) (hI : zInv d) (c w : Int) (hc : -2147483648 ≤ c ∧ c ≤ 2147483647) (hw : -2147483648 ≤ w ∧ w ≤ 2147483647) : zMet l (rω G ca ad) A yX8_cargoOf cX8_cargoOf 3 (some .int) 2 43 [.ref (ad 0), .int (iZ c), .int (iZ w)] μ (zpI (.int (iZ (qCargo d c w))) (fun μ' => rSt μ' d n h L t)) := by
  refine zMet_of (by decide) (Nat.le_of_ble_eq_true rfl) (fun Γ hC => ?_)
  show Z Γ _ μ 0 [(0, .ref (ad 0)), (1, .int (iZ c)), (2, .int (iZ w))] []
  obtain ⟨hB, hf5, hf6, hIF, hIS, hII, hIL⟩ := id hI
  obtain ⟨hN, hP, hB3, hB4⟩ := id hB
  obtain ⟨hN1, hN2⟩ := id hN
  refine z_aload_n hC dX8_cargoOf_0 rfl ?_
  refine z_iload_n hC dX8_cargoOf_1 rfl ?_
  refine z_callV hC [.int (iZ c)] 1 rfl dX8_cargoOf_2 (fun l => m_X8_isCargo l G ca ad _ μ d hX.1 c (by omega) (by omega)) qM_X8_95 qI_X8_isCargo qS_X8_isCargo qi_X8 qC_X8_isCargo (by decide +kernel) (by decide) (by decide) rl_0 (rd_0 (ca := ca) (ad := ad)) rfl (Nat.le_of_ble_eq_true rfl) (zk_pure ?_) rfl
  refine z_ifb_eq hC 18 dX8_cargoOf_5 (by decide) (fun c_1 => ?_) (fun c_1 => ?_)
  · refine z_ldc hC (-1000001) qc_X8_24 rfl dX8_cargoOf_18 ?_
    have e9 : qCargo d c w = -1000001 := by
      unfold qCargo
      by_cases q9 : 0 ≤ c ∧ c < d 0 5
      · rw [if_neg (by omega), if_neg (by omega), if_neg (by omega), if_neg (by omega), if_neg (by omega), if_neg (by omega), if_neg (by omega), if_neg (by omega), if_neg (by omega)]
      · rw [if_pos (by omega)]
    exact z_iret hC dX8_cargoOf_20 ⟨by rw [e9], hX⟩
  · refine z_iload_n hC dX8_cargoOf_8 rfl ?_
    refine z_iconst hC dX8_cargoOf_9 ?_
    refine z_bipush hC dX8_cargoOf_10 (by decide) ?_
    refine z_callS hC [.int (iZ w), .int (iZ 0), .int (iZ 7)] 3 rfl dX8_cargoOf_12 (fun l => m_X8_in l _ _ _ w 0 7 (by omega) (by omega) (by omega)) qM_X8_29 qT_X8_in qi_X8 qC_X8_in (by decide +kernel) (by decide) (by decide) (Nat.le_of_ble_eq_true rfl) (zk_pure ?_) rfl
    refine z_ifb_ne hC 21 dX8_cargoOf_15 (by decide) (fun c_2 => ?_) (fun c_2 => ?_)
    · obtain ⟨hc0, hc1, hc2, hc3, hc4, hc5, hc6⟩ := hB4 c (by omega)
      refine z_iload_n hC dX8_cargoOf_21 rfl ?_
      refine z_bipush hC dX8_cargoOf_22 (by decide) ?_
      refine z_icmp_ne hC 48 dX8_cargoOf_24 (by decide) (by omega) (by omega) (fun c_3 => ?_) (fun c_3 => ?_)
      · refine z_aload_n hC dX8_cargoOf_48 rfl ?_
        refine z_get hC iA_X8 rfl 0 (by decide) qF_X8_7 rfl dX8_cargoOf_49 rl_0 (rd_0 (ca := ca) (ad := ad)) rfl ?_
        refine z_iconst hC dX8_cargoOf_52 ?_
        refine z_iload_n hC dX8_cargoOf_53 rfl ?_
        refine z_iload_n hC dX8_cargoOf_54 rfl ?_
        refine z_callS hC [.int (iZ 0), .int (iZ c), .int (iZ w)] 3 rfl dX8_cargoOf_55 (fun l => m_X8_cargoAt l _ _ _ 0 c w) qM_X8_44 qT_X8_cargoAt qi_X8 qC_X8_cargoAt (by decide +kernel) (by decide) (by decide) (Nat.le_of_ble_eq_true rfl) (zk_pure ?_) rfl
        refine z_iald hC dX8_cargoOf_58 rl_1 (rd_1 (ca := ca) (ad := ad)) (by omega) (by omega) (by decide) ?_
        refine z_top (b := d (16 + c) w) ((rv_cargo (by omega) (by omega)).symm.trans (congrFun (congrFun hX.1 _) _)) ?_
        have e9 : d (16 + c) w = qCargo d c w := by
          unfold qCargo
          rcases (show w = 0 ∨ w = 1 ∨ w = 2 ∨ w = 3 ∨ w = 4 ∨ w = 5 ∨ w = 6 ∨ w = 7 by omega) with hw | hw | hw | hw | hw | hw | hw | hw
          · rw [if_neg (by omega), if_pos (by omega), hw]
          · rw [if_neg (by omega), if_neg (by omega), if_pos (by omega), hw]
          · rw [if_neg (by omega), if_neg (by omega), if_neg (by omega), if_pos (by omega), hw]
          · rw [if_neg (by omega), if_neg (by omega), if_neg (by omega), if_neg (by omega), if_pos (by omega), hw]
          · rw [if_neg (by omega), if_neg (by omega), if_neg (by omega), if_neg (by omega), if_neg (by omega), if_pos (by omega), hw]
          · rw [if_neg (by omega), if_neg (by omega), if_neg (by omega), if_neg (by omega), if_neg (by omega), if_neg (by omega), if_pos (by omega), hw]
          · rw [if_neg (by omega), if_neg (by omega), if_neg (by omega), if_neg (by omega), if_neg (by omega), if_neg (by omega), if_neg (by omega), if_pos (by omega), hw]
          · rw [if_neg (by omega), if_neg (by omega), if_neg (by omega), if_neg (by omega), if_neg (by omega), if_neg (by omega), if_neg (by omega), if_neg (by omega), if_pos (by omega), if_pos (by omega), hw]
        exact z_iret hC dX8_cargoOf_59 ⟨by rw [e9], hX⟩
      · refine z_aload_n hC dX8_cargoOf_27 rfl ?_
        refine z_get hC iA_X8 rfl 0 (by decide) qF_X8_7 rfl dX8_cargoOf_28 rl_0 (rd_0 (ca := ca) (ad := ad)) rfl ?_
        refine z_iconst hC dX8_cargoOf_31 ?_
        refine z_iload_n hC dX8_cargoOf_32 rfl ?_
        refine z_bipush hC dX8_cargoOf_33 (by decide) ?_
        refine z_callS hC [.int (iZ 0), .int (iZ c), .int (iZ 6)] 3 rfl dX8_cargoOf_35 (fun l => m_X8_cargoAt l _ _ _ 0 c 6) qM_X8_44 qT_X8_cargoAt qi_X8 qC_X8_cargoAt (by decide +kernel) (by decide) (by decide) (Nat.le_of_ble_eq_true rfl) (zk_pure ?_) rfl
        refine z_iald hC dX8_cargoOf_38 rl_1 (rd_1 (ca := ca) (ad := ad)) (by omega) (by omega) (by decide) ?_
        refine z_top (b := d (16 + c) 6) ((rv_cargo (by omega) (by omega)).symm.trans (congrFun (congrFun hX.1 _) _)) ?_
        refine z_iconst hC dX8_cargoOf_39 ?_
        refine z_icmp_eq hC 48 dX8_cargoOf_40 (by decide) (by omega) (by omega) (fun c_4 => ?_) (fun c_4 => ?_)
        · refine z_aload_n hC dX8_cargoOf_48 rfl ?_
          refine z_get hC iA_X8 rfl 0 (by decide) qF_X8_7 rfl dX8_cargoOf_49 rl_0 (rd_0 (ca := ca) (ad := ad)) rfl ?_
          refine z_iconst hC dX8_cargoOf_52 ?_
          refine z_iload_n hC dX8_cargoOf_53 rfl ?_
          refine z_iload_n hC dX8_cargoOf_54 rfl ?_
          refine z_callS hC [.int (iZ 0), .int (iZ c), .int (iZ w)] 3 rfl dX8_cargoOf_55 (fun l => m_X8_cargoAt l _ _ _ 0 c w) qM_X8_44 qT_X8_cargoAt qi_X8 qC_X8_cargoAt (by decide +kernel) (by decide) (by decide) (Nat.le_of_ble_eq_true rfl) (zk_pure ?_) rfl
          refine z_iald hC dX8_cargoOf_58 rl_1 (rd_1 (ca := ca) (ad := ad)) (by omega) (by omega) (by decide) ?_
          refine z_top (b := d (16 + c) w) ((rv_cargo (by omega) (by omega)).symm.trans (congrFun (congrFun hX.1 _) _)) ?_
          have e9 : d (16 + c) w = qCargo d c w := by
            unfold qCargo
            rcases (show w = 0 ∨ w = 1 ∨ w = 2 ∨ w = 3 ∨ w = 4 ∨ w = 5 ∨ w = 6 ∨ w = 7 by omega) with hw | hw | hw | hw | hw | hw | hw | hw
            · rw [if_neg (by omega), if_pos (by omega), hw]
            · rw [if_neg (by omega), if_neg (by omega), if_pos (by omega), hw]
            · rw [if_neg (by omega), if_neg (by omega), if_neg (by omega), if_pos (by omega), hw]
            · rw [if_neg (by omega), if_neg (by omega), if_neg (by omega), if_neg (by omega), if_pos (by omega), hw]
            · rw [if_neg (by omega), if_neg (by omega), if_neg (by omega), if_neg (by omega), if_neg (by omega), if_pos (by omega), hw]
            · rw [if_neg (by omega), if_neg (by omega), if_neg (by omega), if_neg (by omega), if_neg (by omega), if_neg (by omega), if_pos (by omega), hw]
            · rw [if_neg (by omega), if_neg (by omega), if_neg (by omega), if_neg (by omega), if_neg (by omega), if_neg (by omega), if_neg (by omega), if_pos (by omega), hw]
            · rw [if_neg (by omega), if_neg (by omega), if_neg (by omega), if_neg (by omega), if_neg (by omega), if_neg (by omega), if_neg (by omega), if_neg (by omega), if_pos (by omega), if_pos (by omega), hw]
          exact z_iret hC dX8_cargoOf_59 ⟨by rw [e9], hX⟩
        · refine z_ldc hC (-1000004) qc_X8_130 rfl dX8_cargoOf_43 ?_
          refine z_goto hC 59 dX8_cargoOf_45 (by decide) ?_
          exact z_iret hC dX8_cargoOf_59 ⟨by unfold qCargo; rw [if_neg (by omega), if_neg (by omega), if_neg (by omega), if_neg (by omega), if_neg (by omega), if_neg (by omega), if_neg (by omega), if_neg (by omega), if_pos (by omega), if_neg (by omega)], hX⟩
    · refine z_ldc hC (-1000001) qc_X8_24 rfl dX8_cargoOf_18 ?_
      have e9 : qCargo d c w = -1000001 := by
        unfold qCargo
        by_cases q9 : 0 ≤ c ∧ c < d 0 5
        · rw [if_neg (by omega), if_neg (by omega), if_neg (by omega), if_neg (by omega), if_neg (by omega), if_neg (by omega), if_neg (by omega), if_neg (by omega), if_neg (by omega)]
        · rw [if_pos (by omega)]
      exact z_iret hC dX8_cargoOf_20 ⟨by rw [e9], hX⟩

set_option maxHeartbeats 4000000 in
set_option maxRecDepth 100000 in
/-- type(c) -/
theorem m_X8_type (l : Launch) (G : va_G) (ca : Nat → ClassId) (ad : Int → Nat) (A : Nat → Prop) (μ : zM) (d : zM) (n : Int) (h : Int → zM) (L : Int) (t : Int → Int) (hX : rSt μ d n h L t) (c : Int) (hc : -2147483648 ≤ c ∧ c ≤ 2147483647) : zMet l (rω G ca ad) A yX8_type cX8_type 2 (some .int) 1 22 [.ref (ad 0), .int (iZ c)] μ (zpI (.int (iZ (opType L t c).1)) (fun μ' => rSt μ' d n h (opType L t c).2.1 (opType L t c).2.2)) := by
  refine zMet_of (by decide) (Nat.le_of_ble_eq_true rfl) (fun Γ hC => ?_)
  show Z Γ _ μ 0 [(0, .ref (ad 0)), (1, .int (iZ c))] []
  have hL := hX.2.2.2.1
  refine z_iload_n hC dX8_type_0 rfl ?_
  refine z_bipush hC dX8_type_1 (by decide) ?_
  refine z_bipush hC dX8_type_3 (by decide) ?_
  refine z_callS hC [.int (iZ c), .int (iZ 32), .int (iZ 126)] 3 rfl dX8_type_5 (fun l => m_X8_in l _ _ _ c 32 126 (by omega) (by omega) (by omega)) qM_X8_29 qT_X8_in qi_X8 qC_X8_in (by decide +kernel) (by decide) (by decide) (Nat.le_of_ble_eq_true rfl) (zk_pure ?_) rfl
  refine z_ifb_ne hC 14 dX8_type_8 (by decide) (fun c_1 => ?_) (fun c_1 => ?_)
  · refine z_aload_n hC dX8_type_14 rfl ?_
    refine z_get hC iA_X8 rfl 3 (by decide) qF_X8_141 rfl dX8_type_15 rl_0 (rd_0 (ca := ca) (ad := ad)) rfl ?_
    refine z_top (b := L) (by rw [hX.2.2.1]) ?_
    refine z_bipush hC dX8_type_18 (by decide) ?_
    refine z_icmp_ne hC 26 dX8_type_20 (by decide) (by omega) (by omega) (fun c_2 => ?_) (fun c_2 => ?_)
    · refine z_aload_n hC dX8_type_26 rfl ?_
      refine z_get hC iA_X8 rfl 2 (by decide) qF_X8_13 rfl dX8_type_27 rl_0 (rd_0 (ca := ca) (ad := ad)) rfl ?_
      refine z_aload_n hC dX8_type_30 rfl ?_
      refine z_get hC iA_X8 rfl 3 (by decide) qF_X8_141 rfl dX8_type_31 rl_0 (rd_0 (ca := ca) (ad := ad)) rfl ?_
      refine z_top (b := L) (by rw [hX.2.2.1]) ?_
      refine z_iload_n hC dX8_type_34 rfl ?_
      refine z_i2c hC dX8_type_35 (by omega) ?_
      refine z_cast hC dX8_type_36 rl_2 (rd_2 (ca := ca) (ad := ad)) (by omega) (by omega) (by decide) (by omega) ?_
      refine z_nm (fun μ3 hμ3 => ?_)
      refine z_aload_n hC dX8_type_37 rfl ?_
      refine z_dup hC dX8_type_38 rfl ?_
      refine z_get hC iA_X8 rfl 3 (by decide) qF_X8_141 rfl dX8_type_39 rl_0 (rd_0 (ca := ca) (ad := ad)) rfl ?_
      refine z_top (b := L) (by rw [hμ3, zup_n (by omega), hX.2.2.1]) ?_
      refine z_iconst hC dX8_type_42 ?_
      refine z_iadd hC dX8_type_43 ?_
      refine z_put hC iA_X8 rfl tyX8 tyX8_ok nmX8 3 (by decide) rfl rfl 3 rfl qF_X8_141 rfl dX8_type_44 rl_0 (rd_0 (ca := ca) (ad := ad)) (fun _ => rfl) (fun _ => Nat.le_of_ble_eq_true rfl) ?_
      refine z_nm (fun μ4 hμ4 => ?_)
      refine z_aload_n hC dX8_type_47 rfl ?_
      refine z_get hC iA_X8 rfl 3 (by decide) qF_X8_141 rfl dX8_type_48 rl_0 (rd_0 (ca := ca) (ad := ad)) rfl ?_
      refine z_top (by rw [hμ4, zup_s]) ?_
      exact z_iret hC dX8_type_51 ⟨by unfold opType; rw [if_neg (by omega), if_neg (by omega)], by unfold opType; rw [if_neg (by omega), if_neg (by omega)]; exact rSt_type hX (by omega) (by omega) (by rw [hμ4, zup_s]) (by rw [hμ4, zup_n (by omega), hμ3, zup_s]) (fun c9 i9 q1 q2 => by rw [hμ4, zup_n (by omega), hμ3, zup_n (by omega)])⟩
    · refine z_ldc hC (-1000003) qc_X8_90 rfl dX8_type_23 ?_
      exact z_iret hC dX8_type_25 ⟨by unfold opType; rw [if_neg (by omega), if_pos (by omega)], by unfold opType; rw [if_neg (by omega), if_pos (by omega)]; exact hX⟩
  · refine z_ldc hC (-1000001) qc_X8_24 rfl dX8_type_11 ?_
    exact z_iret hC dX8_type_13 ⟨by unfold opType; rw [if_pos (by omega)], by unfold opType; rw [if_pos (by omega)]; exact hX⟩

set_option maxHeartbeats 4000000 in
set_option maxRecDepth 100000 in
/-- clearText() -/
theorem m_X8_clearText (l : Launch) (G : va_G) (ca : Nat → ClassId) (ad : Int → Nat) (A : Nat → Prop) (μ : zM) (d : zM) (n : Int) (h : Int → zM) (L : Int) (t : Int → Int) (hX : rSt μ d n h L t) : zMet l (rω G ca ad) A yX8_clearText cX8_clearText 2 (some .int) 0 0 [.ref (ad 0)] μ (zpI (.int (iZ L)) (fun μ' => rSt μ' d n h 0 t)) := by
  refine zMet_of (by decide) (Nat.le_of_ble_eq_true rfl) (fun Γ hC => ?_)
  show Z Γ _ μ 0 [(0, .ref (ad 0))] []
  refine z_aload_n hC dX8_clearText_0 rfl ?_
  refine z_get hC iA_X8 rfl 3 (by decide) qF_X8_141 rfl dX8_clearText_1 rl_0 (rd_0 (ca := ca) (ad := ad)) rfl ?_
  refine z_top (b := L) (by rw [hX.2.2.1]) ?_
  refine z_istore_n hC dX8_clearText_4 (by decide) rfl ?_
  refine z_aload_n hC dX8_clearText_5 rfl ?_
  refine z_iconst hC dX8_clearText_6 ?_
  refine z_put hC iA_X8 rfl tyX8 tyX8_ok nmX8 3 (by decide) rfl rfl 3 rfl qF_X8_141 rfl dX8_clearText_7 rl_0 (rd_0 (ca := ca) (ad := ad)) (fun _ => rfl) (fun _ => Nat.le_of_ble_eq_true rfl) ?_
  refine z_nm (fun μ1 hμ1 => ?_)
  refine z_iload_n hC dX8_clearText_10 rfl ?_
  exact z_iret hC dX8_clearText_11 ⟨rfl, rSt_clear hX (by rw [hμ1, zup_s]) (fun c i q => by rw [hμ1, zup_n (by omega)])⟩

set_option maxHeartbeats 4000000 in
set_option maxRecDepth 100000 in
/-- count -/
theorem m_X8_count (l : Launch) (G : va_G) (ca : Nat → ClassId) (ad : Int → Nat) (A : Nat → Prop) (μ : zM) (d : zM) (n : Int) (h : Int → zM) (L : Int) (t : Int → Int) (hX : rSt μ d n h L t) (hI : zInv d) (w : Int) (hw : -2147483648 ≤ w ∧ w ≤ 2147483647) : zMet l (rω G ca ad) A yX8_count cX8_count 2 (some .int) 2 45 [.ref (ad 0), .int (iZ w)] μ (zpI (.int (iZ (qCount d n L w))) (fun μ' => rSt μ' d n h L t)) := by
  refine zMet_of (by decide) (Nat.le_of_ble_eq_true rfl) (fun Γ hC => ?_)
  show Z Γ _ μ 0 [(0, .ref (ad 0)), (1, .int (iZ w))] []
  obtain ⟨hB, hf5, hf6, hIF, hIS, hII, hIL⟩ := id hI
  obtain ⟨hN, hP, hB3, hB4⟩ := id hB
  obtain ⟨hN1, hN2⟩ := id hN
  refine z_iload_n hC dX8_count_0 rfl ?_
  rcases (show w = 0 ∨ w = 1 ∨ w = 2 ∨ w = 3 ∨ w = 4 ∨ w = 5 ∨ w = 6 ∨ w = 7 ∨ w = 8 ∨ (w < 0 ∨ 8 < w) by omega) with w_1 | w_1 | w_1 | w_1 | w_1 | w_1 | w_1 | w_1 | w_1 | w_1
  · refine z_tableIn hC 52 dX8_count_1 (by omega) (by omega) (by omega) (by rw [w_1]; rfl) (by decide) ?_
    refine z_aload_n hC dX8_count_52 rfl ?_
    refine z_get hC iA_X8 rfl 0 (by decide) qF_X8_7 rfl dX8_count_53 rl_0 (rd_0 (ca := ca) (ad := ad)) rfl ?_
    refine z_bipush hC dX8_count_56 (by decide) ?_
    refine z_iald hC dX8_count_58 rl_1 (rd_1 (ca := ca) (ad := ad)) (by omega) (by omega) (by decide) ?_
    refine z_top (b := d 0 4) ((rv_S).symm.trans (congrFun (congrFun hX.1 _) _)) ?_
    exact z_iret hC dX8_count_59 ⟨by unfold qCount; rw [if_pos (by omega)], hX⟩
  · refine z_tableIn hC 60 dX8_count_1 (by omega) (by omega) (by omega) (by rw [w_1]; rfl) (by decide) ?_
    refine z_aload_n hC dX8_count_60 rfl ?_
    refine z_get hC iA_X8 rfl 0 (by decide) qF_X8_7 rfl dX8_count_61 rl_0 (rd_0 (ca := ca) (ad := ad)) rfl ?_
    refine z_bipush hC dX8_count_64 (by decide) ?_
    refine z_iald hC dX8_count_66 rl_1 (rd_1 (ca := ca) (ad := ad)) (by omega) (by omega) (by decide) ?_
    refine z_top (b := d 0 5) ((rv_C).symm.trans (congrFun (congrFun hX.1 _) _)) ?_
    exact z_iret hC dX8_count_67 ⟨by unfold qCount; rw [if_neg (by omega), if_pos (by omega)], hX⟩
  · refine z_tableIn hC 68 dX8_count_1 (by omega) (by omega) (by omega) (by rw [w_1]; rfl) (by decide) ?_
    refine z_aload_n hC dX8_count_68 rfl ?_
    refine z_iconst hC dX8_count_69 ?_
    refine z_callV hC [.int (iZ 0)] 1 rfl dX8_count_70 (fun l => m_X8_cargoes l G ca ad _ μ d hX.1 0 (by omega) (d 0 5).toNat (by omega) hB) qM_X8_105 qI_X8_cargoes qS_X8_cargoes qi_X8 qC_X8_cargoes (by decide +kernel) (by decide) (by decide) rl_0 (rd_0 (ca := ca) (ad := ad)) rfl (Nat.le_of_ble_eq_true rfl) (zk_pure ?_) rfl
    exact z_iret hC dX8_count_73 ⟨by unfold qCount; rw [if_neg (by omega), if_neg (by omega), if_pos (by omega)], hX⟩
  · refine z_tableIn hC 74 dX8_count_1 (by omega) (by omega) (by omega) (by rw [w_1]; rfl) (by decide) ?_
    refine z_aload_n hC dX8_count_74 rfl ?_
    refine z_iconst hC dX8_count_75 ?_
    refine z_callV hC [.int (iZ 1)] 1 rfl dX8_count_76 (fun l => m_X8_cargoes l G ca ad _ μ d hX.1 1 (by omega) (d 0 5).toNat (by omega) hB) qM_X8_105 qI_X8_cargoes qS_X8_cargoes qi_X8 qC_X8_cargoes (by decide +kernel) (by decide) (by decide) rl_0 (rd_0 (ca := ca) (ad := ad)) rfl (Nat.le_of_ble_eq_true rfl) (zk_pure ?_) rfl
    exact z_iret hC dX8_count_79 ⟨by unfold qCount; rw [if_neg (by omega), if_neg (by omega), if_neg (by omega), if_pos (by omega)], hX⟩
  · refine z_tableIn hC 80 dX8_count_1 (by omega) (by omega) (by omega) (by rw [w_1]; rfl) (by decide) ?_
    refine z_aload_n hC dX8_count_80 rfl ?_
    refine z_callV hC [] 0 rfl dX8_count_81 (fun l => m_X8_accounts l G ca ad _ μ d hX.1 (d 0 4).toNat (by omega) hB) qM_X8_137 qI_X8_accounts qS_X8_accounts qi_X8 qC_X8_accounts (by decide +kernel) (by decide) (by decide) rl_0 (rd_0 (ca := ca) (ad := ad)) rfl (Nat.le_of_ble_eq_true rfl) (zk_pure ?_) rfl
    exact z_iret hC dX8_count_84 ⟨by unfold qCount; rw [if_neg (by omega), if_neg (by omega), if_neg (by omega), if_neg (by omega), if_pos (by omega)], hX⟩
  · refine z_tableIn hC 85 dX8_count_1 (by omega) (by omega) (by omega) (by rw [w_1]; rfl) (by decide) ?_
    refine z_aload_n hC dX8_count_85 rfl ?_
    refine z_get hC iA_X8 rfl 0 (by decide) qF_X8_7 rfl dX8_count_86 rl_0 (rd_0 (ca := ca) (ad := ad)) rfl ?_
    refine z_sipush hC dX8_count_89 (by decide) ?_
    refine z_iald hC dX8_count_92 rl_1 (rd_1 (ca := ca) (ad := ad)) (by omega) (by omega) (by decide) ?_
    refine z_top (b := d 0 6) ((rv_can).symm.trans (congrFun (congrFun hX.1 _) _)) ?_
    exact z_iret hC dX8_count_93 ⟨by unfold qCount; rw [if_neg (by omega), if_neg (by omega), if_neg (by omega), if_neg (by omega), if_neg (by omega), if_pos (by omega)], hX⟩
  · refine z_tableIn hC 94 dX8_count_1 (by omega) (by omega) (by omega) (by rw [w_1]; rfl) (by decide) ?_
    refine z_aload_n hC dX8_count_94 rfl ?_
    refine z_get hC iA_X8 rfl 0 (by decide) qF_X8_7 rfl dX8_count_95 rl_0 (rd_0 (ca := ca) (ad := ad)) rfl ?_
    refine z_sipush hC dX8_count_98 (by decide) ?_
    refine z_iald hC dX8_count_101 rl_1 (rd_1 (ca := ca) (ad := ad)) (by omega) (by omega) (by decide) ?_
    refine z_top (b := d 0 7) ((rv_off).symm.trans (congrFun (congrFun hX.1 _) _)) ?_
    exact z_iret hC dX8_count_102 ⟨by unfold qCount; rw [if_neg (by omega), if_neg (by omega), if_neg (by omega), if_neg (by omega), if_neg (by omega), if_neg (by omega), if_pos (by omega)], hX⟩
  · refine z_tableIn hC 103 dX8_count_1 (by omega) (by omega) (by omega) (by rw [w_1]; rfl) (by decide) ?_
    refine z_aload_n hC dX8_count_103 rfl ?_
    refine z_get hC iA_X8 rfl 1 (by decide) qF_X8_25 rfl dX8_count_104 rl_0 (rd_0 (ca := ca) (ad := ad)) rfl ?_
    refine z_top (b := n) (by rw [hX.2.1.1]) ?_
    exact z_iret hC dX8_count_107 ⟨by unfold qCount; rw [if_neg (by omega), if_neg (by omega), if_neg (by omega), if_neg (by omega), if_neg (by omega), if_neg (by omega), if_neg (by omega), if_pos (by omega)], hX⟩
  · refine z_tableIn hC 108 dX8_count_1 (by omega) (by omega) (by omega) (by rw [w_1]; rfl) (by decide) ?_
    refine z_aload_n hC dX8_count_108 rfl ?_
    refine z_get hC iA_X8 rfl 3 (by decide) qF_X8_141 rfl dX8_count_109 rl_0 (rd_0 (ca := ca) (ad := ad)) rfl ?_
    refine z_top (b := L) (by rw [hX.2.2.1]) ?_
    exact z_iret hC dX8_count_112 ⟨by unfold qCount; rw [if_neg (by omega), if_neg (by omega), if_neg (by omega), if_neg (by omega), if_neg (by omega), if_neg (by omega), if_neg (by omega), if_neg (by omega), if_pos (by omega)], hX⟩
  · refine z_tableOut hC 113 dX8_count_1 (by omega) (by omega) (by decide) ?_
    refine z_ldc hC (-1000001) qc_X8_24 rfl dX8_count_113 ?_
    exact z_iret hC dX8_count_115 ⟨by unfold qCount; rw [if_neg (by omega), if_neg (by omega), if_neg (by omega), if_neg (by omega), if_neg (by omega), if_neg (by omega), if_neg (by omega), if_neg (by omega), if_neg (by omega)], hX⟩
