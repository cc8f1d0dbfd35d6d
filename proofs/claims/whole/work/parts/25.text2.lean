set_option maxHeartbeats 4000000 in
set_option maxRecDepth 100000 in
/-- Script.at(i) -/
theorem m_X5_at (l : Launch) (G : va_G) (ca : Nat → ClassId) (ad : Int → Nat) (A : Nat → Prop) (μ : zM) (L : Int) (t : Int → Int) (hT : zTx μ L t) (i : Int) (hi : -2147483648 ≤ i ∧ i ≤ 2147483647) : zMet l (cω G ca ad) A yX5_at cX5_at 2 (some .char) 1 22 [.ref (ad 159), .int (iZ i)] μ (zpI (.int (iZ (cAt L t i))) (fun m => m = μ)) := by
  refine zMet_of (by decide) (Nat.le_of_ble_eq_true rfl) (fun Γ hC => ?_)
  show Z Γ _ μ 0 [(0, .ref (ad 159)), (1, .int (iZ i))] []
  have hL := hT.2.1
  refine z_iload_n hC dX5_at_0 rfl ?_
  refine z_iconst hC dX5_at_1 ?_
  refine z_aload_n hC dX5_at_2 rfl ?_
  refine z_get hC iA_X5 rfl 1 (by decide) qF_X5_19 rfl dX5_at_3 cl_script (cd_script (ca := ca) (ad := ad)) rfl ?_
  refine z_top (b := L) (by rw [hT.1]) ?_
  refine z_iconst hC dX5_at_6 ?_
  refine z_isub hC dX5_at_7 ?_
  refine z_callSN hC [.int (iZ i), .int (iZ 0), .int (iZ (L - 1))] 3 rfl dX5_at_8 (fun l => m_X7_isIn l _ _ _ i 0 (L - 1) (by omega) (by omega) (by omega)) (by decide +kernel) qT_X7_isIn qi_X7 qC_X7_isIn (by decide +kernel) (by decide) (by decide) (Nat.le_of_ble_eq_true rfl) (zk_pure ?_) rfl
  refine z_ifb_eq hC 23 dX5_at_11 (by decide) (fun c_1 => ?_) (fun c_1 => ?_)
  · refine z_iconst hC dX5_at_23 ?_
    exact z_cret hC (by omega) dX5_at_24 ⟨by unfold cAt; rw [if_neg (by omega)], rfl⟩
  · refine z_aload_n hC dX5_at_14 rfl ?_
    refine z_get hC iA_X5 rfl 0 (by decide) qF_X5_9 rfl dX5_at_15 cl_script (cd_script (ca := ca) (ad := ad)) rfl ?_
    refine z_iload_n hC dX5_at_18 rfl ?_
    refine z_cald hC dX5_at_19 cl_chars (cd_chars (ca := ca) (ad := ad)) (by omega) (by omega) (by decide) ?_
    refine z_goto hC 24 dX5_at_20 (by decide) ?_
    have ht := hT.2.2 i (by omega)
    refine z_top ht.1 ?_
    exact z_cret hC (by omega) dX5_at_24 ⟨by unfold cAt; rw [if_pos (by omega)], rfl⟩

set_option maxHeartbeats 4000000 in
set_option maxRecDepth 100000 in
/-- numbersOf(c) -/
theorem m_X5_numbersOf (l : Launch) (ω : zO) (A : Nat → Prop) (μ : zM) (c : Int) (hc : -2147483648 ≤ c ∧ c ≤ 2147483647) : zMet l (ω) A yX5_numbersOf cX5_numbersOf 1 (some .int) 0 0 [.int (iZ c)] μ (zpI (.int (iZ (cNum c))) (fun m => m = μ)) := by
  refine zMet_of (by decide) (Nat.le_of_ble_eq_true rfl) (fun Γ hC => ?_)
  show Z Γ _ μ 0 [(0, .int (iZ c))] []
  refine z_iload_n hC dX5_numbersOf_0 rfl ?_
  rcases (show c = 99 ∨ c = 100 ∨ c = 102 ∨ c = 115 ∨ (c ≠ 99 ∧ c ≠ 100 ∧ c ≠ 102 ∧ c ≠ 115) by omega) with w_1 | w_1 | w_1 | w_1 | w_1
  · refine z_lookup hC 46 dX5_numbersOf_1 (by omega) (by decide) (by rw [w_1]; try rfl) (by decide) ?_
    refine z_bipush hC dX5_numbersOf_46 (by decide) ?_
    exact z_iret hC dX5_numbersOf_48 ⟨by unfold cNum; rw [if_pos (by omega)], rfl⟩
  · refine z_lookup hC 51 dX5_numbersOf_1 (by omega) (by decide) (by rw [w_1]; try rfl) (by decide) ?_
    refine z_iconst hC dX5_numbersOf_51 ?_
    exact z_iret hC dX5_numbersOf_52 ⟨by unfold cNum; rw [if_neg (by omega), if_pos (by omega)], rfl⟩
  · refine z_lookup hC 49 dX5_numbersOf_1 (by omega) (by decide) (by rw [w_1]; try rfl) (by decide) ?_
    refine z_iconst hC dX5_numbersOf_49 ?_
    exact z_iret hC dX5_numbersOf_50 ⟨by unfold cNum; rw [if_neg (by omega), if_neg (by omega), if_pos (by omega)], rfl⟩
  · refine z_lookup hC 44 dX5_numbersOf_1 (by omega) (by decide) (by rw [w_1]; try rfl) (by decide) ?_
    refine z_iconst hC dX5_numbersOf_44 ?_
    exact z_iret hC dX5_numbersOf_45 ⟨by unfold cNum; rw [if_neg (by omega), if_neg (by omega), if_neg (by omega), if_pos (by omega)], rfl⟩
  · refine z_lookup hC 53 dX5_numbersOf_1 (by omega) (by decide) (by show Op.lookupswitch.offset [(99, 45), (100, 50), (102, 48), (115, 43)] 52 c = 52; rw [Op.lookupswitch.offset_cons, if_neg (by omega), Op.lookupswitch.offset_cons, if_neg (by omega), Op.lookupswitch.offset_cons, if_neg (by omega), Op.lookupswitch.offset_cons, if_neg (by omega)]; rfl) (by decide) ?_
    refine z_iconst hC dX5_numbersOf_53 ?_
    exact z_iret hC dX5_numbersOf_54 ⟨by unfold cNum; rw [if_neg (by omega), if_neg (by omega), if_neg (by omega), if_neg (by omega)], rfl⟩

set_option maxHeartbeats 4000000 in
set_option maxRecDepth 100000 in
/-- readNumber(k) -/
theorem m_X5_readNumber (l : Launch) (G : va_G) (ca : Nat → ClassId) (ad : Int → Nat) (A : Nat → Prop) (μ : zM) (L : Int) (t : Int → Int) (hT : zTx μ L t) (e k : Int) (h4 : μ 159 4 = e) (he : 0 ≤ e ∧ e ≤ 100) (hk : 0 ≤ k ∧ k < 6) : zMet l (cω G ca ad) A yX5_readNumber cX5_readNumber 4 (some .boolean) 2 43 [.ref (ad 159), .int (iZ k)] μ (zpI (.int (iZ (zB (e < (sRd L t 3 e 0).1)))) (fun μ' => μ' 159 4 = (sRd L t 3 e 0).1 ∧ μ' 161 k = (sRd L t 3 e 0).2 ∧ (∀ c i, (c = 159 → i ≠ 4) → (c = 161 → i ≠ k) → μ' c i = μ c i))) := by
  refine zMet_of (by decide) (Nat.le_of_ble_eq_true rfl) (fun Γ hC => ?_)
  show Z Γ _ μ 0 [(0, .ref (ad 159)), (1, .int (iZ k))] []
  have hL := hT.2.1
  refine z_iconst hC dX5_readNumber_0 ?_
  refine z_istore_n hC dX5_readNumber_1 (by decide) rfl ?_
  refine z_iconst hC dX5_readNumber_2 ?_
  refine z_istore_n hC dX5_readNumber_3 (by decide) rfl ?_
  refine z_iload_n hC dX5_readNumber_4 rfl ?_
  refine z_iconst hC dX5_readNumber_5 ?_
  refine z_icmp_ge hC 60 dX5_readNumber_6 (by decide) (by omega) (by omega) (fun c_1 => ?_) (fun c_1 => ?_)
  · exfalso; omega
  · refine z_aload_n hC dX5_readNumber_9 rfl ?_
    refine z_aload_n hC dX5_readNumber_10 rfl ?_
    refine z_get hC iA_X5 rfl 4 (by decide) qF_X5_23 rfl dX5_readNumber_11 cl_script (cd_script (ca := ca) (ad := ad)) rfl ?_
    refine z_top (b := e) (by rw [h4]) ?_
    refine z_callV hC [.int (iZ e)] 1 rfl dX5_readNumber_14 (fun l => m_X5_at l G ca ad _ μ L t hT e (by omega)) qM_X5_26 qI_X5_at qS_X5_at qi_X5 qC_X5_at (by decide +kernel) (by decide) (by decide) cl_script (cd_script (ca := ca) (ad := ad)) rfl (Nat.le_of_ble_eq_true rfl) (zk_pure ?_) rfl
    have hc2 := cAt_b hT e
    refine z_bipush hC dX5_readNumber_17 (by decide) ?_
    refine z_bipush hC dX5_readNumber_19 (by decide) ?_
    refine z_callSN hC [.int (iZ (cAt L t e)), .int (iZ 48), .int (iZ 57)] 3 rfl dX5_readNumber_21 (fun l => m_X7_isIn l _ _ _ (cAt L t e) 48 57 (by omega) (by omega) (by omega)) (by decide +kernel) qT_X7_isIn qi_X7 qC_X7_isIn (by decide +kernel) (by decide) (by decide) (Nat.le_of_ble_eq_true rfl) (zk_pure ?_) rfl
    refine z_ifb_eq hC 60 dX5_readNumber_24 (by decide) (fun c_3 => ?_) (fun c_3 => ?_)
    · refine z_aload_n hC dX5_readNumber_60 rfl ?_
      refine z_get hC iA_X5 rfl 3 (by decide) qF_X5_15 rfl dX5_readNumber_61 cl_script (cd_script (ca := ca) (ad := ad)) rfl ?_
      refine z_iload_n hC dX5_readNumber_64 rfl ?_
      refine z_iload_n hC dX5_readNumber_65 rfl ?_
      refine z_iast hC dX5_readNumber_66 cl_nums (cd_nums (ca := ca) (ad := ad)) (by omega) (by omega) (by decide) ?_
      refine z_nm (fun μ4 hμ4 => ?_)
      refine z_iload_n hC dX5_readNumber_67 rfl ?_
      refine z_if_le hC 75 dX5_readNumber_68 (by decide) (by omega) (fun c_5 => ?_) (fun c_5 => ?_)
      · refine z_iconst hC dX5_readNumber_75 ?_
        have e9 : sRd L t 3 e 0 = (e, 0) := by rw [sRd_n (by omega)]
        refine z_zret0 hC dX5_readNumber_76 ⟨by rw [zB_f (by rw [e9]; dsimp only; omega)], by rw [e9, hμ4, zup_n (by omega), h4], by rw [e9, hμ4, zup_s], fun c i q1 q2 => by rw [hμ4, zup_n (by omega)]⟩
      · exfalso; omega
    · refine z_bipush hC dX5_readNumber_27 (by decide) ?_
      refine z_iload_n hC dX5_readNumber_29 rfl ?_
      refine z_imul hC dX5_readNumber_30 ?_
      refine z_aload_n hC dX5_readNumber_31 rfl ?_
      refine z_aload_n hC dX5_readNumber_32 rfl ?_
      refine z_get hC iA_X5 rfl 4 (by decide) qF_X5_23 rfl dX5_readNumber_33 cl_script (cd_script (ca := ca) (ad := ad)) rfl ?_
      refine z_top (b := e) (by rw [h4]) ?_
      refine z_callV hC [.int (iZ e)] 1 rfl dX5_readNumber_36 (fun l => m_X5_at l G ca ad _ μ L t hT e (by omega)) qM_X5_26 qI_X5_at qS_X5_at qi_X5 qC_X5_at (by decide +kernel) (by decide) (by decide) cl_script (cd_script (ca := ca) (ad := ad)) rfl (Nat.le_of_ble_eq_true rfl) (zk_pure ?_) rfl
      have hc6 := cAt_b hT e
      refine z_iadd hC dX5_readNumber_39 ?_
      refine z_bipush hC dX5_readNumber_40 (by decide) ?_
      refine z_isub hC dX5_readNumber_42 ?_
      refine z_istore_n hC dX5_readNumber_43 (by decide) rfl ?_
      refine z_aload_n hC dX5_readNumber_44 rfl ?_
      refine z_dup hC dX5_readNumber_45 rfl ?_
      refine z_get hC iA_X5 rfl 4 (by decide) qF_X5_23 rfl dX5_readNumber_46 cl_script (cd_script (ca := ca) (ad := ad)) rfl ?_
      refine z_top (b := e) (by rw [h4]) ?_
      refine z_iconst hC dX5_readNumber_49 ?_
      refine z_iadd hC dX5_readNumber_50 ?_
      refine z_put hC iA_X5 rfl tyX5 tyX5_ok nmX5 4 (by decide) rfl rfl 4 rfl qF_X5_23 rfl dX5_readNumber_51 cl_script (cd_script (ca := ca) (ad := ad)) (fun _ => rfl) (fun _ => Nat.le_of_ble_eq_true rfl) ?_
      refine z_nm (fun μ7 hμ7 => ?_)
      have hT8 : zTx μ7 L t := zTx_fr hT (by rw [hμ7, zup_n (by omega)]) (fun i _ => by rw [hμ7, zup_n (by omega)])
      refine z_iinc hC dX5_readNumber_54 rfl (by decide) rfl ?_
      refine z_goto hC 4 dX5_readNumber_57 (by decide) ?_
      refine z_iload_n hC dX5_readNumber_4 rfl ?_
      refine z_iconst hC dX5_readNumber_5 ?_
      refine z_icmp_ge hC 60 dX5_readNumber_6 (by decide) (by omega) (by omega) (fun c_9 => ?_) (fun c_9 => ?_)
      · exfalso; omega
      · refine z_aload_n hC dX5_readNumber_9 rfl ?_
        refine z_aload_n hC dX5_readNumber_10 rfl ?_
        refine z_get hC iA_X5 rfl 4 (by decide) qF_X5_23 rfl dX5_readNumber_11 cl_script (cd_script (ca := ca) (ad := ad)) rfl ?_
        refine z_top (by rw [hμ7, zup_s]) ?_
        refine z_callV hC [.int (iZ (e + 1))] 1 rfl dX5_readNumber_14 (fun l => m_X5_at l G ca ad _ μ7 L t hT8 (e + 1) (by omega)) qM_X5_26 qI_X5_at qS_X5_at qi_X5 qC_X5_at (by decide +kernel) (by decide) (by decide) cl_script (cd_script (ca := ca) (ad := ad)) rfl (Nat.le_of_ble_eq_true rfl) (zk_pure ?_) rfl
        have hc10 := cAt_b hT (e + 1)
        refine z_bipush hC dX5_readNumber_17 (by decide) ?_
        refine z_bipush hC dX5_readNumber_19 (by decide) ?_
        refine z_callSN hC [.int (iZ (cAt L t (e + 1))), .int (iZ 48), .int (iZ 57)] 3 rfl dX5_readNumber_21 (fun l => m_X7_isIn l _ _ _ (cAt L t (e + 1)) 48 57 (by omega) (by omega) (by omega)) (by decide +kernel) qT_X7_isIn qi_X7 qC_X7_isIn (by decide +kernel) (by decide) (by decide) (Nat.le_of_ble_eq_true rfl) (zk_pure ?_) rfl
        refine z_ifb_eq hC 60 dX5_readNumber_24 (by decide) (fun c_11 => ?_) (fun c_11 => ?_)
        · refine z_aload_n hC dX5_readNumber_60 rfl ?_
          refine z_get hC iA_X5 rfl 3 (by decide) qF_X5_15 rfl dX5_readNumber_61 cl_script (cd_script (ca := ca) (ad := ad)) rfl ?_
          refine z_iload_n hC dX5_readNumber_64 rfl ?_
          refine z_iload_n hC dX5_readNumber_65 rfl ?_
          refine z_iast hC dX5_readNumber_66 cl_nums (cd_nums (ca := ca) (ad := ad)) (by omega) (by omega) (by decide) ?_
          refine z_nm (fun μ12 hμ12 => ?_)
          refine z_iload_n hC dX5_readNumber_67 rfl ?_
          refine z_if_le hC 75 dX5_readNumber_68 (by decide) (by omega) (fun c_13 => ?_) (fun c_13 => ?_)
          · exfalso; omega
          · refine z_iconst hC dX5_readNumber_71 ?_
            refine z_goto hC 76 dX5_readNumber_72 (by decide) ?_
            have e9 : sRd L t 3 e 0 = (e + 1, ((10 * 0) + (cAt L t e)) - 48) := by rw [sRd_p (by omega), sRd_n (by omega)]
            refine z_zret1 hC dX5_readNumber_76 ⟨by rw [zB_t (by rw [e9]; dsimp only; omega)], by rw [e9, hμ12, zup_n (by omega), hμ7, zup_s], by rw [e9, hμ12, zup_s], fun c i q1 q2 => by rw [hμ12, zup_n (by omega), hμ7, zup_n (by omega)]⟩
        · refine z_bipush hC dX5_readNumber_27 (by decide) ?_
          refine z_iload_n hC dX5_readNumber_29 rfl ?_
          refine z_imul hC dX5_readNumber_30 ?_
          refine z_aload_n hC dX5_readNumber_31 rfl ?_
          refine z_aload_n hC dX5_readNumber_32 rfl ?_
          refine z_get hC iA_X5 rfl 4 (by decide) qF_X5_23 rfl dX5_readNumber_33 cl_script (cd_script (ca := ca) (ad := ad)) rfl ?_
          refine z_top (by rw [hμ7, zup_s]) ?_
          refine z_callV hC [.int (iZ (e + 1))] 1 rfl dX5_readNumber_36 (fun l => m_X5_at l G ca ad _ μ7 L t hT8 (e + 1) (by omega)) qM_X5_26 qI_X5_at qS_X5_at qi_X5 qC_X5_at (by decide +kernel) (by decide) (by decide) cl_script (cd_script (ca := ca) (ad := ad)) rfl (Nat.le_of_ble_eq_true rfl) (zk_pure ?_) rfl
          have hc14 := cAt_b hT (e + 1)
          refine z_iadd hC dX5_readNumber_39 ?_
          refine z_bipush hC dX5_readNumber_40 (by decide) ?_
          refine z_isub hC dX5_readNumber_42 ?_
          refine z_istore_n hC dX5_readNumber_43 (by decide) rfl ?_
          refine z_aload_n hC dX5_readNumber_44 rfl ?_
          refine z_dup hC dX5_readNumber_45 rfl ?_
          refine z_get hC iA_X5 rfl 4 (by decide) qF_X5_23 rfl dX5_readNumber_46 cl_script (cd_script (ca := ca) (ad := ad)) rfl ?_
          refine z_top (by rw [hμ7, zup_s]) ?_
          refine z_iconst hC dX5_readNumber_49 ?_
          refine z_iadd hC dX5_readNumber_50 ?_
          refine z_put hC iA_X5 rfl tyX5 tyX5_ok nmX5 4 (by decide) rfl rfl 4 rfl qF_X5_23 rfl dX5_readNumber_51 cl_script (cd_script (ca := ca) (ad := ad)) (fun _ => rfl) (fun _ => Nat.le_of_ble_eq_true rfl) ?_
          refine z_nm (fun μ15 hμ15 => ?_)
          have hT16 : zTx μ15 L t := zTx_fr hT8 (by rw [hμ15, zup_n (by omega)]) (fun i _ => by rw [hμ15, zup_n (by omega)])
          refine z_iinc hC dX5_readNumber_54 rfl (by decide) rfl ?_
          refine z_goto hC 4 dX5_readNumber_57 (by decide) ?_
          refine z_iload_n hC dX5_readNumber_4 rfl ?_
          refine z_iconst hC dX5_readNumber_5 ?_
          refine z_icmp_ge hC 60 dX5_readNumber_6 (by decide) (by omega) (by omega) (fun c_17 => ?_) (fun c_17 => ?_)
          · exfalso; omega
          · refine z_aload_n hC dX5_readNumber_9 rfl ?_
            refine z_aload_n hC dX5_readNumber_10 rfl ?_
            refine z_get hC iA_X5 rfl 4 (by decide) qF_X5_23 rfl dX5_readNumber_11 cl_script (cd_script (ca := ca) (ad := ad)) rfl ?_
            refine z_top (by rw [hμ15, zup_s]) ?_
            refine z_callV hC [.int (iZ ((e + 1) + 1))] 1 rfl dX5_readNumber_14 (fun l => m_X5_at l G ca ad _ μ15 L t hT16 ((e + 1) + 1) (by omega)) qM_X5_26 qI_X5_at qS_X5_at qi_X5 qC_X5_at (by decide +kernel) (by decide) (by decide) cl_script (cd_script (ca := ca) (ad := ad)) rfl (Nat.le_of_ble_eq_true rfl) (zk_pure ?_) rfl
            have hc18 := cAt_b hT ((e + 1) + 1)
            refine z_bipush hC dX5_readNumber_17 (by decide) ?_
            refine z_bipush hC dX5_readNumber_19 (by decide) ?_
            refine z_callSN hC [.int (iZ (cAt L t ((e + 1) + 1))), .int (iZ 48), .int (iZ 57)] 3 rfl dX5_readNumber_21 (fun l => m_X7_isIn l _ _ _ (cAt L t ((e + 1) + 1)) 48 57 (by omega) (by omega) (by omega)) (by decide +kernel) qT_X7_isIn qi_X7 qC_X7_isIn (by decide +kernel) (by decide) (by decide) (Nat.le_of_ble_eq_true rfl) (zk_pure ?_) rfl
            refine z_ifb_eq hC 60 dX5_readNumber_24 (by decide) (fun c_19 => ?_) (fun c_19 => ?_)
            · refine z_aload_n hC dX5_readNumber_60 rfl ?_
              refine z_get hC iA_X5 rfl 3 (by decide) qF_X5_15 rfl dX5_readNumber_61 cl_script (cd_script (ca := ca) (ad := ad)) rfl ?_
              refine z_iload_n hC dX5_readNumber_64 rfl ?_
              refine z_iload_n hC dX5_readNumber_65 rfl ?_
              refine z_iast hC dX5_readNumber_66 cl_nums (cd_nums (ca := ca) (ad := ad)) (by omega) (by omega) (by decide) ?_
              refine z_nm (fun μ20 hμ20 => ?_)
              refine z_iload_n hC dX5_readNumber_67 rfl ?_
              refine z_if_le hC 75 dX5_readNumber_68 (by decide) (by omega) (fun c_21 => ?_) (fun c_21 => ?_)
              · exfalso; omega
              · refine z_iconst hC dX5_readNumber_71 ?_
                refine z_goto hC 76 dX5_readNumber_72 (by decide) ?_
                have e9 : sRd L t 3 e 0 = ((e + 1) + 1, ((10 * (((10 * 0) + (cAt L t e)) - 48)) + (cAt L t (e + 1))) - 48) := by rw [sRd_p (by omega), sRd_p (by omega), sRd_n (by omega)]
                refine z_zret1 hC dX5_readNumber_76 ⟨by rw [zB_t (by rw [e9]; dsimp only; omega)], by rw [e9, hμ20, zup_n (by omega), hμ15, zup_s], by rw [e9, hμ20, zup_s], fun c i q1 q2 => by rw [hμ20, zup_n (by omega), hμ15, zup_n (by omega), hμ7, zup_n (by omega)]⟩
            · refine z_bipush hC dX5_readNumber_27 (by decide) ?_
              refine z_iload_n hC dX5_readNumber_29 rfl ?_
              refine z_imul hC dX5_readNumber_30 ?_
              refine z_aload_n hC dX5_readNumber_31 rfl ?_
              refine z_aload_n hC dX5_readNumber_32 rfl ?_
              refine z_get hC iA_X5 rfl 4 (by decide) qF_X5_23 rfl dX5_readNumber_33 cl_script (cd_script (ca := ca) (ad := ad)) rfl ?_
              refine z_top (by rw [hμ15, zup_s]) ?_
              refine z_callV hC [.int (iZ ((e + 1) + 1))] 1 rfl dX5_readNumber_36 (fun l => m_X5_at l G ca ad _ μ15 L t hT16 ((e + 1) + 1) (by omega)) qM_X5_26 qI_X5_at qS_X5_at qi_X5 qC_X5_at (by decide +kernel) (by decide) (by decide) cl_script (cd_script (ca := ca) (ad := ad)) rfl (Nat.le_of_ble_eq_true rfl) (zk_pure ?_) rfl
              have hc22 := cAt_b hT ((e + 1) + 1)
              refine z_iadd hC dX5_readNumber_39 ?_
              refine z_bipush hC dX5_readNumber_40 (by decide) ?_
              refine z_isub hC dX5_readNumber_42 ?_
              refine z_istore_n hC dX5_readNumber_43 (by decide) rfl ?_
              refine z_aload_n hC dX5_readNumber_44 rfl ?_
              refine z_dup hC dX5_readNumber_45 rfl ?_
              refine z_get hC iA_X5 rfl 4 (by decide) qF_X5_23 rfl dX5_readNumber_46 cl_script (cd_script (ca := ca) (ad := ad)) rfl ?_
              refine z_top (by rw [hμ15, zup_s]) ?_
              refine z_iconst hC dX5_readNumber_49 ?_
              refine z_iadd hC dX5_readNumber_50 ?_
              refine z_put hC iA_X5 rfl tyX5 tyX5_ok nmX5 4 (by decide) rfl rfl 4 rfl qF_X5_23 rfl dX5_readNumber_51 cl_script (cd_script (ca := ca) (ad := ad)) (fun _ => rfl) (fun _ => Nat.le_of_ble_eq_true rfl) ?_
              refine z_nm (fun μ23 hμ23 => ?_)
              have hT24 : zTx μ23 L t := zTx_fr hT16 (by rw [hμ23, zup_n (by omega)]) (fun i _ => by rw [hμ23, zup_n (by omega)])
              refine z_iinc hC dX5_readNumber_54 rfl (by decide) rfl ?_
              refine z_goto hC 4 dX5_readNumber_57 (by decide) ?_
              refine z_iload_n hC dX5_readNumber_4 rfl ?_
              refine z_iconst hC dX5_readNumber_5 ?_
              refine z_icmp_ge hC 60 dX5_readNumber_6 (by decide) (by omega) (by omega) (fun c_25 => ?_) (fun c_25 => ?_)
              · refine z_aload_n hC dX5_readNumber_60 rfl ?_
                refine z_get hC iA_X5 rfl 3 (by decide) qF_X5_15 rfl dX5_readNumber_61 cl_script (cd_script (ca := ca) (ad := ad)) rfl ?_
                refine z_iload_n hC dX5_readNumber_64 rfl ?_
                refine z_iload_n hC dX5_readNumber_65 rfl ?_
                refine z_iast hC dX5_readNumber_66 cl_nums (cd_nums (ca := ca) (ad := ad)) (by omega) (by omega) (by decide) ?_
                refine z_nm (fun μ26 hμ26 => ?_)
                refine z_iload_n hC dX5_readNumber_67 rfl ?_
                refine z_if_le hC 75 dX5_readNumber_68 (by decide) (by omega) (fun c_27 => ?_) (fun c_27 => ?_)
                · exfalso; omega
                · refine z_iconst hC dX5_readNumber_71 ?_
                  refine z_goto hC 76 dX5_readNumber_72 (by decide) ?_
                  have e9 : sRd L t 3 e 0 = (((e + 1) + 1) + 1, ((10 * (((10 * (((10 * 0) + (cAt L t e)) - 48)) + (cAt L t (e + 1))) - 48)) + (cAt L t ((e + 1) + 1))) - 48) := by rw [sRd_p (by omega), sRd_p (by omega), sRd_p (by omega), sRd_0]
                  refine z_zret1 hC dX5_readNumber_76 ⟨by rw [zB_t (by rw [e9]; dsimp only; omega)], by rw [e9, hμ26, zup_n (by omega), hμ23, zup_s], by rw [e9, hμ26, zup_s], fun c i q1 q2 => by rw [hμ26, zup_n (by omega), hμ23, zup_n (by omega), hμ15, zup_n (by omega), hμ7, zup_n (by omega)]⟩
              · exfalso; omega

set_option maxHeartbeats 4000000 in
set_option maxRecDepth 100000 in
/-- append(c) -/
theorem m_X5_append (l : Launch) (G : va_G) (ca : Nat → ClassId) (ad : Int → Nat) (A : Nat → Prop) (μ : zM) (L : Int) (t : Int → Int) (hT : zTx μ L t) (c : Int) (hc : 32 ≤ c ∧ c ≤ 126) : zMet l (cω G ca ad) A yX5_append cX5_append 2 (some .boolean) 0 0 [.ref (ad 159), .int (iZ c)] μ (zpI (.int (iZ (zB (L < 60)))) (fun μ' => if L < 60 then μ' 159 1 = L + 1 ∧ μ' 160 L = c ∧ (∀ c i, (c = 159 → i ≠ 1) → (c = 160 → i ≠ L) → μ' c i = μ c i) else μ' = μ)) := by
  refine zMet_of (by decide) (Nat.le_of_ble_eq_true rfl) (fun Γ hC => ?_)
  show Z Γ _ μ 0 [(0, .ref (ad 159)), (1, .int (iZ c))] []
  have hL := hT.2.1
  refine z_aload_n hC dX5_append_0 rfl ?_
  refine z_get hC iA_X5 rfl 1 (by decide) qF_X5_19 rfl dX5_append_1 cl_script (cd_script (ca := ca) (ad := ad)) rfl ?_
  refine z_top (b := L) (by rw [hT.1]) ?_
  refine z_bipush hC dX5_append_4 (by decide) ?_
  refine z_icmp_lt hC 11 dX5_append_6 (by decide) (by omega) (by omega) (fun c_1 => ?_) (fun c_1 => ?_)
  · refine z_aload_n hC dX5_append_11 rfl ?_
    refine z_get hC iA_X5 rfl 0 (by decide) qF_X5_9 rfl dX5_append_12 cl_script (cd_script (ca := ca) (ad := ad)) rfl ?_
    refine z_aload_n hC dX5_append_15 rfl ?_
    refine z_get hC iA_X5 rfl 1 (by decide) qF_X5_19 rfl dX5_append_16 cl_script (cd_script (ca := ca) (ad := ad)) rfl ?_
    refine z_top (b := L) (by rw [hT.1]) ?_
    refine z_iload_n hC dX5_append_19 rfl ?_
    refine z_cast hC dX5_append_20 cl_chars (cd_chars (ca := ca) (ad := ad)) (by omega) (by omega) (by decide) (by omega) ?_
    refine z_nm (fun μ2 hμ2 => ?_)
    refine z_aload_n hC dX5_append_21 rfl ?_
    refine z_dup hC dX5_append_22 rfl ?_
    refine z_get hC iA_X5 rfl 1 (by decide) qF_X5_19 rfl dX5_append_23 cl_script (cd_script (ca := ca) (ad := ad)) rfl ?_
    refine z_top (b := L) (by rw [hμ2, zup_n (by omega), hT.1]) ?_
    refine z_iconst hC dX5_append_26 ?_
    refine z_iadd hC dX5_append_27 ?_
    refine z_put hC iA_X5 rfl tyX5 tyX5_ok nmX5 1 (by decide) rfl rfl 1 rfl qF_X5_19 rfl dX5_append_28 cl_script (cd_script (ca := ca) (ad := ad)) (fun _ => rfl) (fun _ => Nat.le_of_ble_eq_true rfl) ?_
    refine z_nm (fun μ3 hμ3 => ?_)
    refine z_iconst hC dX5_append_31 ?_
    exact z_zret1 hC dX5_append_32 ⟨by rw [zB_t (by omega)], by show (if L < 60 then _ else _); rw [if_pos (by omega)]; exact ⟨by rw [hμ3, zup_s], by rw [hμ3, zup_n (by omega), hμ2, zup_s], fun c9 i q1 q2 => by rw [hμ3, zup_n (by omega), hμ2, zup_n (by omega)]⟩⟩
  · refine z_iconst hC dX5_append_9 ?_
    exact z_zret0 hC dX5_append_10 ⟨by rw [zB_f (by omega)], by show (if L < 60 then _ else _); rw [if_neg (by omega)]⟩

set_option maxHeartbeats 4000000 in
set_option maxRecDepth 100000 in
/-- type(c) -/
theorem m_X7_type (l : Launch) (G : va_G) (ca : Nat → ClassId) (ad : Int → Nat) (A : Nat → Prop) (μ : zM) (d : zM) (n : Int) (h : Int → zM) (L : Int) (t : Int → Int) (hX : zSt μ d n h L t) (c : Int) (hc : -2147483648 ≤ c ∧ c ≤ 2147483647) : zMet l (cω G ca ad) A yX7_type cX7_type 2 (some .int) 1 22 [.ref (ad 156), .int (iZ c)] μ (zpI (.int (iZ (opType L t c).1)) (fun μ' => zSt μ' d n h (opType L t c).2.1 (opType L t c).2.2)) := by
  refine zMet_of (by decide) (Nat.le_of_ble_eq_true rfl) (fun Γ hC => ?_)
  show Z Γ _ μ 0 [(0, .ref (ad 156)), (1, .int (iZ c))] []
  have hL := hX.2.2.2.1
  refine z_iload_n hC dX7_type_0 rfl ?_
  refine z_bipush hC dX7_type_1 (by decide) ?_
  refine z_bipush hC dX7_type_3 (by decide) ?_
  refine z_callS hC [.int (iZ c), .int (iZ 32), .int (iZ 126)] 3 rfl dX7_type_5 (fun l => m_X7_isIn l _ _ _ c 32 126 (by omega) (by omega) (by omega)) qM_X7_156 qT_X7_isIn qi_X7 qC_X7_isIn (by decide +kernel) (by decide) (by decide) (Nat.le_of_ble_eq_true rfl) (zk_pure ?_) rfl
  refine z_ifb_ne hC 14 dX7_type_8 (by decide) (fun c_1 => ?_) (fun c_1 => ?_)
  · refine z_aload_n hC dX7_type_14 rfl ?_
    refine z_get hC iA_X7 rfl 3 (by decide) qF_X7_29 rfl dX7_type_15 cl_main (cd_main (ca := ca) (ad := ad)) rfl ?_
    refine z_iload_n hC dX7_type_18 rfl ?_
    refine z_i2c hC dX7_type_19 (by omega) ?_
    refine z_callV hC [.int (iZ c)] 1 rfl dX7_type_20 (fun l => m_X5_append l G ca ad _ μ L t hX.2.2 c (by omega)) qM_X7_260 qI_X5_append qS_X5_append qi_X5 qC_X5_append (by decide +kernel) (by decide) (by decide) cl_script (cd_script (ca := ca) (ad := ad)) rfl (Nat.le_of_ble_eq_true rfl) (zk_int (fun μ2 hμ2 => ?_)) rfl
    refine z_ifb_eq hC 36 dX7_type_23 (by decide) (fun c_3 => ?_) (fun c_3 => ?_)
    · rw [if_neg (by omega)] at hμ2
      refine z_ldcw hC (-1000003) qc_X7_264 rfl dX7_type_36 ?_
      exact z_iret hC dX7_type_39 ⟨by unfold opType; rw [if_neg (by omega), if_pos (by omega)], by unfold opType; rw [if_neg (by omega), if_pos (by omega), hμ2]; exact hX⟩
    · rw [if_pos (by omega)] at hμ2
      obtain ⟨ha1, ha2, ha3⟩ := hμ2
      refine z_aload_n hC dX7_type_26 rfl ?_
      refine z_get hC iA_X7 rfl 3 (by decide) qF_X7_29 rfl dX7_type_27 cl_main (cd_main (ca := ca) (ad := ad)) rfl ?_
      refine z_get hC iA_X5 rfl 1 (by decide) qF_X7_253 rfl dX7_type_30 cl_script (cd_script (ca := ca) (ad := ad)) rfl ?_
      refine z_top (b := L + 1) (by rw [ha1]) ?_
      refine z_goto hC 39 dX7_type_33 (by decide) ?_
      exact z_iret hC dX7_type_39 ⟨by unfold opType; rw [if_neg (by omega), if_neg (by omega)], by unfold opType; rw [if_neg (by omega), if_neg (by omega)]; exact zSt_type hX (by omega) (by omega) ha1 ha2 ha3⟩
  · refine z_ldc hC (-1000001) qc_X7_77 rfl dX7_type_11 ?_
    exact z_iret hC dX7_type_13 ⟨by unfold opType; rw [if_pos (by omega)], by unfold opType; rw [if_pos (by omega)]; exact hX⟩

set_option maxHeartbeats 4000000 in
set_option maxRecDepth 100000 in
/-- clearText() -/
theorem m_X7_clearText (l : Launch) (G : va_G) (ca : Nat → ClassId) (ad : Int → Nat) (A : Nat → Prop) (μ : zM) (d : zM) (n : Int) (h : Int → zM) (L : Int) (t : Int → Int) (hX : zSt μ d n h L t) : zMet l (cω G ca ad) A yX7_clearText cX7_clearText 2 (some .int) 0 0 [.ref (ad 156)] μ (zpI (.int (iZ L)) (fun μ' => zSt μ' d n h 0 t)) := by
  refine zMet_of (by decide) (Nat.le_of_ble_eq_true rfl) (fun Γ hC => ?_)
  show Z Γ _ μ 0 [(0, .ref (ad 156))] []
  refine z_aload_n hC dX7_clearText_0 rfl ?_
  refine z_get hC iA_X7 rfl 3 (by decide) qF_X7_29 rfl dX7_clearText_1 cl_main (cd_main (ca := ca) (ad := ad)) rfl ?_
  refine z_get hC iA_X5 rfl 1 (by decide) qF_X7_253 rfl dX7_clearText_4 cl_script (cd_script (ca := ca) (ad := ad)) rfl ?_
  refine z_top (b := L) (by rw [hX.2.2.1]) ?_
  refine z_istore_n hC dX7_clearText_7 (by decide) rfl ?_
  refine z_aload_n hC dX7_clearText_8 rfl ?_
  refine z_get hC iA_X7 rfl 3 (by decide) qF_X7_29 rfl dX7_clearText_9 cl_main (cd_main (ca := ca) (ad := ad)) rfl ?_
  refine z_iconst hC dX7_clearText_12 ?_
  refine z_put hC iA_X5 rfl tyX5 tyX5_ok nmX5 1 (by decide) rfl rfl 1 rfl qF_X7_253 rfl dX7_clearText_13 cl_script (cd_script (ca := ca) (ad := ad)) (fun _ => rfl) (fun _ => Nat.le_of_ble_eq_true rfl) ?_
  refine z_nm (fun μ1 hμ1 => ?_)
  refine z_iload_n hC dX7_clearText_16 rfl ?_
  exact z_iret hC dX7_clearText_17 ⟨rfl, zSt_clear hX (by rw [hμ1, zup_s]) (fun c i q => by rw [hμ1, zup_n (by omega)])⟩
