set_option maxHeartbeats 4000000 in
set_option maxRecDepth 100000 in
/-- sign() -/
theorem m_X8_sign (l : Launch) (G : va_G) (ca : Nat → ClassId) (ad : Int → Nat) (A : Nat → Prop) (μ : zM) (L : Int) (t : Int → Int) (hT : rTx μ L t) (e : Int) (h6 : μ 0 6 = e) (he : 0 ≤ e ∧ e ≤ 200) : zMet l (rω G ca ad) A yX8_sign cX8_sign 1 (some .int) 0 0 [.ref (ad 0)] μ (zpI (.int (iZ (cAt L t e))) (fun m => m = μ)) := by
  refine zMet_of (by decide) (Nat.le_of_ble_eq_true rfl) (fun Γ hC => ?_)
  show Z Γ _ μ 0 [(0, .ref (ad 0))] []
  have hL := hT.2.1
  have hT0 := zTx_of hT
  refine z_aload_n hC dX8_sign_0 rfl ?_
  refine z_get hC iA_X8 rfl 6 (by decide) qF_X8_144 rfl dX8_sign_1 rl_0 (rd_0 (ca := ca) (ad := ad)) rfl ?_
  refine z_top (b := e) (by rw [h6]) ?_
  refine z_aload_n hC dX8_sign_4 rfl ?_
  refine z_get hC iA_X8 rfl 3 (by decide) qF_X8_141 rfl dX8_sign_5 rl_0 (rd_0 (ca := ca) (ad := ad)) rfl ?_
  refine z_top (b := L) (by rw [hT.1]) ?_
  refine z_icmp_ge hC 23 dX8_sign_8 (by decide) (by omega) (by omega) (fun c_1 => ?_) (fun c_1 => ?_)
  · refine z_iconst hC dX8_sign_23 ?_
    exact z_iret hC dX8_sign_24 ⟨by unfold cAt; rw [if_neg (by omega)], rfl⟩
  · refine z_aload_n hC dX8_sign_11 rfl ?_
    refine z_get hC iA_X8 rfl 2 (by decide) qF_X8_13 rfl dX8_sign_12 rl_0 (rd_0 (ca := ca) (ad := ad)) rfl ?_
    refine z_aload_n hC dX8_sign_15 rfl ?_
    refine z_get hC iA_X8 rfl 6 (by decide) qF_X8_144 rfl dX8_sign_16 rl_0 (rd_0 (ca := ca) (ad := ad)) rfl ?_
    refine z_top (b := e) (by rw [h6]) ?_
    refine z_cald hC dX8_sign_19 rl_2 (rd_2 (ca := ca) (ad := ad)) (by omega) (by omega) (by decide) ?_
    refine z_goto hC 24 dX8_sign_20 (by decide) ?_
    have ht := hT.2.2 e (by omega)
    refine z_top ht.1 ?_
    exact z_iret hC dX8_sign_24 ⟨by unfold cAt; rw [if_pos (by omega)], rfl⟩

set_option maxHeartbeats 4000000 in
set_option maxRecDepth 100000 in
/-- number(k) -/
theorem m_X8_number (l : Launch) (G : va_G) (ca : Nat → ClassId) (ad : Int → Nat) (A : Nat → Prop) (μ : zM) (L : Int) (t : Int → Int) (hT : rTx μ L t) (e : Int) (h6 : μ 0 6 = e) (he : 0 ≤ e ∧ e ≤ 100) (k : Int) (hk : 0 ≤ k ∧ k < 6) : zMet l (rω G ca ad) A yX8_number cX8_number 4 (some .boolean) 1 22 [.ref (ad 0), .int (iZ k)] μ (zpI (.int (iZ (zB (e < (sRd L t 3 e 0).1)))) (fun μ' => μ' 0 6 = (sRd L t 3 e 0).1 ∧ μ' 3 k = (sRd L t 3 e 0).2 ∧ (∀ c i, (c = 0 → i ≠ 6) → (c = 3 → i ≠ k) → μ' c i = μ c i))) := by
  refine zMet_of (by decide) (Nat.le_of_ble_eq_true rfl) (fun Γ hC => ?_)
  show Z Γ _ μ 0 [(0, .ref (ad 0)), (1, .int (iZ k))] []
  have hL := hT.2.1
  have hT0 := zTx_of hT
  refine z_aload_n hC dX8_number_0 rfl ?_
  refine z_get hC iA_X8 rfl 6 (by decide) qF_X8_144 rfl dX8_number_1 rl_0 (rd_0 (ca := ca) (ad := ad)) rfl ?_
  refine z_top (b := e) (by rw [h6]) ?_
  refine z_istore_n hC dX8_number_4 (by decide) rfl ?_
  refine z_iconst hC dX8_number_5 ?_
  refine z_istore_n hC dX8_number_6 (by decide) rfl ?_
  refine z_aload_n hC dX8_number_7 rfl ?_
  refine z_get hC iA_X8 rfl 6 (by decide) qF_X8_144 rfl dX8_number_8 rl_0 (rd_0 (ca := ca) (ad := ad)) rfl ?_
  refine z_top (b := e) (by rw [h6]) ?_
  refine z_iload_n hC dX8_number_11 rfl ?_
  refine z_iconst hC dX8_number_12 ?_
  refine z_iadd hC dX8_number_13 ?_
  refine z_icmp_ge hC 57 dX8_number_14 (by decide) (by omega) (by omega) (fun c_1 => ?_) (fun c_1 => ?_)
  · exfalso; omega
  · refine z_aload_n hC dX8_number_17 rfl ?_
    refine z_callV hC [] 0 rfl dX8_number_18 (fun l => m_X8_sign l G ca ad _ μ L t hT e (by rw [h6]) (by omega)) qM_X8_147 qI_X8_sign qS_X8_sign qi_X8 qC_X8_sign (by decide +kernel) (by decide) (by decide) rl_0 (rd_0 (ca := ca) (ad := ad)) rfl (Nat.le_of_ble_eq_true rfl) (zk_pure ?_) rfl
    have hc2 := cAt_b hT0 e
    refine z_bipush hC dX8_number_21 (by decide) ?_
    refine z_bipush hC dX8_number_23 (by decide) ?_
    refine z_callS hC [.int (iZ (cAt L t e)), .int (iZ 48), .int (iZ 57)] 3 rfl dX8_number_25 (fun l => m_X8_in l _ _ _ (cAt L t e) 48 57 (by omega) (by omega) (by omega)) qM_X8_29 qT_X8_in qi_X8 qC_X8_in (by decide +kernel) (by decide) (by decide) (Nat.le_of_ble_eq_true rfl) (zk_pure ?_) rfl
    refine z_ifb_eq hC 57 dX8_number_28 (by decide) (fun c_3 => ?_) (fun c_3 => ?_)
    · refine z_aload_n hC dX8_number_57 rfl ?_
      refine z_get hC iA_X8 rfl 7 (by decide) qF_X8_17 rfl dX8_number_58 rl_0 (rd_0 (ca := ca) (ad := ad)) rfl ?_
      refine z_iload_n hC dX8_number_61 rfl ?_
      refine z_iload_n hC dX8_number_62 rfl ?_
      refine z_iast hC dX8_number_63 rl_3 (rd_3 (ca := ca) (ad := ad)) (by omega) (by omega) (by decide) ?_
      refine z_nm (fun μ4 hμ4 => ?_)
      refine z_aload_n hC dX8_number_64 rfl ?_
      refine z_get hC iA_X8 rfl 6 (by decide) qF_X8_144 rfl dX8_number_65 rl_0 (rd_0 (ca := ca) (ad := ad)) rfl ?_
      refine z_top (b := e) (by rw [hμ4, zup_n (by omega), h6]) ?_
      refine z_iload_n hC dX8_number_68 rfl ?_
      refine z_icmp_le hC 76 dX8_number_69 (by decide) (by omega) (by omega) (fun c_5 => ?_) (fun c_5 => ?_)
      · refine z_iconst hC dX8_number_76 ?_
        have e9 : sRd L t 3 e 0 = (e, 0) := by rw [sRd_n (by omega)]
        refine z_zret0 hC dX8_number_77 ⟨by rw [zB_f (by rw [e9]; dsimp only; omega)], by rw [e9, hμ4, zup_n (by omega), h6], by rw [e9, hμ4, zup_s], fun c i q1 q2 => by rw [hμ4, zup_n (by omega)]⟩
      · exfalso; omega
    · refine z_bipush hC dX8_number_31 (by decide) ?_
      refine z_iload_n hC dX8_number_33 rfl ?_
      refine z_imul hC dX8_number_34 ?_
      refine z_aload_n hC dX8_number_35 rfl ?_
      refine z_callV hC [] 0 rfl dX8_number_36 (fun l => m_X8_sign l G ca ad _ μ L t hT e (by rw [h6]) (by omega)) qM_X8_147 qI_X8_sign qS_X8_sign qi_X8 qC_X8_sign (by decide +kernel) (by decide) (by decide) rl_0 (rd_0 (ca := ca) (ad := ad)) rfl (Nat.le_of_ble_eq_true rfl) (zk_pure ?_) rfl
      have hc6 := cAt_b hT0 e
      refine z_iadd hC dX8_number_39 ?_
      refine z_bipush hC dX8_number_40 (by decide) ?_
      refine z_isub hC dX8_number_42 ?_
      refine z_istore_n hC dX8_number_43 (by decide) rfl ?_
      refine z_aload_n hC dX8_number_44 rfl ?_
      refine z_dup hC dX8_number_45 rfl ?_
      refine z_get hC iA_X8 rfl 6 (by decide) qF_X8_144 rfl dX8_number_46 rl_0 (rd_0 (ca := ca) (ad := ad)) rfl ?_
      refine z_top (b := e) (by rw [h6]) ?_
      refine z_iconst hC dX8_number_49 ?_
      refine z_iadd hC dX8_number_50 ?_
      refine z_put hC iA_X8 rfl tyX8 tyX8_ok nmX8 6 (by decide) rfl rfl 6 rfl qF_X8_144 rfl dX8_number_51 rl_0 (rd_0 (ca := ca) (ad := ad)) (fun _ => rfl) (fun _ => Nat.le_of_ble_eq_true rfl) ?_
      refine z_nm (fun μ7 hμ7 => ?_)
      have hT8 : rTx μ7 L t := rTx_fr hT (by rw [hμ7, zup_n (by omega)]) (by rw [hμ7, zup_o (by omega)])
      refine z_goto hC 7 dX8_number_54 (by decide) ?_
      refine z_aload_n hC dX8_number_7 rfl ?_
      refine z_get hC iA_X8 rfl 6 (by decide) qF_X8_144 rfl dX8_number_8 rl_0 (rd_0 (ca := ca) (ad := ad)) rfl ?_
      refine z_top (by rw [hμ7, zup_s]) ?_
      refine z_iload_n hC dX8_number_11 rfl ?_
      refine z_iconst hC dX8_number_12 ?_
      refine z_iadd hC dX8_number_13 ?_
      refine z_icmp_ge hC 57 dX8_number_14 (by decide) (by omega) (by omega) (fun c_9 => ?_) (fun c_9 => ?_)
      · exfalso; omega
      · refine z_aload_n hC dX8_number_17 rfl ?_
        refine z_callV hC [] 0 rfl dX8_number_18 (fun l => m_X8_sign l G ca ad _ μ7 L t hT8 (e + 1) (by rw [hμ7, zup_s]) (by omega)) qM_X8_147 qI_X8_sign qS_X8_sign qi_X8 qC_X8_sign (by decide +kernel) (by decide) (by decide) rl_0 (rd_0 (ca := ca) (ad := ad)) rfl (Nat.le_of_ble_eq_true rfl) (zk_pure ?_) rfl
        have hc10 := cAt_b hT0 (e + 1)
        refine z_bipush hC dX8_number_21 (by decide) ?_
        refine z_bipush hC dX8_number_23 (by decide) ?_
        refine z_callS hC [.int (iZ (cAt L t (e + 1))), .int (iZ 48), .int (iZ 57)] 3 rfl dX8_number_25 (fun l => m_X8_in l _ _ _ (cAt L t (e + 1)) 48 57 (by omega) (by omega) (by omega)) qM_X8_29 qT_X8_in qi_X8 qC_X8_in (by decide +kernel) (by decide) (by decide) (Nat.le_of_ble_eq_true rfl) (zk_pure ?_) rfl
        refine z_ifb_eq hC 57 dX8_number_28 (by decide) (fun c_11 => ?_) (fun c_11 => ?_)
        · refine z_aload_n hC dX8_number_57 rfl ?_
          refine z_get hC iA_X8 rfl 7 (by decide) qF_X8_17 rfl dX8_number_58 rl_0 (rd_0 (ca := ca) (ad := ad)) rfl ?_
          refine z_iload_n hC dX8_number_61 rfl ?_
          refine z_iload_n hC dX8_number_62 rfl ?_
          refine z_iast hC dX8_number_63 rl_3 (rd_3 (ca := ca) (ad := ad)) (by omega) (by omega) (by decide) ?_
          refine z_nm (fun μ12 hμ12 => ?_)
          refine z_aload_n hC dX8_number_64 rfl ?_
          refine z_get hC iA_X8 rfl 6 (by decide) qF_X8_144 rfl dX8_number_65 rl_0 (rd_0 (ca := ca) (ad := ad)) rfl ?_
          refine z_top (by rw [hμ12, zup_n (by omega), hμ7, zup_s]) ?_
          refine z_iload_n hC dX8_number_68 rfl ?_
          refine z_icmp_le hC 76 dX8_number_69 (by decide) (by omega) (by omega) (fun c_13 => ?_) (fun c_13 => ?_)
          · exfalso; omega
          · refine z_iconst hC dX8_number_72 ?_
            refine z_goto hC 77 dX8_number_73 (by decide) ?_
            have e9 : sRd L t 3 e 0 = (e + 1, ((10 * 0) + (cAt L t e)) - 48) := by rw [sRd_p (by omega), sRd_n (by omega)]
            refine z_zret1 hC dX8_number_77 ⟨by rw [zB_t (by rw [e9]; dsimp only; omega)], by rw [e9, hμ12, zup_n (by omega), hμ7, zup_s], by rw [e9, hμ12, zup_s], fun c i q1 q2 => by rw [hμ12, zup_n (by omega), hμ7, zup_n (by omega)]⟩
        · refine z_bipush hC dX8_number_31 (by decide) ?_
          refine z_iload_n hC dX8_number_33 rfl ?_
          refine z_imul hC dX8_number_34 ?_
          refine z_aload_n hC dX8_number_35 rfl ?_
          refine z_callV hC [] 0 rfl dX8_number_36 (fun l => m_X8_sign l G ca ad _ μ7 L t hT8 (e + 1) (by rw [hμ7, zup_s]) (by omega)) qM_X8_147 qI_X8_sign qS_X8_sign qi_X8 qC_X8_sign (by decide +kernel) (by decide) (by decide) rl_0 (rd_0 (ca := ca) (ad := ad)) rfl (Nat.le_of_ble_eq_true rfl) (zk_pure ?_) rfl
          have hc14 := cAt_b hT0 (e + 1)
          refine z_iadd hC dX8_number_39 ?_
          refine z_bipush hC dX8_number_40 (by decide) ?_
          refine z_isub hC dX8_number_42 ?_
          refine z_istore_n hC dX8_number_43 (by decide) rfl ?_
          refine z_aload_n hC dX8_number_44 rfl ?_
          refine z_dup hC dX8_number_45 rfl ?_
          refine z_get hC iA_X8 rfl 6 (by decide) qF_X8_144 rfl dX8_number_46 rl_0 (rd_0 (ca := ca) (ad := ad)) rfl ?_
          refine z_top (by rw [hμ7, zup_s]) ?_
          refine z_iconst hC dX8_number_49 ?_
          refine z_iadd hC dX8_number_50 ?_
          refine z_put hC iA_X8 rfl tyX8 tyX8_ok nmX8 6 (by decide) rfl rfl 6 rfl qF_X8_144 rfl dX8_number_51 rl_0 (rd_0 (ca := ca) (ad := ad)) (fun _ => rfl) (fun _ => Nat.le_of_ble_eq_true rfl) ?_
          refine z_nm (fun μ15 hμ15 => ?_)
          have hT16 : rTx μ15 L t := rTx_fr hT8 (by rw [hμ15, zup_n (by omega)]) (by rw [hμ15, zup_o (by omega)])
          refine z_goto hC 7 dX8_number_54 (by decide) ?_
          refine z_aload_n hC dX8_number_7 rfl ?_
          refine z_get hC iA_X8 rfl 6 (by decide) qF_X8_144 rfl dX8_number_8 rl_0 (rd_0 (ca := ca) (ad := ad)) rfl ?_
          refine z_top (by rw [hμ15, zup_s]) ?_
          refine z_iload_n hC dX8_number_11 rfl ?_
          refine z_iconst hC dX8_number_12 ?_
          refine z_iadd hC dX8_number_13 ?_
          refine z_icmp_ge hC 57 dX8_number_14 (by decide) (by omega) (by omega) (fun c_17 => ?_) (fun c_17 => ?_)
          · exfalso; omega
          · refine z_aload_n hC dX8_number_17 rfl ?_
            refine z_callV hC [] 0 rfl dX8_number_18 (fun l => m_X8_sign l G ca ad _ μ15 L t hT16 ((e + 1) + 1) (by rw [hμ15, zup_s]) (by omega)) qM_X8_147 qI_X8_sign qS_X8_sign qi_X8 qC_X8_sign (by decide +kernel) (by decide) (by decide) rl_0 (rd_0 (ca := ca) (ad := ad)) rfl (Nat.le_of_ble_eq_true rfl) (zk_pure ?_) rfl
            have hc18 := cAt_b hT0 ((e + 1) + 1)
            refine z_bipush hC dX8_number_21 (by decide) ?_
            refine z_bipush hC dX8_number_23 (by decide) ?_
            refine z_callS hC [.int (iZ (cAt L t ((e + 1) + 1))), .int (iZ 48), .int (iZ 57)] 3 rfl dX8_number_25 (fun l => m_X8_in l _ _ _ (cAt L t ((e + 1) + 1)) 48 57 (by omega) (by omega) (by omega)) qM_X8_29 qT_X8_in qi_X8 qC_X8_in (by decide +kernel) (by decide) (by decide) (Nat.le_of_ble_eq_true rfl) (zk_pure ?_) rfl
            refine z_ifb_eq hC 57 dX8_number_28 (by decide) (fun c_19 => ?_) (fun c_19 => ?_)
            · refine z_aload_n hC dX8_number_57 rfl ?_
              refine z_get hC iA_X8 rfl 7 (by decide) qF_X8_17 rfl dX8_number_58 rl_0 (rd_0 (ca := ca) (ad := ad)) rfl ?_
              refine z_iload_n hC dX8_number_61 rfl ?_
              refine z_iload_n hC dX8_number_62 rfl ?_
              refine z_iast hC dX8_number_63 rl_3 (rd_3 (ca := ca) (ad := ad)) (by omega) (by omega) (by decide) ?_
              refine z_nm (fun μ20 hμ20 => ?_)
              refine z_aload_n hC dX8_number_64 rfl ?_
              refine z_get hC iA_X8 rfl 6 (by decide) qF_X8_144 rfl dX8_number_65 rl_0 (rd_0 (ca := ca) (ad := ad)) rfl ?_
              refine z_top (by rw [hμ20, zup_n (by omega), hμ15, zup_s]) ?_
              refine z_iload_n hC dX8_number_68 rfl ?_
              refine z_icmp_le hC 76 dX8_number_69 (by decide) (by omega) (by omega) (fun c_21 => ?_) (fun c_21 => ?_)
              · exfalso; omega
              · refine z_iconst hC dX8_number_72 ?_
                refine z_goto hC 77 dX8_number_73 (by decide) ?_
                have e9 : sRd L t 3 e 0 = ((e + 1) + 1, ((10 * (((10 * 0) + (cAt L t e)) - 48)) + (cAt L t (e + 1))) - 48) := by rw [sRd_p (by omega), sRd_p (by omega), sRd_n (by omega)]
                refine z_zret1 hC dX8_number_77 ⟨by rw [zB_t (by rw [e9]; dsimp only; omega)], by rw [e9, hμ20, zup_n (by omega), hμ15, zup_s], by rw [e9, hμ20, zup_s], fun c i q1 q2 => by rw [hμ20, zup_n (by omega), hμ15, zup_n (by omega), hμ7, zup_n (by omega)]⟩
            · refine z_bipush hC dX8_number_31 (by decide) ?_
              refine z_iload_n hC dX8_number_33 rfl ?_
              refine z_imul hC dX8_number_34 ?_
              refine z_aload_n hC dX8_number_35 rfl ?_
              refine z_callV hC [] 0 rfl dX8_number_36 (fun l => m_X8_sign l G ca ad _ μ15 L t hT16 ((e + 1) + 1) (by rw [hμ15, zup_s]) (by omega)) qM_X8_147 qI_X8_sign qS_X8_sign qi_X8 qC_X8_sign (by decide +kernel) (by decide) (by decide) rl_0 (rd_0 (ca := ca) (ad := ad)) rfl (Nat.le_of_ble_eq_true rfl) (zk_pure ?_) rfl
              have hc22 := cAt_b hT0 ((e + 1) + 1)
              refine z_iadd hC dX8_number_39 ?_
              refine z_bipush hC dX8_number_40 (by decide) ?_
              refine z_isub hC dX8_number_42 ?_
              refine z_istore_n hC dX8_number_43 (by decide) rfl ?_
              refine z_aload_n hC dX8_number_44 rfl ?_
              refine z_dup hC dX8_number_45 rfl ?_
              refine z_get hC iA_X8 rfl 6 (by decide) qF_X8_144 rfl dX8_number_46 rl_0 (rd_0 (ca := ca) (ad := ad)) rfl ?_
              refine z_top (by rw [hμ15, zup_s]) ?_
              refine z_iconst hC dX8_number_49 ?_
              refine z_iadd hC dX8_number_50 ?_
              refine z_put hC iA_X8 rfl tyX8 tyX8_ok nmX8 6 (by decide) rfl rfl 6 rfl qF_X8_144 rfl dX8_number_51 rl_0 (rd_0 (ca := ca) (ad := ad)) (fun _ => rfl) (fun _ => Nat.le_of_ble_eq_true rfl) ?_
              refine z_nm (fun μ23 hμ23 => ?_)
              have hT24 : rTx μ23 L t := rTx_fr hT16 (by rw [hμ23, zup_n (by omega)]) (by rw [hμ23, zup_o (by omega)])
              refine z_goto hC 7 dX8_number_54 (by decide) ?_
              refine z_aload_n hC dX8_number_7 rfl ?_
              refine z_get hC iA_X8 rfl 6 (by decide) qF_X8_144 rfl dX8_number_8 rl_0 (rd_0 (ca := ca) (ad := ad)) rfl ?_
              refine z_top (by rw [hμ23, zup_s]) ?_
              refine z_iload_n hC dX8_number_11 rfl ?_
              refine z_iconst hC dX8_number_12 ?_
              refine z_iadd hC dX8_number_13 ?_
              refine z_icmp_ge hC 57 dX8_number_14 (by decide) (by omega) (by omega) (fun c_25 => ?_) (fun c_25 => ?_)
              · refine z_aload_n hC dX8_number_57 rfl ?_
                refine z_get hC iA_X8 rfl 7 (by decide) qF_X8_17 rfl dX8_number_58 rl_0 (rd_0 (ca := ca) (ad := ad)) rfl ?_
                refine z_iload_n hC dX8_number_61 rfl ?_
                refine z_iload_n hC dX8_number_62 rfl ?_
                refine z_iast hC dX8_number_63 rl_3 (rd_3 (ca := ca) (ad := ad)) (by omega) (by omega) (by decide) ?_
                refine z_nm (fun μ26 hμ26 => ?_)
                refine z_aload_n hC dX8_number_64 rfl ?_
                refine z_get hC iA_X8 rfl 6 (by decide) qF_X8_144 rfl dX8_number_65 rl_0 (rd_0 (ca := ca) (ad := ad)) rfl ?_
                refine z_top (by rw [hμ26, zup_n (by omega), hμ23, zup_s]) ?_
                refine z_iload_n hC dX8_number_68 rfl ?_
                refine z_icmp_le hC 76 dX8_number_69 (by decide) (by omega) (by omega) (fun c_27 => ?_) (fun c_27 => ?_)
                · exfalso; omega
                · refine z_iconst hC dX8_number_72 ?_
                  refine z_goto hC 77 dX8_number_73 (by decide) ?_
                  have e9 : sRd L t 3 e 0 = (((e + 1) + 1) + 1, ((10 * (((10 * (((10 * 0) + (cAt L t e)) - 48)) + (cAt L t (e + 1))) - 48)) + (cAt L t ((e + 1) + 1))) - 48) := by rw [sRd_p (by omega), sRd_p (by omega), sRd_p (by omega), sRd_0]
                  refine z_zret1 hC dX8_number_77 ⟨by rw [zB_t (by rw [e9]; dsimp only; omega)], by rw [e9, hμ26, zup_n (by omega), hμ23, zup_s], by rw [e9, hμ26, zup_s], fun c i q1 q2 => by rw [hμ26, zup_n (by omega), hμ23, zup_n (by omega), hμ15, zup_n (by omega), hμ7, zup_n (by omega)]⟩
              · exfalso; omega

set_option maxHeartbeats 4000000 in
set_option maxRecDepth 100000 in
/-- takes(w) -/
theorem m_X8_takes (l : Launch) (G : va_G) (ca : Nat → ClassId) (ad : Int → Nat) (A : Nat → Prop) (μ : zM) (L : Int) (t : Int → Int) (hT : rTx μ L t) (e : Int) (h6 : μ 0 6 = e) (he : 0 ≤ e ∧ e ≤ 100) (w : Int) (hw : -2147483648 ≤ w ∧ w ≤ 2147483647) : zMet l (rω G ca ad) A yX8_takes cX8_takes 2 (some .boolean) 1 20 [.ref (ad 0), .int (iZ w)] μ (zpI (.int (iZ (zB (cAt L t e = w)))) (fun μ' => if cAt L t e = w then μ' = zup μ 0 6 (e + 1) else μ' = μ)) := by
  refine zMet_of (by decide) (Nat.le_of_ble_eq_true rfl) (fun Γ hC => ?_)
  show Z Γ _ μ 0 [(0, .ref (ad 0)), (1, .int (iZ w))] []
  have hL := hT.2.1
  have hT0 := zTx_of hT
  refine z_aload_n hC dX8_takes_0 rfl ?_
  refine z_callV hC [] 0 rfl dX8_takes_1 (fun l => m_X8_sign l G ca ad _ μ L t hT e (by rw [h6]) (by omega)) qM_X8_147 qI_X8_sign qS_X8_sign qi_X8 qC_X8_sign (by decide +kernel) (by decide) (by decide) rl_0 (rd_0 (ca := ca) (ad := ad)) rfl (Nat.le_of_ble_eq_true rfl) (zk_pure ?_) rfl
  have hc1 := cAt_b hT0 e
  refine z_iload_n hC dX8_takes_4 rfl ?_
  refine z_icmp_eq hC 10 dX8_takes_5 (by decide) (by omega) (by omega) (fun c_2 => ?_) (fun c_2 => ?_)
  · refine z_aload_n hC dX8_takes_10 rfl ?_
    refine z_dup hC dX8_takes_11 rfl ?_
    refine z_get hC iA_X8 rfl 6 (by decide) qF_X8_144 rfl dX8_takes_12 rl_0 (rd_0 (ca := ca) (ad := ad)) rfl ?_
    refine z_top (b := e) (by rw [h6]) ?_
    refine z_iconst hC dX8_takes_15 ?_
    refine z_iadd hC dX8_takes_16 ?_
    refine z_put hC iA_X8 rfl tyX8 tyX8_ok nmX8 6 (by decide) rfl rfl 6 rfl qF_X8_144 rfl dX8_takes_17 rl_0 (rd_0 (ca := ca) (ad := ad)) (fun _ => rfl) (fun _ => Nat.le_of_ble_eq_true rfl) ?_
    refine z_nm (fun μ3 hμ3 => ?_)
    refine z_iconst hC dX8_takes_20 ?_
    exact z_zret1 hC dX8_takes_21 ⟨by rw [zB_t (by omega)], by show (if cAt L t e = w then _ else _); rw [if_pos (by omega)]; exact hμ3⟩
  · refine z_iconst hC dX8_takes_8 ?_
    exact z_zret0 hC dX8_takes_9 ⟨by rw [zB_f (by omega)], by show (if cAt L t e = w then _ else _); rw [if_neg (by omega)]⟩
