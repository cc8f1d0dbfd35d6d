set_option maxHeartbeats 4000000 in
set_option maxRecDepth 100000 in
/-- History.dropOldest() -/
theorem m_X4_dropOldest (l : Launch) (G : va_G) (ca : Nat → ClassId) (ad : Int → Nat) (A : Nat → Prop) (μ : zM) (hpm : zPm μ) : zMet l (cω G ca ad) A yX4_dropOldest cX4_dropOldest 3 none 0 0 [.ref (ad 157)] μ (zpV (fun μ' => μ' 158 0 = μ 158 1 ∧ μ' 158 1 = μ 158 2 ∧ μ' 158 2 = μ 158 3 ∧ μ' 158 3 = μ 158 0 ∧ μ' 157 1 = 3 ∧ (∀ c, c ≠ 157 ∧ c ≠ 158 → μ' c = μ c))) := by
  refine zMet_of (by decide) (Nat.le_of_ble_eq_true rfl) (fun Γ hC => ?_)
  show Z Γ _ μ 0 [(0, .ref (ad 157))] []
  refine z_aload_n hC dX4_dropOldest_0 rfl ?_
  refine z_get hC iA_X4 rfl 0 (by decide) qF_X4_11 rfl dX4_dropOldest_1 cl_hist (cd_hist (ca := ca) (ad := ad)) rfl ?_
  refine z_iconst hC dX4_dropOldest_4 ?_
  refine z_aald hC dX4_dropOldest_5 4 rfl cl_states (fun r i => 26 * r i) (cd_states (ca := ca) (ad := ad)) (by omega) (by omega) (by decide) ?_
  refine z_astore_n hC dX4_dropOldest_6 (by decide) rfl ?_
  refine z_iconst hC dX4_dropOldest_7 ?_
  refine z_istore_n hC dX4_dropOldest_8 (by decide) rfl ?_
  refine z_iload_n hC dX4_dropOldest_9 rfl ?_
  refine z_iconst hC dX4_dropOldest_10 ?_
  refine z_icmp_ge hC 34 dX4_dropOldest_11 (by decide) (by omega) (by omega) (fun c_1 => ?_) (fun c_1 => ?_)
  · exfalso; omega
  · refine z_aload_n hC dX4_dropOldest_14 rfl ?_
    refine z_get hC iA_X4 rfl 0 (by decide) qF_X4_11 rfl dX4_dropOldest_15 cl_hist (cd_hist (ca := ca) (ad := ad)) rfl ?_
    refine z_iload_n hC dX4_dropOldest_18 rfl ?_
    refine z_iconst hC dX4_dropOldest_19 ?_
    refine z_isub hC dX4_dropOldest_20 ?_
    refine z_aload_n hC dX4_dropOldest_21 rfl ?_
    refine z_get hC iA_X4 rfl 0 (by decide) qF_X4_11 rfl dX4_dropOldest_22 cl_hist (cd_hist (ca := ca) (ad := ad)) rfl ?_
    refine z_iload_n hC dX4_dropOldest_25 rfl ?_
    refine z_aald hC dX4_dropOldest_26 4 rfl cl_states (fun r i => 26 * r i) (cd_states (ca := ca) (ad := ad)) (by omega) (by omega) (by decide) ?_
    refine z_aast hC dX4_dropOldest_27 4 (r0 := (RX2, TX2, 12)) (ci := 2) (z := μ 158 1) rfl rfl cl_states (fun r i => 26 * r i) (cd_states (ca := ca) (ad := ad)) (fun r j => by dsimp only; split <;> rfl) (cl_desk (zb_s hpm (by omega))) (cd_desk (zb_s hpm (by omega))) (by omega) (by omega) (by decide) ?_
    refine z_nm (fun μ2 hμ2 => ?_)
    refine z_iinc hC dX4_dropOldest_28 rfl (by decide) rfl ?_
    refine z_goto hC 9 dX4_dropOldest_31 (by decide) ?_
    refine z_iload_n hC dX4_dropOldest_9 rfl ?_
    refine z_iconst hC dX4_dropOldest_10 ?_
    refine z_icmp_ge hC 34 dX4_dropOldest_11 (by decide) (by omega) (by omega) (fun c_3 => ?_) (fun c_3 => ?_)
    · exfalso; omega
    · refine z_aload_n hC dX4_dropOldest_14 rfl ?_
      refine z_get hC iA_X4 rfl 0 (by decide) qF_X4_11 rfl dX4_dropOldest_15 cl_hist (cd_hist (ca := ca) (ad := ad)) rfl ?_
      refine z_iload_n hC dX4_dropOldest_18 rfl ?_
      refine z_iconst hC dX4_dropOldest_19 ?_
      refine z_isub hC dX4_dropOldest_20 ?_
      refine z_aload_n hC dX4_dropOldest_21 rfl ?_
      refine z_get hC iA_X4 rfl 0 (by decide) qF_X4_11 rfl dX4_dropOldest_22 cl_hist (cd_hist (ca := ca) (ad := ad)) rfl ?_
      refine z_iload_n hC dX4_dropOldest_25 rfl ?_
      refine z_aald hC dX4_dropOldest_26 4 rfl cl_states (fun r i => 26 * r i) (cd_states (ca := ca) (ad := ad)) (by omega) (by omega) (by decide) ?_
      refine z_topr (b := ad (26 * (μ 158 2))) (by rw [hμ2, zup_n (by omega)]; try rfl) ?_
      refine z_aast hC dX4_dropOldest_27 4 (r0 := (RX2, TX2, 12)) (ci := 2) (z := μ 158 2) rfl rfl cl_states (fun r i => 26 * r i) (cd_states (ca := ca) (ad := ad)) (fun r j => by dsimp only; split <;> rfl) (cl_desk (zb_s hpm (by omega))) (cd_desk (zb_s hpm (by omega))) (by omega) (by omega) (by decide) ?_
      refine z_nm (fun μ4 hμ4 => ?_)
      refine z_iinc hC dX4_dropOldest_28 rfl (by decide) rfl ?_
      refine z_goto hC 9 dX4_dropOldest_31 (by decide) ?_
      refine z_iload_n hC dX4_dropOldest_9 rfl ?_
      refine z_iconst hC dX4_dropOldest_10 ?_
      refine z_icmp_ge hC 34 dX4_dropOldest_11 (by decide) (by omega) (by omega) (fun c_5 => ?_) (fun c_5 => ?_)
      · exfalso; omega
      · refine z_aload_n hC dX4_dropOldest_14 rfl ?_
        refine z_get hC iA_X4 rfl 0 (by decide) qF_X4_11 rfl dX4_dropOldest_15 cl_hist (cd_hist (ca := ca) (ad := ad)) rfl ?_
        refine z_iload_n hC dX4_dropOldest_18 rfl ?_
        refine z_iconst hC dX4_dropOldest_19 ?_
        refine z_isub hC dX4_dropOldest_20 ?_
        refine z_aload_n hC dX4_dropOldest_21 rfl ?_
        refine z_get hC iA_X4 rfl 0 (by decide) qF_X4_11 rfl dX4_dropOldest_22 cl_hist (cd_hist (ca := ca) (ad := ad)) rfl ?_
        refine z_iload_n hC dX4_dropOldest_25 rfl ?_
        refine z_aald hC dX4_dropOldest_26 4 rfl cl_states (fun r i => 26 * r i) (cd_states (ca := ca) (ad := ad)) (by omega) (by omega) (by decide) ?_
        refine z_topr (b := ad (26 * (μ 158 3))) (by rw [hμ4, zup_n (by omega), hμ2, zup_n (by omega)]; try rfl) ?_
        refine z_aast hC dX4_dropOldest_27 4 (r0 := (RX2, TX2, 12)) (ci := 2) (z := μ 158 3) rfl rfl cl_states (fun r i => 26 * r i) (cd_states (ca := ca) (ad := ad)) (fun r j => by dsimp only; split <;> rfl) (cl_desk (zb_s hpm (by omega))) (cd_desk (zb_s hpm (by omega))) (by omega) (by omega) (by decide) ?_
        refine z_nm (fun μ6 hμ6 => ?_)
        refine z_iinc hC dX4_dropOldest_28 rfl (by decide) rfl ?_
        refine z_goto hC 9 dX4_dropOldest_31 (by decide) ?_
        refine z_iload_n hC dX4_dropOldest_9 rfl ?_
        refine z_iconst hC dX4_dropOldest_10 ?_
        refine z_icmp_ge hC 34 dX4_dropOldest_11 (by decide) (by omega) (by omega) (fun c_7 => ?_) (fun c_7 => ?_)
        · refine z_aload_n hC dX4_dropOldest_34 rfl ?_
          refine z_get hC iA_X4 rfl 0 (by decide) qF_X4_11 rfl dX4_dropOldest_35 cl_hist (cd_hist (ca := ca) (ad := ad)) rfl ?_
          refine z_iconst hC dX4_dropOldest_38 ?_
          refine z_aload_n hC dX4_dropOldest_39 rfl ?_
          refine z_aast hC dX4_dropOldest_40 4 (r0 := (RX2, TX2, 12)) (ci := 2) (z := μ 158 0) rfl rfl cl_states (fun r i => 26 * r i) (cd_states (ca := ca) (ad := ad)) (fun r j => by dsimp only; split <;> rfl) (cl_desk (zb_s hpm (by omega))) (cd_desk (zb_s hpm (by omega))) (by omega) (by omega) (by decide) ?_
          refine z_nm (fun μ8 hμ8 => ?_)
          refine z_aload_n hC dX4_dropOldest_41 rfl ?_
          refine z_iconst hC dX4_dropOldest_42 ?_
          refine z_put hC iA_X4 rfl tyX4 tyX4_ok nmX4 1 (by decide) rfl rfl 1 rfl qF_X4_18 rfl dX4_dropOldest_43 cl_hist (cd_hist (ca := ca) (ad := ad)) (fun _ => rfl) (fun _ => Nat.le_of_ble_eq_true rfl) ?_
          refine z_nm (fun μ9 hμ9 => ?_)
          exact z_vret hC dX4_dropOldest_46 ⟨rfl, by rw [hμ9, zup_n (by omega), hμ8, zup_n (by omega), hμ6, zup_n (by omega), hμ4, zup_n (by omega), hμ2, zup_v (by omega)], by rw [hμ9, zup_n (by omega), hμ8, zup_n (by omega), hμ6, zup_n (by omega), hμ4, zup_v (by omega)], by rw [hμ9, zup_n (by omega), hμ8, zup_n (by omega), hμ6, zup_v (by omega)], by rw [hμ9, zup_n (by omega), hμ8, zup_v (by omega)], by rw [hμ9, zup_v (by omega)], fun c9 hc9 => by rw [hμ9, zup_o (by omega), hμ8, zup_o (by omega), hμ6, zup_o (by omega), hμ4, zup_o (by omega), hμ2, zup_o (by omega)]⟩
        · exfalso; omega

set_option maxHeartbeats 4000000 in
set_option maxRecDepth 100000 in
/-- History.record(desk) -/
theorem m_X4_record (l : Launch) (G : va_G) (ca : Nat → ClassId) (ad : Int → Nat) (A : Nat → Prop) (μ : zM) (n : Int) (h : Int → zM) (hH : zHi μ n h) : zMet l (cω G ca ad) A yX4_record cX4_record 2 none 3 83 [.ref (ad 157), .ref (ad 0)] μ (zpV (fun μ' => zHi μ' (sPushN n) (sPushH n h (vw μ 0)) ∧ (∀ c, c < 52 ∨ 159 ≤ c → μ' c = μ c))) := by
  refine zMet_of (by decide) (Nat.le_of_ble_eq_true rfl) (fun Γ hC => ?_)
  show Z Γ _ μ 0 [(0, .ref (ad 157)), (1, .ref (ad 0))] []
  have hpm := hH.1
  have hn0 := hH.2.2.1
  have hn1 := hH.2.1
  refine z_aload_n hC dX4_record_0 rfl ?_
  refine z_get hC iA_X4 rfl 1 (by decide) qF_X4_18 rfl dX4_record_1 cl_hist (cd_hist (ca := ca) (ad := ad)) rfl ?_
  refine z_top (b := n) (by rw [hn1]) ?_
  refine z_iconst hC dX4_record_4 ?_
  refine z_icmp_lt hC 12 dX4_record_5 (by decide) (by omega) (by omega) (fun c_1 => ?_) (fun c_1 => ?_)
  · refine z_aload_n hC dX4_record_12 rfl ?_
    refine z_get hC iA_X4 rfl 0 (by decide) qF_X4_11 rfl dX4_record_13 cl_hist (cd_hist (ca := ca) (ad := ad)) rfl ?_
    refine z_aload_n hC dX4_record_16 rfl ?_
    refine z_get hC iA_X4 rfl 1 (by decide) qF_X4_18 rfl dX4_record_17 cl_hist (cd_hist (ca := ca) (ad := ad)) rfl ?_
    refine z_top (b := n) (by rw [hn1]) ?_
    refine z_aald hC dX4_record_20 4 rfl cl_states (fun r i => 26 * r i) (cd_states (ca := ca) (ad := ad)) (by omega) (by omega) (by decide) ?_
    have hbn11 := hpm.1 n (by omega)
    refine z_aload_n hC dX4_record_21 rfl ?_
    refine z_callV hC [.ref (ad 0)] 1 rfl dX4_record_22 (fun l => m_X2_copyFrom l G ca ad _ μ (26 * (μ 158 n)) 0 (zb_s hpm (by omega)) zb_0 (by omega)) qM_X4_25 qI_X2_copyFrom qS_X2_copyFrom qi_X2 qC_X2_copyFrom (by decide +kernel) (by decide) (by decide) (cl_desk (zb_s hpm (by omega))) (cd_desk (zb_s hpm (by omega))) rfl (Nat.le_of_ble_eq_true rfl) (zk_void (fun μ2 hμ2 => ?_)) rfl
    obtain ⟨hμ2v, hμ2f⟩ := id hμ2
    refine z_aload_n hC dX4_record_25 rfl ?_
    refine z_dup hC dX4_record_26 rfl ?_
    refine z_get hC iA_X4 rfl 1 (by decide) qF_X4_18 rfl dX4_record_27 cl_hist (cd_hist (ca := ca) (ad := ad)) rfl ?_
    refine z_top (b := n) (by rw [hμ2f 157 (by omega), hn1]) ?_
    refine z_iconst hC dX4_record_30 ?_
    refine z_iadd hC dX4_record_31 ?_
    refine z_put hC iA_X4 rfl tyX4 tyX4_ok nmX4 1 (by decide) rfl rfl 1 rfl qF_X4_18 rfl dX4_record_32 cl_hist (cd_hist (ca := ca) (ad := ad)) (fun _ => rfl) (fun _ => Nat.le_of_ble_eq_true rfl) ?_
    refine z_nm (fun μ3 hμ3 => ?_)
    have K := zHi_put (by omega) hH hμ2v hμ2f hμ3
    exact z_vret hC dX4_record_35 ⟨rfl, by rw [show sPushN n = n + 1 by unfold sPushN; rw [if_neg (by omega)]]; exact zHi_eq K (fun i hi => by show (if i = n then vw μ 0 else h i) = (if n = 4 then (if i = 3 then vw μ 0 else h (i + 1)) else if i = n then vw μ 0 else h i); rw [if_neg (show ¬ n = 4 by omega)]), fun c9 hc9 => by rw [hμ3, zup_o (by omega), hμ2f c9 (by omega)]⟩
  · refine z_aload_n hC dX4_record_8 rfl ?_
    refine z_callV hC [] 0 rfl dX4_record_9 (fun l => m_X4_dropOldest l G ca ad _ μ hH.1) qM_X4_22 qI_X4_dropOldest qS_X4_dropOldest qi_X4 qC_X4_dropOldest (by decide +kernel) (by decide) (by decide) cl_hist (cd_hist (ca := ca) (ad := ad)) rfl (Nat.le_of_ble_eq_true rfl) (zk_void (fun μ4 hμ4 => ?_)) rfl
    obtain ⟨hμ40, hμ41, hμ42, hμ43, hμ4s, hμ4f⟩ := id hμ4
    have hH4 : zHi μ 4 h := by rw [show (4 : Int) = n by omega]; exact hH
    have hHd := zHi_drop hH4 hμ40 hμ41 hμ42 hμ43 hμ4s (fun c hc => hμ4f c (by omega))
    have hpd : zPm μ4 := hHd.1
    refine z_aload_n hC dX4_record_12 rfl ?_
    refine z_get hC iA_X4 rfl 0 (by decide) qF_X4_11 rfl dX4_record_13 cl_hist (cd_hist (ca := ca) (ad := ad)) rfl ?_
    refine z_aload_n hC dX4_record_16 rfl ?_
    refine z_get hC iA_X4 rfl 1 (by decide) qF_X4_18 rfl dX4_record_17 cl_hist (cd_hist (ca := ca) (ad := ad)) rfl ?_
    refine z_top (b := 3) (by rw [hμ4s]) ?_
    refine z_aald hC dX4_record_20 4 rfl cl_states (fun r i => 26 * r i) (cd_states (ca := ca) (ad := ad)) (by omega) (by omega) (by decide) ?_
    have hbn37 := hpd.1 3 (by omega)
    refine z_aload_n hC dX4_record_21 rfl ?_
    refine z_callV hC [.ref (ad 0)] 1 rfl dX4_record_22 (fun l => m_X2_copyFrom l G ca ad _ μ4 (26 * (μ4 158 3)) 0 (zb_s hpd (by omega)) zb_0 (by omega)) qM_X4_25 qI_X2_copyFrom qS_X2_copyFrom qi_X2 qC_X2_copyFrom (by decide +kernel) (by decide) (by decide) (cl_desk (zb_s hpd (by omega))) (cd_desk (zb_s hpd (by omega))) rfl (Nat.le_of_ble_eq_true rfl) (zk_void (fun μ5 hμ5 => ?_)) rfl
    obtain ⟨hμ5v, hμ5f⟩ := id hμ5
    refine z_aload_n hC dX4_record_25 rfl ?_
    refine z_dup hC dX4_record_26 rfl ?_
    refine z_get hC iA_X4 rfl 1 (by decide) qF_X4_18 rfl dX4_record_27 cl_hist (cd_hist (ca := ca) (ad := ad)) rfl ?_
    refine z_top (b := 3) (by rw [hμ5f 157 (by omega), hμ4s]) ?_
    refine z_iconst hC dX4_record_30 ?_
    refine z_iadd hC dX4_record_31 ?_
    refine z_put hC iA_X4 rfl tyX4 tyX4_ok nmX4 1 (by decide) rfl rfl 1 rfl qF_X4_18 rfl dX4_record_32 cl_hist (cd_hist (ca := ca) (ad := ad)) (fun _ => rfl) (fun _ => Nat.le_of_ble_eq_true rfl) ?_
    refine z_nm (fun μ6 hμ6 => ?_)
    have e0 : vw μ4 0 = vw μ 0 := vw_eq (fun o j hr => by rw [hμ4f _ (by unfold zrel at hr; omega)])
    have K := zHi_put (by omega) hHd hμ5v hμ5f hμ6
    exact z_vret hC dX4_record_35 ⟨rfl, by rw [show sPushN n = 3 + 1 by unfold sPushN; rw [if_pos (by omega)]; rfl]; exact zHi_eq K (fun i hi => by show (if i = 3 then vw μ4 0 else h (i + 1)) = (if n = 4 then (if i = 3 then vw μ 0 else h (i + 1)) else if i = n then vw μ 0 else h i); rw [if_pos (show n = 4 by omega), e0]), fun c9 hc9 => by rw [hμ6, zup_o (by omega), hμ5f c9 (by omega), hμ4f c9 (by omega)]⟩
