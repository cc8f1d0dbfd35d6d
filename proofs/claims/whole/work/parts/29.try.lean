set_option maxHeartbeats 4000000 in
set_option maxRecDepth 100000 in
/-- tell(p, q, r) -/
theorem m_X3_tell (l : Launch) (G : va_G) (ca : Nat → ClassId) (ad : Int → Nat) (A : Nat → Prop) (μ : zM) (p q r : Int) : zMet l (cω G ca ad) A yX3_tell cX3_tell 4 none 0 0 [.ref (ad 162), .int (iZ p), .int (iZ q), .int (iZ r)] μ (zpV (fun μ' => μ' 162 1 = p ∧ μ' 162 2 = q ∧ μ' 162 3 = r ∧ (∀ c, c ≠ 162 → μ' c = μ c))) := by
  refine zMet_of (by decide) (Nat.le_of_ble_eq_true rfl) (fun Γ hC => ?_)
  show Z Γ _ μ 0 [(0, .ref (ad 162)), (1, .int (iZ p)), (2, .int (iZ q)), (3, .int (iZ r))] []
  refine z_aload_n hC dX3_tell_0 rfl ?_
  refine z_iload_n hC dX3_tell_1 rfl ?_
  refine z_put hC iA_X3 rfl tyX3 tyX3_ok nmX3 1 (by decide) rfl rfl 1 rfl qF_X3_7 rfl dX3_tell_2 cl_find (cd_find (ca := ca) (ad := ad)) (fun _ => rfl) (fun _ => Nat.le_of_ble_eq_true rfl) ?_
  refine z_nm (fun μ1 hμ1 => ?_)
  refine z_aload_n hC dX3_tell_5 rfl ?_
  refine z_iload_n hC dX3_tell_6 rfl ?_
  refine z_put hC iA_X3 rfl tyX3 tyX3_ok nmX3 2 (by decide) rfl rfl 2 rfl qF_X3_13 rfl dX3_tell_7 cl_find (cd_find (ca := ca) (ad := ad)) (fun _ => rfl) (fun _ => Nat.le_of_ble_eq_true rfl) ?_
  refine z_nm (fun μ2 hμ2 => ?_)
  refine z_aload_n hC dX3_tell_10 rfl ?_
  refine z_iload_n hC dX3_tell_11 rfl ?_
  refine z_put hC iA_X3 rfl tyX3 tyX3_ok nmX3 3 (by decide) rfl rfl 3 rfl qF_X3_16 rfl dX3_tell_12 cl_find (cd_find (ca := ca) (ad := ad)) (fun _ => rfl) (fun _ => Nat.le_of_ble_eq_true rfl) ?_
  refine z_nm (fun μ3 hμ3 => ?_)
  exact z_vret hC dX3_tell_15 ⟨rfl, by rw [hμ3, zup_n (by omega), hμ2, zup_n (by omega), hμ1, zup_s], by rw [hμ3, zup_n (by omega), hμ2, zup_s], by rw [hμ3, zup_s], fun c hc => by rw [hμ3, zup_o hc, hμ2, zup_o hc, hμ1, zup_o hc]⟩

set_option maxHeartbeats 4000000 in
set_option maxRecDepth 100000 in
/-- obey(c, numbers) -/
theorem m_X7_obey (l : Launch) (G : va_G) (ca : Nat → ClassId) (ad : Int → Nat) (A : Nat → Prop) (μ : zM) (d1 : zM) (c : Int) (hc : -2147483648 ≤ c ∧ c ≤ 2147483647) (h26 : vw μ 26 = d1) (hI : zInv d1) (hf : ∀ j, 0 ≤ j ∧ j < cNum c → 0 ≤ μ 161 j ∧ μ 161 j ≤ 999) : zMet l (cω G ca ad) A yX7_obey cX7_obey 3 (some .int) 5 136 [.ref (ad 156), .int (iZ c), .ref (ad 161)] μ (zpI (.int (iZ (sObey d1 c (μ 161)).1)) (fun μ' => vw μ' 26 = (sObey d1 c (μ 161)).2 ∧ zFd μ 26 μ')) := by
  refine zMet_of (by decide) (Nat.le_of_ble_eq_true rfl) (fun Γ hC => ?_)
  show Z Γ _ μ 0 [(0, .ref (ad 156)), (1, .int (iZ c)), (2, .ref (ad 161))] []
  refine z_iload_n hC dX7_obey_0 rfl ?_
  rcases (show c = 99 ∨ c = 100 ∨ c = 102 ∨ c = 115 ∨ (c ≠ 99 ∧ c ≠ 100 ∧ c ≠ 102 ∧ c ≠ 115) by omega) with w_1 | w_1 | w_1 | w_1 | w_1
  · refine z_lookup hC 67 dX7_obey_1 (by omega) (by decide) (by rw [w_1]; try rfl) (by decide) ?_
    have hcn : cNum c = 6 := by rw [w_1]; rfl
    have hf0 := hf 0 (by omega)
    have hf1 := hf 1 (by omega)
    have hf2 := hf 2 (by omega)
    have hf3 := hf 3 (by omega)
    have hf4 := hf 4 (by omega)
    have hf5 := hf 5 (by omega)
    refine z_aload_n hC dX7_obey_67 rfl ?_
    refine z_get hC iA_X7 rfl 1 (by decide) qF_X7_16 rfl dX7_obey_68 cl_main (cd_main (ca := ca) (ad := ad)) rfl ?_
    refine z_aload_n hC dX7_obey_71 rfl ?_
    refine z_iconst hC dX7_obey_72 ?_
    refine z_iald hC dX7_obey_73 cl_nums (cd_nums (ca := ca) (ad := ad)) (by omega) (by omega) (by decide) ?_
    refine z_aload_n hC dX7_obey_74 rfl ?_
    refine z_iconst hC dX7_obey_75 ?_
    refine z_iald hC dX7_obey_76 cl_nums (cd_nums (ca := ca) (ad := ad)) (by omega) (by omega) (by decide) ?_
    refine z_aload_n hC dX7_obey_77 rfl ?_
    refine z_iconst hC dX7_obey_78 ?_
    refine z_iald hC dX7_obey_79 cl_nums (cd_nums (ca := ca) (ad := ad)) (by omega) (by omega) (by decide) ?_
    refine z_aload_n hC dX7_obey_80 rfl ?_
    refine z_iconst hC dX7_obey_81 ?_
    refine z_iald hC dX7_obey_82 cl_nums (cd_nums (ca := ca) (ad := ad)) (by omega) (by omega) (by decide) ?_
    refine z_aload_n hC dX7_obey_83 rfl ?_
    refine z_iconst hC dX7_obey_84 ?_
    refine z_iald hC dX7_obey_85 cl_nums (cd_nums (ca := ca) (ad := ad)) (by omega) (by omega) (by decide) ?_
    refine z_aload_n hC dX7_obey_86 rfl ?_
    refine z_iconst hC dX7_obey_87 ?_
    refine z_iald hC dX7_obey_88 cl_nums (cd_nums (ca := ca) (ad := ad)) (by omega) (by omega) (by decide) ?_
    refine z_callV hC [.int (iZ (μ 161 0)), .int (iZ (μ 161 1)), .int (iZ (μ 161 2)), .int (iZ (μ 161 3)), .int (iZ (μ 161 4)), .int (iZ (μ 161 5))] 6 rfl dX7_obey_89 (fun l => m_X2_addCargo l G ca ad _ μ 26 zb_26 d1 h26 (μ 161 0) (μ 161 1) (μ 161 2) (μ 161 3) (μ 161 4) (μ 161 5) (by omega) (by omega) (by omega) (by omega) (by omega) (by omega) hI.1.1) qM_X7_56 qI_X2_addCargo qS_X2_addCargo qi_X2 qC_X2_addCargo (by decide +kernel) (by decide) (by decide) (cl_desk zb_26) (cd_desk (ca := ca) (ad := ad) zb_26) rfl (Nat.le_of_ble_eq_true rfl) (zk_int (fun μ2 hμ2 => ?_)) rfl
    exact z_iret hC dX7_obey_92 ⟨by unfold sObey; rw [if_pos (by omega)], by unfold sObey; rw [if_pos (by omega)]; exact hμ2⟩
  · refine z_lookup hC 107 dX7_obey_1 (by omega) (by decide) (by rw [w_1]; try rfl) (by decide) ?_
    have hcn : cNum c = 2 := by rw [w_1]; rfl
    have hf0 := hf 0 (by omega)
    have hf1 := hf 1 (by omega)
    refine z_aload_n hC dX7_obey_107 rfl ?_
    refine z_get hC iA_X7 rfl 1 (by decide) qF_X7_16 rfl dX7_obey_108 cl_main (cd_main (ca := ca) (ad := ad)) rfl ?_
    refine z_aload_n hC dX7_obey_111 rfl ?_
    refine z_iconst hC dX7_obey_112 ?_
    refine z_iald hC dX7_obey_113 cl_nums (cd_nums (ca := ca) (ad := ad)) (by omega) (by omega) (by decide) ?_
    refine z_aload_n hC dX7_obey_114 rfl ?_
    refine z_iconst hC dX7_obey_115 ?_
    refine z_iald hC dX7_obey_116 cl_nums (cd_nums (ca := ca) (ad := ad)) (by omega) (by omega) (by decide) ?_
    refine z_callV hC [.int (iZ (μ 161 0)), .int (iZ (μ 161 1))] 2 rfl dX7_obey_117 (fun l => m_X2_delayShip l G ca ad _ μ 26 zb_26 d1 h26 (μ 161 0) (μ 161 1) (by omega) (by omega) hI.1 (zInv_F hI)) qM_X7_64 qI_X2_delayShip qS_X2_delayShip qi_X2 qC_X2_delayShip (by decide +kernel) (by decide) (by decide) (cl_desk zb_26) (cd_desk (ca := ca) (ad := ad) zb_26) rfl (Nat.le_of_ble_eq_true rfl) (zk_int (fun μ3 hμ3 => ?_)) rfl
    exact z_iret hC dX7_obey_120 ⟨by unfold sObey; rw [if_neg (by omega), if_pos (by omega)], by unfold sObey; rw [if_neg (by omega), if_pos (by omega)]; exact hμ3⟩
  · refine z_lookup hC 93 dX7_obey_1 (by omega) (by decide) (by rw [w_1]; try rfl) (by decide) ?_
    have hcn : cNum c = 2 := by rw [w_1]; rfl
    have hf0 := hf 0 (by omega)
    have hf1 := hf 1 (by omega)
    refine z_aload_n hC dX7_obey_93 rfl ?_
    refine z_get hC iA_X7 rfl 1 (by decide) qF_X7_16 rfl dX7_obey_94 cl_main (cd_main (ca := ca) (ad := ad)) rfl ?_
    refine z_aload_n hC dX7_obey_97 rfl ?_
    refine z_iconst hC dX7_obey_98 ?_
    refine z_iald hC dX7_obey_99 cl_nums (cd_nums (ca := ca) (ad := ad)) (by omega) (by omega) (by decide) ?_
    refine z_aload_n hC dX7_obey_100 rfl ?_
    refine z_iconst hC dX7_obey_101 ?_
    refine z_iald hC dX7_obey_102 cl_nums (cd_nums (ca := ca) (ad := ad)) (by omega) (by omega) (by decide) ?_
    refine z_callV hC [.int (iZ (μ 161 0)), .int (iZ (μ 161 1))] 2 rfl dX7_obey_103 (fun l => m_X2_fixShip l G ca ad _ μ 26 zb_26 d1 h26 (μ 161 0) (μ 161 1) (by omega) (by omega) hI.1 (zInv_G hI) (zInv_full hI)) qM_X7_60 qI_X2_fixShip qS_X2_fixShip qi_X2 qC_X2_fixShip (by decide +kernel) (by decide) (by decide) (cl_desk zb_26) (cd_desk (ca := ca) (ad := ad) zb_26) rfl (Nat.le_of_ble_eq_true rfl) (zk_int (fun μ4 hμ4 => ?_)) rfl
    exact z_iret hC dX7_obey_106 ⟨by unfold sObey; rw [if_neg (by omega), if_neg (by omega), if_pos (by omega)], by unfold sObey; rw [if_neg (by omega), if_neg (by omega), if_pos (by omega)]; exact hμ4⟩
  · refine z_lookup hC 44 dX7_obey_1 (by omega) (by decide) (by rw [w_1]; try rfl) (by decide) ?_
    have hcn : cNum c = 5 := by rw [w_1]; rfl
    have hf0 := hf 0 (by omega)
    have hf1 := hf 1 (by omega)
    have hf2 := hf 2 (by omega)
    have hf3 := hf 3 (by omega)
    have hf4 := hf 4 (by omega)
    refine z_aload_n hC dX7_obey_44 rfl ?_
    refine z_get hC iA_X7 rfl 1 (by decide) qF_X7_16 rfl dX7_obey_45 cl_main (cd_main (ca := ca) (ad := ad)) rfl ?_
    refine z_aload_n hC dX7_obey_48 rfl ?_
    refine z_iconst hC dX7_obey_49 ?_
    refine z_iald hC dX7_obey_50 cl_nums (cd_nums (ca := ca) (ad := ad)) (by omega) (by omega) (by decide) ?_
    refine z_aload_n hC dX7_obey_51 rfl ?_
    refine z_iconst hC dX7_obey_52 ?_
    refine z_iald hC dX7_obey_53 cl_nums (cd_nums (ca := ca) (ad := ad)) (by omega) (by omega) (by decide) ?_
    refine z_aload_n hC dX7_obey_54 rfl ?_
    refine z_iconst hC dX7_obey_55 ?_
    refine z_iald hC dX7_obey_56 cl_nums (cd_nums (ca := ca) (ad := ad)) (by omega) (by omega) (by decide) ?_
    refine z_aload_n hC dX7_obey_57 rfl ?_
    refine z_iconst hC dX7_obey_58 ?_
    refine z_iald hC dX7_obey_59 cl_nums (cd_nums (ca := ca) (ad := ad)) (by omega) (by omega) (by decide) ?_
    refine z_aload_n hC dX7_obey_60 rfl ?_
    refine z_iconst hC dX7_obey_61 ?_
    refine z_iald hC dX7_obey_62 cl_nums (cd_nums (ca := ca) (ad := ad)) (by omega) (by omega) (by decide) ?_
    refine z_callV hC [.int (iZ (μ 161 0)), .int (iZ (μ 161 1)), .int (iZ (μ 161 2)), .int (iZ (μ 161 3)), .int (iZ (μ 161 4))] 5 rfl dX7_obey_63 (fun l => m_X2_addShip l G ca ad _ μ 26 zb_26 d1 h26 (μ 161 0) (μ 161 1) (μ 161 2) (μ 161 3) (μ 161 4) (by omega) (by omega) (by omega) (by omega) (by omega) hI.1.1) qM_X7_52 qI_X2_addShip qS_X2_addShip qi_X2 qC_X2_addShip (by decide +kernel) (by decide) (by decide) (cl_desk zb_26) (cd_desk (ca := ca) (ad := ad) zb_26) rfl (Nat.le_of_ble_eq_true rfl) (zk_int (fun μ5 hμ5 => ?_)) rfl
    exact z_iret hC dX7_obey_66 ⟨by unfold sObey; rw [if_neg (by omega), if_neg (by omega), if_neg (by omega), if_pos (by omega)], by unfold sObey; rw [if_neg (by omega), if_neg (by omega), if_neg (by omega), if_pos (by omega)]; exact hμ5⟩
  · refine z_lookup hC 121 dX7_obey_1 (by omega) (by decide) (by show Op.lookupswitch.offset [(99, 66), (100, 106), (102, 92), (115, 43)] 120 c = 120; rw [Op.lookupswitch.offset_cons, if_neg (by omega), Op.lookupswitch.offset_cons, if_neg (by omega), Op.lookupswitch.offset_cons, if_neg (by omega), Op.lookupswitch.offset_cons, if_neg (by omega)]; rfl) (by decide) ?_
    refine z_ldc hC (-1000001) qc_X7_77 rfl dX7_obey_121 ?_
    exact z_iret hC dX7_obey_123 ⟨by unfold sObey; rw [if_neg (by omega), if_neg (by omega), if_neg (by omega), if_neg (by omega)], by unfold sObey; rw [if_neg (by omega), if_neg (by omega), if_neg (by omega), if_neg (by omega)]; exact ⟨h26, fun _ _ => rfl⟩⟩

set_option maxHeartbeats 4000000 in
set_option maxRecDepth 100000 in
/-- tryOrders() -/
theorem m_X7_tryOrders (l : Launch) (G : va_G) (ca : Nat → ClassId) (ad : Int → Nat) (A : Nat → Prop) (μ : zM) (d : zM) (n : Int) (h : Int → zM) (L : Int) (t : Int → Int) (hX : zSt μ d n h L t) (hI : zInv d) (hOb : zObOK) : zMet l (cω G ca ad) A yX7_tryOrders cX7_tryOrders 3 (some .boolean) 6 158 [.ref (ad 156)] μ (zpI (.int (iZ (zB ((sTry L t L.toNat 0 d 0).1 = 1)))) (fun μ' => zSt μ' d n h L t ∧ zTry (sTry L t L.toNat 0 d 0) μ')) := by
  refine zMet_of (by decide) (Nat.le_of_ble_eq_true rfl) (fun Γ hC => ?_)
  show Z Γ _ μ 0 [(0, .ref (ad 156))] []
  have hLb := hX.2.2.2.1
  refine z_aload_n hC dX7_tryOrders_0 rfl ?_
  refine z_callV hC [] 0 rfl dX7_tryOrders_1 (fun l => m_X7_freshTrial l G ca ad _ μ) qM_X7_40 qI_X7_freshTrial qS_X7_freshTrial qi_X7 qC_X7_freshTrial (by decide +kernel) (by decide) (by decide) cl_main (cd_main (ca := ca) (ad := ad)) rfl (Nat.le_of_ble_eq_true rfl) (zk_int (fun μ1 hμ1 => ?_)) rfl
  obtain ⟨hμ1v, hμ1f⟩ := id hμ1
  have hX1 := zSt_tr hX hμ1f
  have hd1 : vw μ1 26 = d := by rw [hμ1v]; exact hX.1
  refine z_pop hC dX7_tryOrders_4 rfl ?_
  refine z_aload_n hC dX7_tryOrders_5 rfl ?_
  refine z_get hC iA_X7 rfl 4 (by decide) qF_X7_36 rfl dX7_tryOrders_6 cl_main (cd_main (ca := ca) (ad := ad)) rfl ?_
  refine z_iconst hC dX7_tryOrders_9 ?_
  refine z_put hC iA_X3 rfl tyX3 tyX3_ok nmX3 0 (by decide) rfl rfl 0 rfl qF_X7_277 rfl dX7_tryOrders_10 cl_find (cd_find (ca := ca) (ad := ad)) (fun _ => rfl) (fun _ => Nat.le_of_ble_eq_true rfl) ?_
  refine z_nm (fun μ2 hμ2 => ?_)
  refine z_iconst hC dX7_tryOrders_13 ?_
  refine z_istore_n hC dX7_tryOrders_14 (by decide) rfl ?_
  have LOOP : ∀ (r : Nat), ∀ (μ1 : zM) (st : Int) (d1 : zM) (m : Int), L - st ≤ (r : Int) → sTry L t r st d1 m = sTry L t L.toNat 0 d 0 → zInv d1 → vw μ1 26 = d1 → zSt μ1 d n h L t → μ1 162 0 = m → (0 ≤ m ∧ m ≤ st) → st ≤ L → Z Γ (cω G ca ad) μ1 15 [(1, .int (iZ st)), (0, .ref (ad 156))] [] := by
    intro r
    induction r with
    | zero =>
      intro μ1 st d1 m hr9 hQ hI1 h26 hX1 hm hms hst
      refine z_iload_n hC dX7_tryOrders_15 rfl ?_
      refine z_aload_n hC dX7_tryOrders_16 rfl ?_
      refine z_get hC iA_X7 rfl 3 (by decide) qF_X7_29 rfl dX7_tryOrders_17 cl_main (cd_main (ca := ca) (ad := ad)) rfl ?_
      refine z_get hC iA_X5 rfl 1 (by decide) qF_X7_253 rfl dX7_tryOrders_20 cl_script (cd_script (ca := ca) (ad := ad)) rfl ?_
      refine z_top (b := L) (by rw [hX1.2.2.1]) ?_
      refine z_icmp_ge hC 131 dX7_tryOrders_23 (by decide) (by omega) (by omega) (fun c_3 => ?_) (fun c_3 => ?_)
      · refine z_iconst hC dX7_tryOrders_131 ?_
        have hQ1 : sTry L t L.toNat 0 d 0 = (1, d1, m, 0, 0, 0) := by rw [← hQ]; first | rfl | (show (if _ then _ else _) = _; rw [if_neg (by omega)])
        exact z_zret1 hC dX7_tryOrders_132 ⟨by rw [hQ1]; rfl, hX1, by rw [hQ1]; exact ⟨h26, hm⟩⟩
      · exfalso; omega
    | succ r ih =>
      intro μ1 st d1 m hr9 hQ hI1 h26 hX1 hm hms hst
      refine z_iload_n hC dX7_tryOrders_15 rfl ?_
      refine z_aload_n hC dX7_tryOrders_16 rfl ?_
      refine z_get hC iA_X7 rfl 3 (by decide) qF_X7_29 rfl dX7_tryOrders_17 cl_main (cd_main (ca := ca) (ad := ad)) rfl ?_
      refine z_get hC iA_X5 rfl 1 (by decide) qF_X7_253 rfl dX7_tryOrders_20 cl_script (cd_script (ca := ca) (ad := ad)) rfl ?_
      refine z_top (b := L) (by rw [hX1.2.2.1]) ?_
      refine z_icmp_ge hC 131 dX7_tryOrders_23 (by decide) (by omega) (by omega) (fun c_4 => ?_) (fun c_4 => ?_)
      · refine z_iconst hC dX7_tryOrders_131 ?_
        have hQ1 : sTry L t L.toNat 0 d 0 = (1, d1, m, 0, 0, 0) := by rw [← hQ]; first | rfl | (show (if _ then _ else _) = _; rw [if_neg (by omega)])
        exact z_zret1 hC dX7_tryOrders_132 ⟨by rw [hQ1]; rfl, hX1, by rw [hQ1]; exact ⟨h26, hm⟩⟩
      · refine z_aload_n hC dX7_tryOrders_26 rfl ?_
        refine z_get hC iA_X7 rfl 4 (by decide) qF_X7_36 rfl dX7_tryOrders_27 cl_main (cd_main (ca := ca) (ad := ad)) rfl ?_
        refine z_get hC iA_X3 rfl 0 (by decide) qF_X7_277 rfl dX7_tryOrders_30 cl_find (cd_find (ca := ca) (ad := ad)) rfl ?_
        refine z_top (b := m) (by rw [hm]) ?_
        refine z_bipush hC dX7_tryOrders_33 (by decide) ?_
        refine z_icmp_ge hC 131 dX7_tryOrders_35 (by decide) (by omega) (by omega) (fun c_5 => ?_) (fun c_5 => ?_)
        · exfalso; omega
        · refine z_aload_n hC dX7_tryOrders_38 rfl ?_
          refine z_get hC iA_X7 rfl 3 (by decide) qF_X7_29 rfl dX7_tryOrders_39 cl_main (cd_main (ca := ca) (ad := ad)) rfl ?_
          refine z_iload_n hC dX7_tryOrders_42 rfl ?_
          have hob := sOrder_b hX1.2.2 (e := st) (by omega) (μ1 161)
          have hog := sOrder_g (L := L) (t := t) st (μ1 161) (fun _ => 0)
          refine z_callV hC [.int (iZ st)] 1 rfl dX7_tryOrders_43 (fun l => m_X5_read l G ca ad _ μ1 L t hX1.2.2 st (by omega)) qM_X7_290 qI_X5_read qS_X5_read qi_X5 qC_X5_read (by decide +kernel) (by decide) (by decide) cl_script (cd_script (ca := ca) (ad := ad)) rfl (Nat.le_of_ble_eq_true rfl) (zk_int (fun μ6 hμ6 => ?_)) rfl
          obtain ⟨hμ64, hμ62, hμ6n, hμ6f⟩ := id hμ6
          have hX2 : zSt μ6 d n h L t := zSt_fr hX1 (vw_eq (fun o i hr => hμ6f _ _ (by unfold zrel at hr; omega) (by unfold zrel at hr; omega))) (fun c hc => by funext i; exact hμ6f c i (by omega) (by omega)) (hμ6f 159 1 (by omega) (by omega)) (by funext i; exact hμ6f 160 i (by omega) (by omega))
          have h262 : vw μ6 26 = d1 := (vw_eq (fun o i hr => hμ6f _ _ (by unfold zrel at hr; omega) (by unfold zrel at hr; omega))).trans h26
          have hm2 : μ6 162 0 = m := (hμ6f 162 0 (by omega) (by omega)).trans hm
          have hcc := cAt_b hX1.2.2 st
          refine z_ifb_ne hC 69 dX7_tryOrders_46 (by decide) (fun c_7 => ?_) (fun c_7 => ?_)
          · refine z_aload_n hC dX7_tryOrders_69 rfl ?_
            refine z_aload_n hC dX7_tryOrders_70 rfl ?_
            refine z_get hC iA_X7 rfl 3 (by decide) qF_X7_29 rfl dX7_tryOrders_71 cl_main (cd_main (ca := ca) (ad := ad)) rfl ?_
            refine z_get hC iA_X5 rfl 2 (by decide) qF_X7_300 rfl dX7_tryOrders_74 cl_script (cd_script (ca := ca) (ad := ad)) rfl ?_
            refine z_top (b := cAt L t st) (by rw [hμ62]) ?_
            refine z_aload_n hC dX7_tryOrders_77 rfl ?_
            refine z_get hC iA_X7 rfl 3 (by decide) qF_X7_29 rfl dX7_tryOrders_78 cl_main (cd_main (ca := ca) (ad := ad)) rfl ?_
            refine z_get hC iA_X5 rfl 3 (by decide) qF_X7_304 rfl dX7_tryOrders_81 cl_script (cd_script (ca := ca) (ad := ad)) rfl ?_
            have hob2 := hob.2.2 (by omega)
            have hrg : ∀ j, 0 ≤ j ∧ j < cNum (cAt L t st) → 0 ≤ μ6 161 j ∧ μ6 161 j ≤ 999 := by rw [hμ6n]; exact hob2.2
            have hok := hOb d1 (cAt L t st) (μ6 161) hI1 hrg
            have hsame : sObey d1 (cAt L t st) (μ6 161) = sObey d1 (cAt L t st) (sOrder L t st (fun _ => 0)).2.2 := sObey_g (fun j hj => by rw [hμ6n]; exact hog.2.2 (by omega) j hj)
            refine z_callV hC [.int (iZ (cAt L t st)), .ref (ad 161)] 2 rfl dX7_tryOrders_84 (fun l => m_X7_obey l G ca ad _ μ6 d1 (cAt L t st) (by omega) h262 hI1 hrg) qM_X7_307 qI_X7_obey qS_X7_obey qi_X7 qC_X7_obey (by decide +kernel) (by decide) (by decide) cl_main (cd_main (ca := ca) (ad := ad)) rfl (Nat.le_of_ble_eq_true rfl) (zk_int (fun μ8 hμ8 => ?_)) rfl
            obtain ⟨hμ8v, hμ8f⟩ := id hμ8
            have hX3 := zSt_tr hX2 hμ8f
            refine z_topn (fun rr hrr => ?_)
            have hrb : -2147483648 ≤ rr ∧ rr ≤ 2147483647 := by rw [hrr]; exact hok.1
            refine z_istore_n hC dX7_tryOrders_87 (by decide) rfl ?_
            refine z_iload_n hC dX7_tryOrders_88 rfl ?_
            refine z_callS hC [.int (iZ rr)] 1 rfl dX7_tryOrders_89 (fun l => m_X7_isError l _ _ _ rr (by omega)) qM_X7_284 qT_X7_isError qi_X7 qC_X7_isError (by decide +kernel) (by decide) (by decide) (Nat.le_of_ble_eq_true rfl) (zk_pure ?_) rfl
            refine z_ifb_eq hC 107 dX7_tryOrders_92 (by decide) (fun c_9 => ?_) (fun c_9 => ?_)
            · refine z_aload_n hC dX7_tryOrders_107 rfl ?_
              refine z_get hC iA_X7 rfl 4 (by decide) qF_X7_36 rfl dX7_tryOrders_108 cl_main (cd_main (ca := ca) (ad := ad)) rfl ?_
              refine z_dup hC dX7_tryOrders_111 rfl ?_
              refine z_get hC iA_X3 rfl 0 (by decide) qF_X7_277 rfl dX7_tryOrders_112 cl_find (cd_find (ca := ca) (ad := ad)) rfl ?_
              refine z_top (b := m) (by rw [hμ8f 162 (by omega), hm2]) ?_
              refine z_iconst hC dX7_tryOrders_115 ?_
              refine z_iadd hC dX7_tryOrders_116 ?_
              refine z_put hC iA_X3 rfl tyX3 tyX3_ok nmX3 0 (by decide) rfl rfl 0 rfl qF_X7_277 rfl dX7_tryOrders_117 cl_find (cd_find (ca := ca) (ad := ad)) (fun _ => rfl) (fun _ => Nat.le_of_ble_eq_true rfl) ?_
              refine z_nm (fun μ10 hμ10 => ?_)
              refine z_aload_n hC dX7_tryOrders_120 rfl ?_
              refine z_get hC iA_X7 rfl 3 (by decide) qF_X7_29 rfl dX7_tryOrders_121 cl_main (cd_main (ca := ca) (ad := ad)) rfl ?_
              refine z_get hC iA_X5 rfl 4 (by decide) qF_X7_293 rfl dX7_tryOrders_124 cl_script (cd_script (ca := ca) (ad := ad)) rfl ?_
              refine z_top (b := (sOrder L t st (μ1 161)).2.1) (by rw [hμ10, zup_n (by omega), hμ8f 159 (by omega), hμ64]) ?_
              refine z_istore_n hC dX7_tryOrders_127 (by decide) rfl ?_
              refine z_goto hC 15 dX7_tryOrders_128 (by decide) ?_
              refine z_weak (L' := [(1, .int (iZ (sOrder L t st (μ1 161)).2.1)), (0, .ref (ad 156))]) ⟨rfl, rfl, trivial⟩ ?_
              have hX4 : zSt μ10 d n h L t := zSt_fr hX3 (vw_eq (fun o i hr => by rw [hμ10, zup_n (by unfold zrel at hr; omega)])) (fun c hc => by rw [hμ10, zup_o (by omega)]) (by rw [hμ10, zup_n (by omega)]) (by rw [hμ10, zup_o (by omega)])
              refine ih _ _ (sObey d1 (cAt L t st) (μ6 161)).2 (m + 1) (by omega) ?_ hok.2 ?_ hX4 (by rw [hμ10, zup_s]) (by omega) (by omega)
              · rw [← hQ, hsame, hog.2.1]; show _ = (if _ then _ else _); rw [if_pos (by omega), if_pos (by omega), if_neg (by rw [← hsame, ← hrr]; omega)]
              · rw [← hμ8v, hμ10]; exact vw_eq (fun o i hr => zup_n (by unfold zrel at hr; omega))
            · refine z_aload_n hC dX7_tryOrders_95 rfl ?_
              refine z_get hC iA_X7 rfl 4 (by decide) qF_X7_36 rfl dX7_tryOrders_96 cl_main (cd_main (ca := ca) (ad := ad)) rfl ?_
              refine z_iload_n hC dX7_tryOrders_99 rfl ?_
              refine z_iconst hC dX7_tryOrders_100 ?_
              refine z_iload_n hC dX7_tryOrders_101 rfl ?_
              refine z_callV hC [.int (iZ st), .int (iZ 2), .int (iZ rr)] 3 rfl dX7_tryOrders_102 (fun l => m_X3_tell l G ca ad _ μ8 st 2 rr) qM_X7_296 qI_X3_tell qS_X3_tell qi_X3 qC_X3_tell (by decide +kernel) (by decide) (by decide) cl_find (cd_find (ca := ca) (ad := ad)) rfl (Nat.le_of_ble_eq_true rfl) (zk_void (fun μ11 hμ11 => ?_)) rfl
              obtain ⟨hμ111, hμ112, hμ113, hμ11f⟩ := id hμ11
              refine z_iconst hC dX7_tryOrders_105 ?_
              have hX6 : zSt μ11 d n h L t := zSt_fr hX3 (vw_eq (fun o i hr => by rw [hμ11f _ (by unfold zrel at hr; omega)])) (fun c hc => hμ11f c (by omega)) (by rw [hμ11f 159 (by omega)]) (hμ11f 160 (by omega))
              have hQ1 : sTry L t L.toNat 0 d 0 = (0, d1, m, st, 2, rr) := by rw [← hQ, hrr, hsame]; show (if _ then _ else _) = _; rw [if_pos (by omega), if_pos (by omega), if_pos (by rw [← hsame, ← hrr]; omega)]
              exact z_zret0 hC dX7_tryOrders_106 ⟨by rw [hQ1]; rfl, hX6, by rw [hQ1]; exact ⟨hμ111, hμ112, hμ113⟩⟩
          · refine z_aload_n hC dX7_tryOrders_49 rfl ?_
            refine z_get hC iA_X7 rfl 4 (by decide) qF_X7_36 rfl dX7_tryOrders_50 cl_main (cd_main (ca := ca) (ad := ad)) rfl ?_
            refine z_iload_n hC dX7_tryOrders_53 rfl ?_
            refine z_iconst hC dX7_tryOrders_54 ?_
            refine z_aload_n hC dX7_tryOrders_55 rfl ?_
            refine z_get hC iA_X7 rfl 3 (by decide) qF_X7_29 rfl dX7_tryOrders_56 cl_main (cd_main (ca := ca) (ad := ad)) rfl ?_
            refine z_get hC iA_X5 rfl 4 (by decide) qF_X7_293 rfl dX7_tryOrders_59 cl_script (cd_script (ca := ca) (ad := ad)) rfl ?_
            refine z_top (b := (sOrder L t st (μ1 161)).2.1) (by rw [hμ64]) ?_
            refine z_iload_n hC dX7_tryOrders_62 rfl ?_
            refine z_isub hC dX7_tryOrders_63 ?_
            refine z_callV hC [.int (iZ st), .int (iZ 1), .int (iZ (((sOrder L t st (μ1 161)).2.1) - st))] 3 rfl dX7_tryOrders_64 (fun l => m_X3_tell l G ca ad _ μ6 st 1 (((sOrder L t st (μ1 161)).2.1) - st)) qM_X7_296 qI_X3_tell qS_X3_tell qi_X3 qC_X3_tell (by decide +kernel) (by decide) (by decide) cl_find (cd_find (ca := ca) (ad := ad)) rfl (Nat.le_of_ble_eq_true rfl) (zk_void (fun μ12 hμ12 => ?_)) rfl
            obtain ⟨hμ121, hμ122, hμ123, hμ12f⟩ := id hμ12
            refine z_iconst hC dX7_tryOrders_67 ?_
            have hX6 : zSt μ12 d n h L t := zSt_fr hX2 (vw_eq (fun o i hr => by rw [hμ12f _ (by unfold zrel at hr; omega)])) (fun c hc => hμ12f c (by omega)) (by rw [hμ12f 159 (by omega)]) (hμ12f 160 (by omega))
            have hQ1 : sTry L t L.toNat 0 d 0 = (0, d1, m, st, 1, (sOrder L t st (μ1 161)).2.1 - st) := by rw [← hQ, hog.2.1]; show (if _ then _ else _) = _; rw [if_pos (by omega), if_neg (by omega)]
            exact z_zret0 hC dX7_tryOrders_68 ⟨by rw [hQ1]; rfl, hX6, by rw [hQ1]; exact ⟨hμ121, hμ122, hμ123⟩⟩
  refine z_weak (L' := [(1, .int (iZ 0)), (0, .ref (ad 156))]) ⟨rfl, rfl, trivial⟩ ?_
  have hX5 : zSt μ2 d n h L t := zSt_fr hX1 (vw_eq (fun o i hr => by rw [hμ2, zup_n (by unfold zrel at hr; omega)])) (fun c hc => by rw [hμ2, zup_o (by omega)]) (by rw [hμ2, zup_n (by omega)]) (by rw [hμ2, zup_o (by omega)])
  exact LOOP L.toNat _ 0 d 0 (by omega) rfl hI (by rw [← hd1, hμ2]; exact vw_eq (fun o i hr => zup_n (by unfold zrel at hr; omega))) hX5 (by rw [hμ2, zup_s]) (by omega) (by omega)
