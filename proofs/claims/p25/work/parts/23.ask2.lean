set_option maxHeartbeats 4000000 in
set_option maxRecDepth 100000 in
/-- shipOf -/
theorem m_X7_shipOf (l : Launch) (G : va_G) (ca : Nat → ClassId) (ad : Int → Nat) (A : Nat → Prop) (μ : zM) (d : zM) (n : Int) (h : Int → zM) (L : Int) (t : Int → Int) (hX : zSt μ d n h L t) (hI : zInv d) (k w : Int) (hk : -2147483648 ≤ k ∧ k ≤ 2147483647) (hw : -2147483648 ≤ w ∧ w ≤ 2147483647) : zMet l (cω G ca ad) A yX7_shipOf cX7_shipOf 4 (some .int) 4 111 [.ref (ad 156), .int (iZ k), .int (iZ w)] μ (zpI (.int (iZ (qShip d k w))) (fun μ' => zSt μ' d n h L t)) := by
  refine zMet_of (by decide) (Nat.le_of_ble_eq_true rfl) (fun Γ hC => ?_)
  show Z Γ _ μ 0 [(0, .ref (ad 156)), (1, .int (iZ k)), (2, .int (iZ w))] []
  obtain ⟨hB, _⟩ := id hI
  obtain ⟨hN, hP, hB3, hB4⟩ := id hB
  obtain ⟨hN1, hN2⟩ := id hN
  have hG := zInv_G hI
  refine z_aload_n hC dX7_shipOf_0 rfl ?_
  refine z_get hC iA_X7 rfl 0 (by decide) qF_X7_10 rfl dX7_shipOf_1 cl_main (cd_main (ca := ca) (ad := ad)) rfl ?_
  refine z_iload_n hC dX7_shipOf_4 rfl ?_
  have hN1 : μ 0 4 = d 0 4 := by rw [← hX.1, vw_S]
  refine z_callV hC [.int (iZ k)] 1 rfl dX7_shipOf_5 (fun l => m_X2_isShip l G ca ad _ μ 0 zb_0 k (by omega) (by omega)) qM_X7_73 qI_X2_isShip qS_X2_isShip qi_X2 qC_X2_isShip (by decide +kernel) (by decide) (by decide) (cl_desk zb_0) (cd_desk (ca := ca) (ad := ad) zb_0) rfl (Nat.le_of_ble_eq_true rfl) (zk_pure ?_) rfl
  rw [hN1]
  refine z_ifb_ne hC 14 dX7_shipOf_8 (by decide) (fun c_2 => ?_) (fun c_2 => ?_)
  · obtain ⟨hs0, hs1, hs2, hs3, hs4, hs6⟩ := hB3 k (by omega)
    refine z_aload_n hC dX7_shipOf_14 rfl ?_
    refine z_get hC iA_X7 rfl 0 (by decide) qF_X7_10 rfl dX7_shipOf_15 cl_main (cd_main (ca := ca) (ad := ad)) rfl ?_
    refine z_get hC iA_X2 rfl 2 (by decide) qF_X7_78 rfl dX7_shipOf_18 (cl_desk zb_0) (cd_desk (ca := ca) (ad := ad) zb_0) rfl ?_
    refine z_iload_n hC dX7_shipOf_21 rfl ?_
    refine z_aald hC dX7_shipOf_22 2 rfl (cl_ships zb_0) (fun _ i => 0 + 6 + i) (cd_ships (ca := ca) (ad := ad) zb_0) (by omega) (by omega) (by decide) ?_
    refine z_astore_n hC dX7_shipOf_23 (by decide) rfl ?_
    refine z_iload_n hC dX7_shipOf_24 rfl ?_
    rcases (show w = 0 ∨ w = 1 ∨ w = 2 ∨ w = 3 ∨ w = 4 ∨ w = 5 ∨ w = 6 ∨ w = 7 ∨ w = 8 ∨ w = 9 ∨ (w < 0 ∨ 9 < w) by omega) with w_3 | w_3 | w_3 | w_3 | w_3 | w_3 | w_3 | w_3 | w_3 | w_3 | w_3
    · refine z_tableIn hC 80 dX7_shipOf_25 (by omega) (by omega) (by omega) (by rw [w_3]; rfl) (by decide) ?_
      refine z_aload_n hC dX7_shipOf_80 rfl ?_
      refine z_get hC iA_X6 rfl 0 (by decide) qF_X7_82 rfl dX7_shipOf_81 (cl_ship zb_0 (by omega)) (cd_ship zb_0 (by omega)) rfl ?_
      refine z_top (b := d (6 + k) 0) ((vw_ship (by omega) (by omega)).symm.trans (congrFun (congrFun hX.1 _) _)) ?_
      exact z_iret hC dX7_shipOf_84 ⟨by unfold qShip; rw [if_neg (by omega), if_pos (by omega)], hX⟩
    · refine z_tableIn hC 85 dX7_shipOf_25 (by omega) (by omega) (by omega) (by rw [w_3]; rfl) (by decide) ?_
      refine z_aload_n hC dX7_shipOf_85 rfl ?_
      refine z_get hC iA_X6 rfl 1 (by decide) qF_X7_88 rfl dX7_shipOf_86 (cl_ship zb_0 (by omega)) (cd_ship zb_0 (by omega)) rfl ?_
      refine z_top (b := d (6 + k) 1) ((vw_ship (by omega) (by omega)).symm.trans (congrFun (congrFun hX.1 _) _)) ?_
      exact z_iret hC dX7_shipOf_89 ⟨by unfold qShip; rw [if_neg (by omega), if_neg (by omega), if_pos (by omega)], hX⟩
    · refine z_tableIn hC 90 dX7_shipOf_25 (by omega) (by omega) (by omega) (by rw [w_3]; rfl) (by decide) ?_
      refine z_aload_n hC dX7_shipOf_90 rfl ?_
      refine z_get hC iA_X6 rfl 2 (by decide) qF_X7_91 rfl dX7_shipOf_91 (cl_ship zb_0 (by omega)) (cd_ship zb_0 (by omega)) rfl ?_
      refine z_top (b := d (6 + k) 2) ((vw_ship (by omega) (by omega)).symm.trans (congrFun (congrFun hX.1 _) _)) ?_
      exact z_iret hC dX7_shipOf_94 ⟨by unfold qShip; rw [if_neg (by omega), if_neg (by omega), if_neg (by omega), if_pos (by omega)], hX⟩
    · refine z_tableIn hC 95 dX7_shipOf_25 (by omega) (by omega) (by omega) (by rw [w_3]; rfl) (by decide) ?_
      refine z_aload_n hC dX7_shipOf_95 rfl ?_
      refine z_get hC iA_X7 rfl 0 (by decide) qF_X7_10 rfl dX7_shipOf_96 cl_main (cd_main (ca := ca) (ad := ad)) rfl ?_
      refine z_iload_n hC dX7_shipOf_99 rfl ?_
      refine z_callV hC [.int (iZ k)] 1 rfl dX7_shipOf_100 (fun l => m_X2_followAll l G ca ad _ μ 0 zb_0 d hX.1 k hB (by omega) (hG _ (by omega))) qM_X7_94 qI_X2_followAll qS_X2_followAll qi_X2 qC_X2_followAll (by decide +kernel) (by decide) (by decide) (cl_desk zb_0) (cd_desk (ca := ca) (ad := ad) zb_0) rfl (Nat.le_of_ble_eq_true rfl) (zk_int (fun μ4 hμ4 => ?_)) rfl
      obtain ⟨hμ4f, hμ40, hμ41, hμ46, hμ4m⟩ := id hμ4
      have hμ40 : μ4 (0 + 5) 0 = (sEnd d k).1 := hμ40
      have hμ41 : μ4 (0 + 5) 1 = (sEnd d k).2.1 := hμ41
      have hμ46 : μ4 (0 + 5) 6 = (sEnd d k).2.2 := hμ46
      have hd5 : vw μ4 0 = d := by rw [vw_fr5 hμ4f]; exact hX.1
      refine z_get hC iA_X1 rfl 0 (by decide) qF_X7_98 rfl dX7_shipOf_103 (cl_course zb_0) (cd_course (ca := ca) (ad := ad) zb_0) rfl ?_
      refine z_top (b := (sEnd d k).1) (by rw [hμ40]) ?_
      exact z_iret hC dX7_shipOf_106 ⟨by unfold qShip; rw [if_neg (by omega), if_neg (by omega), if_neg (by omega), if_neg (by omega), if_pos (by omega)], zSt_5 hX hμ4f⟩
    · refine z_tableIn hC 107 dX7_shipOf_25 (by omega) (by omega) (by omega) (by rw [w_3]; rfl) (by decide) ?_
      refine z_aload_n hC dX7_shipOf_107 rfl ?_
      refine z_get hC iA_X7 rfl 0 (by decide) qF_X7_10 rfl dX7_shipOf_108 cl_main (cd_main (ca := ca) (ad := ad)) rfl ?_
      refine z_iload_n hC dX7_shipOf_111 rfl ?_
      refine z_callV hC [.int (iZ k)] 1 rfl dX7_shipOf_112 (fun l => m_X2_followAll l G ca ad _ μ 0 zb_0 d hX.1 k hB (by omega) (hG _ (by omega))) qM_X7_94 qI_X2_followAll qS_X2_followAll qi_X2 qC_X2_followAll (by decide +kernel) (by decide) (by decide) (cl_desk zb_0) (cd_desk (ca := ca) (ad := ad) zb_0) rfl (Nat.le_of_ble_eq_true rfl) (zk_int (fun μ6 hμ6 => ?_)) rfl
      obtain ⟨hμ6f, hμ60, hμ61, hμ66, hμ6m⟩ := id hμ6
      have hμ60 : μ6 (0 + 5) 0 = (sEnd d k).1 := hμ60
      have hμ61 : μ6 (0 + 5) 1 = (sEnd d k).2.1 := hμ61
      have hμ66 : μ6 (0 + 5) 6 = (sEnd d k).2.2 := hμ66
      have hd7 : vw μ6 0 = d := by rw [vw_fr5 hμ6f]; exact hX.1
      refine z_get hC iA_X1 rfl 1 (by decide) qF_X7_103 rfl dX7_shipOf_115 (cl_course zb_0) (cd_course (ca := ca) (ad := ad) zb_0) rfl ?_
      refine z_top (b := (sEnd d k).2.1) (by rw [hμ61]) ?_
      exact z_iret hC dX7_shipOf_118 ⟨by unfold qShip; rw [if_neg (by omega), if_neg (by omega), if_neg (by omega), if_neg (by omega), if_neg (by omega), if_pos (by omega)], zSt_5 hX hμ6f⟩
    · refine z_tableIn hC 119 dX7_shipOf_25 (by omega) (by omega) (by omega) (by rw [w_3]; rfl) (by decide) ?_
      refine z_aload_n hC dX7_shipOf_119 rfl ?_
      refine z_get hC iA_X6 rfl 3 (by decide) qF_X7_106 rfl dX7_shipOf_120 (cl_ship zb_0 (by omega)) (cd_ship zb_0 (by omega)) rfl ?_
      refine z_top (b := d (6 + k) 3) ((vw_ship (by omega) (by omega)).symm.trans (congrFun (congrFun hX.1 _) _)) ?_
      exact z_iret hC dX7_shipOf_123 ⟨by unfold qShip; rw [if_neg (by omega), if_neg (by omega), if_neg (by omega), if_neg (by omega), if_neg (by omega), if_neg (by omega), if_pos (by omega)], hX⟩
    · refine z_tableIn hC 124 dX7_shipOf_25 (by omega) (by omega) (by omega) (by rw [w_3]; rfl) (by decide) ?_
      refine z_aload_n hC dX7_shipOf_124 rfl ?_
      refine z_get hC iA_X6 rfl 4 (by decide) qF_X7_109 rfl dX7_shipOf_125 (cl_ship zb_0 (by omega)) (cd_ship zb_0 (by omega)) rfl ?_
      refine z_top (b := d (6 + k) 4) ((vw_ship (by omega) (by omega)).symm.trans (congrFun (congrFun hX.1 _) _)) ?_
      exact z_iret hC dX7_shipOf_128 ⟨by unfold qShip; rw [if_neg (by omega), if_neg (by omega), if_neg (by omega), if_neg (by omega), if_neg (by omega), if_neg (by omega), if_neg (by omega), if_pos (by omega)], hX⟩
    · refine z_tableIn hC 129 dX7_shipOf_25 (by omega) (by omega) (by omega) (by rw [w_3]; rfl) (by decide) ?_
      refine z_aload_n hC dX7_shipOf_129 rfl ?_
      refine z_get hC iA_X6 rfl 6 (by decide) qF_X7_112 rfl dX7_shipOf_130 (cl_ship zb_0 (by omega)) (cd_ship zb_0 (by omega)) rfl ?_
      refine z_top (b := d (6 + k) 6) ((vw_ship (by omega) (by omega)).symm.trans (congrFun (congrFun hX.1 _) _)) ?_
      exact z_iret hC dX7_shipOf_133 ⟨by unfold qShip; rw [if_neg (by omega), if_neg (by omega), if_neg (by omega), if_neg (by omega), if_neg (by omega), if_neg (by omega), if_neg (by omega), if_neg (by omega), if_pos (by omega)], hX⟩
    · refine z_tableIn hC 134 dX7_shipOf_25 (by omega) (by omega) (by omega) (by rw [w_3]; rfl) (by decide) ?_
      refine z_aload_n hC dX7_shipOf_134 rfl ?_
      refine z_get hC iA_X6 rfl 5 (by decide) qF_X7_115 rfl dX7_shipOf_135 (cl_ship zb_0 (by omega)) (cd_ship zb_0 (by omega)) rfl ?_
      refine z_top (b := d (6 + k) 5) ((vw_ship (by omega) (by omega)).symm.trans (congrFun (congrFun hX.1 _) _)) ?_
      refine z_ldc hC (1000000) qc_X7_118 rfl dX7_shipOf_138 ?_
      refine z_iadd hC dX7_shipOf_140 ?_
      exact z_iret hC dX7_shipOf_141 ⟨by unfold qShip; rw [if_neg (by omega), if_neg (by omega), if_neg (by omega), if_neg (by omega), if_neg (by omega), if_neg (by omega), if_neg (by omega), if_neg (by omega), if_neg (by omega), if_pos (by omega)], hX⟩
    · refine z_tableIn hC 142 dX7_shipOf_25 (by omega) (by omega) (by omega) (by rw [w_3]; rfl) (by decide) ?_
      refine z_aload_n hC dX7_shipOf_142 rfl ?_
      refine z_get hC iA_X7 rfl 0 (by decide) qF_X7_10 rfl dX7_shipOf_143 cl_main (cd_main (ca := ca) (ad := ad)) rfl ?_
      refine z_iload_n hC dX7_shipOf_146 rfl ?_
      refine z_callV hC [.int (iZ k)] 1 rfl dX7_shipOf_147 (fun l => m_X2_followAll l G ca ad _ μ 0 zb_0 d hX.1 k hB (by omega) (hG _ (by omega))) qM_X7_94 qI_X2_followAll qS_X2_followAll qi_X2 qC_X2_followAll (by decide +kernel) (by decide) (by decide) (cl_desk zb_0) (cd_desk (ca := ca) (ad := ad) zb_0) rfl (Nat.le_of_ble_eq_true rfl) (zk_int (fun μ8 hμ8 => ?_)) rfl
      obtain ⟨hμ8f, hμ80, hμ81, hμ86, hμ8m⟩ := id hμ8
      have hμ80 : μ8 (0 + 5) 0 = (sEnd d k).1 := hμ80
      have hμ81 : μ8 (0 + 5) 1 = (sEnd d k).2.1 := hμ81
      have hμ86 : μ8 (0 + 5) 6 = (sEnd d k).2.2 := hμ86
      have hd9 : vw μ8 0 = d := by rw [vw_fr5 hμ8f]; exact hX.1
      refine z_get hC iA_X1 rfl 6 (by decide) qF_X7_119 rfl dX7_shipOf_150 (cl_course zb_0) (cd_course (ca := ca) (ad := ad) zb_0) rfl ?_
      refine z_top (b := (sEnd d k).2.2) (by rw [hμ86]) ?_
      refine z_ldc hC (1000000) qc_X7_118 rfl dX7_shipOf_153 ?_
      refine z_iadd hC dX7_shipOf_155 ?_
      exact z_iret hC dX7_shipOf_156 ⟨by unfold qShip; rw [if_neg (by omega), if_neg (by omega), if_neg (by omega), if_neg (by omega), if_neg (by omega), if_neg (by omega), if_neg (by omega), if_neg (by omega), if_neg (by omega), if_neg (by omega), if_pos (by omega)], zSt_5 hX hμ8f⟩
    · refine z_tableOut hC 157 dX7_shipOf_25 (by omega) (by omega) (by decide) ?_
      refine z_ldc hC (-1000001) qc_X7_77 rfl dX7_shipOf_157 ?_
      exact z_iret hC dX7_shipOf_159 ⟨by unfold qShip; rw [if_neg (by omega), if_neg (by omega), if_neg (by omega), if_neg (by omega), if_neg (by omega), if_neg (by omega), if_neg (by omega), if_neg (by omega), if_neg (by omega), if_neg (by omega), if_neg (by omega)], hX⟩
  · refine z_ldc hC (-1000001) qc_X7_77 rfl dX7_shipOf_11 ?_
    exact z_iret hC dX7_shipOf_13 ⟨by unfold qShip; rw [if_pos (by omega)], hX⟩

set_option maxHeartbeats 4000000 in
set_option maxRecDepth 100000 in
/-- cargoOf -/
theorem m_X7_cargoOf (l : Launch) (G : va_G) (ca : Nat → ClassId) (ad : Int → Nat) (A : Nat → Prop) (μ : zM) (d : zM) (n : Int) (h : Int → zM) (L : Int) (t : Int → Int) (hX : zSt μ d n h L t) (hI : zInv d) (c w : Int) (hc : -2147483648 ≤ c ∧ c ≤ 2147483647) (hw : -2147483648 ≤ w ∧ w ≤ 2147483647) : zMet l (cω G ca ad) A yX7_cargoOf cX7_cargoOf 4 (some .int) 1 21 [.ref (ad 156), .int (iZ c), .int (iZ w)] μ (zpI (.int (iZ (qCargo d c w))) (fun μ' => zSt μ' d n h L t)) := by
  refine zMet_of (by decide) (Nat.le_of_ble_eq_true rfl) (fun Γ hC => ?_)
  show Z Γ _ μ 0 [(0, .ref (ad 156)), (1, .int (iZ c)), (2, .int (iZ w))] []
  obtain ⟨hB, _⟩ := id hI
  obtain ⟨hN, hP, hB3, hB4⟩ := id hB
  obtain ⟨hN1, hN2⟩ := id hN
  have hG := zInv_G hI
  refine z_aload_n hC dX7_cargoOf_0 rfl ?_
  refine z_get hC iA_X7 rfl 0 (by decide) qF_X7_10 rfl dX7_cargoOf_1 cl_main (cd_main (ca := ca) (ad := ad)) rfl ?_
  refine z_iload_n hC dX7_cargoOf_4 rfl ?_
  have hN1 : μ 0 5 = d 0 5 := by rw [← hX.1, vw_Cn]
  refine z_callV hC [.int (iZ c)] 1 rfl dX7_cargoOf_5 (fun l => m_X2_isCargo l G ca ad _ μ 0 zb_0 c (by omega) (by omega)) qM_X7_122 qI_X2_isCargo qS_X2_isCargo qi_X2 qC_X2_isCargo (by decide +kernel) (by decide) (by decide) (cl_desk zb_0) (cd_desk (ca := ca) (ad := ad) zb_0) rfl (Nat.le_of_ble_eq_true rfl) (zk_pure ?_) rfl
  rw [hN1]
  refine z_ifb_ne hC 14 dX7_cargoOf_8 (by decide) (fun c_2 => ?_) (fun c_2 => ?_)
  · obtain ⟨hc0, hc1, hc2, hc3, hc4, hc5, hc6⟩ := hB4 c (by omega)
    refine z_aload_n hC dX7_cargoOf_14 rfl ?_
    refine z_get hC iA_X7 rfl 0 (by decide) qF_X7_10 rfl dX7_cargoOf_15 cl_main (cd_main (ca := ca) (ad := ad)) rfl ?_
    refine z_get hC iA_X2 rfl 3 (by decide) qF_X7_125 rfl dX7_cargoOf_18 (cl_desk zb_0) (cd_desk (ca := ca) (ad := ad) zb_0) rfl ?_
    refine z_iload_n hC dX7_cargoOf_21 rfl ?_
    refine z_aald hC dX7_cargoOf_22 3 rfl (cl_cargoes zb_0) (fun _ i => 0 + 16 + i) (cd_cargoes (ca := ca) (ad := ad) zb_0) (by omega) (by omega) (by decide) ?_
    refine z_astore_n hC dX7_cargoOf_23 (by decide) rfl ?_
    refine z_iload_n hC dX7_cargoOf_24 rfl ?_
    rcases (show w = 0 ∨ w = 1 ∨ w = 2 ∨ w = 3 ∨ w = 4 ∨ w = 5 ∨ w = 6 ∨ w = 7 ∨ (w < 0 ∨ 7 < w) by omega) with w_3 | w_3 | w_3 | w_3 | w_3 | w_3 | w_3 | w_3 | w_3
    · refine z_tableIn hC 72 dX7_cargoOf_25 (by omega) (by omega) (by omega) (by rw [w_3]; rfl) (by decide) ?_
      refine z_aload_n hC dX7_cargoOf_72 rfl ?_
      refine z_get hC iA_X0 rfl 0 (by decide) qF_X7_129 rfl dX7_cargoOf_73 (cl_cargo zb_0 (by omega)) (cd_cargo zb_0 (by omega)) rfl ?_
      refine z_top (b := d (16 + c) 0) ((vw_cargo (by omega) (by omega)).symm.trans (congrFun (congrFun hX.1 _) _)) ?_
      exact z_iret hC dX7_cargoOf_76 ⟨by unfold qCargo; rw [if_neg (by omega), if_pos (by omega)], hX⟩
    · refine z_tableIn hC 77 dX7_cargoOf_25 (by omega) (by omega) (by omega) (by rw [w_3]; rfl) (by decide) ?_
      refine z_aload_n hC dX7_cargoOf_77 rfl ?_
      refine z_get hC iA_X0 rfl 1 (by decide) qF_X7_134 rfl dX7_cargoOf_78 (cl_cargo zb_0 (by omega)) (cd_cargo zb_0 (by omega)) rfl ?_
      refine z_top (b := d (16 + c) 1) ((vw_cargo (by omega) (by omega)).symm.trans (congrFun (congrFun hX.1 _) _)) ?_
      exact z_iret hC dX7_cargoOf_81 ⟨by unfold qCargo; rw [if_neg (by omega), if_neg (by omega), if_pos (by omega)], hX⟩
    · refine z_tableIn hC 82 dX7_cargoOf_25 (by omega) (by omega) (by omega) (by rw [w_3]; rfl) (by decide) ?_
      refine z_aload_n hC dX7_cargoOf_82 rfl ?_
      refine z_get hC iA_X0 rfl 2 (by decide) qF_X7_137 rfl dX7_cargoOf_83 (cl_cargo zb_0 (by omega)) (cd_cargo zb_0 (by omega)) rfl ?_
      refine z_top (b := d (16 + c) 2) ((vw_cargo (by omega) (by omega)).symm.trans (congrFun (congrFun hX.1 _) _)) ?_
      exact z_iret hC dX7_cargoOf_86 ⟨by unfold qCargo; rw [if_neg (by omega), if_neg (by omega), if_neg (by omega), if_pos (by omega)], hX⟩
    · refine z_tableIn hC 87 dX7_cargoOf_25 (by omega) (by omega) (by omega) (by rw [w_3]; rfl) (by decide) ?_
      refine z_aload_n hC dX7_cargoOf_87 rfl ?_
      refine z_get hC iA_X0 rfl 3 (by decide) qF_X7_140 rfl dX7_cargoOf_88 (cl_cargo zb_0 (by omega)) (cd_cargo zb_0 (by omega)) rfl ?_
      refine z_top (b := d (16 + c) 3) ((vw_cargo (by omega) (by omega)).symm.trans (congrFun (congrFun hX.1 _) _)) ?_
      exact z_iret hC dX7_cargoOf_91 ⟨by unfold qCargo; rw [if_neg (by omega), if_neg (by omega), if_neg (by omega), if_neg (by omega), if_pos (by omega)], hX⟩
    · refine z_tableIn hC 92 dX7_cargoOf_25 (by omega) (by omega) (by omega) (by rw [w_3]; rfl) (by decide) ?_
      refine z_aload_n hC dX7_cargoOf_92 rfl ?_
      refine z_get hC iA_X0 rfl 4 (by decide) qF_X7_143 rfl dX7_cargoOf_93 (cl_cargo zb_0 (by omega)) (cd_cargo zb_0 (by omega)) rfl ?_
      refine z_top (b := d (16 + c) 4) ((vw_cargo (by omega) (by omega)).symm.trans (congrFun (congrFun hX.1 _) _)) ?_
      exact z_iret hC dX7_cargoOf_96 ⟨by unfold qCargo; rw [if_neg (by omega), if_neg (by omega), if_neg (by omega), if_neg (by omega), if_neg (by omega), if_pos (by omega)], hX⟩
    · refine z_tableIn hC 97 dX7_cargoOf_25 (by omega) (by omega) (by omega) (by rw [w_3]; rfl) (by decide) ?_
      refine z_aload_n hC dX7_cargoOf_97 rfl ?_
      refine z_get hC iA_X0 rfl 5 (by decide) qF_X7_146 rfl dX7_cargoOf_98 (cl_cargo zb_0 (by omega)) (cd_cargo zb_0 (by omega)) rfl ?_
      refine z_top (b := d (16 + c) 5) ((vw_cargo (by omega) (by omega)).symm.trans (congrFun (congrFun hX.1 _) _)) ?_
      exact z_iret hC dX7_cargoOf_101 ⟨by unfold qCargo; rw [if_neg (by omega), if_neg (by omega), if_neg (by omega), if_neg (by omega), if_neg (by omega), if_neg (by omega), if_pos (by omega)], hX⟩
    · refine z_tableIn hC 102 dX7_cargoOf_25 (by omega) (by omega) (by omega) (by rw [w_3]; rfl) (by decide) ?_
      refine z_aload_n hC dX7_cargoOf_102 rfl ?_
      refine z_get hC iA_X0 rfl 6 (by decide) qF_X7_149 rfl dX7_cargoOf_103 (cl_cargo zb_0 (by omega)) (cd_cargo zb_0 (by omega)) rfl ?_
      refine z_top (b := d (16 + c) 6) ((vw_cargo (by omega) (by omega)).symm.trans (congrFun (congrFun hX.1 _) _)) ?_
      exact z_iret hC dX7_cargoOf_106 ⟨by unfold qCargo; rw [if_neg (by omega), if_neg (by omega), if_neg (by omega), if_neg (by omega), if_neg (by omega), if_neg (by omega), if_neg (by omega), if_pos (by omega)], hX⟩
    · refine z_tableIn hC 107 dX7_cargoOf_25 (by omega) (by omega) (by omega) (by rw [w_3]; rfl) (by decide) ?_
      refine z_aload_n hC dX7_cargoOf_107 rfl ?_
      refine z_get hC iA_X0 rfl 6 (by decide) qF_X7_149 rfl dX7_cargoOf_108 (cl_cargo zb_0 (by omega)) (cd_cargo zb_0 (by omega)) rfl ?_
      refine z_top (b := d (16 + c) 6) ((vw_cargo (by omega) (by omega)).symm.trans (congrFun (congrFun hX.1 _) _)) ?_
      refine z_iconst hC dX7_cargoOf_111 ?_
      refine z_icmp_ne hC 122 dX7_cargoOf_112 (by decide) (by omega) (by omega) (fun c_4 => ?_) (fun c_4 => ?_)
      · refine z_ldc hC (-1000004) qc_X7_155 rfl dX7_cargoOf_122 ?_
        exact z_iret hC dX7_cargoOf_124 ⟨by unfold qCargo; rw [if_neg (by omega), if_neg (by omega), if_neg (by omega), if_neg (by omega), if_neg (by omega), if_neg (by omega), if_neg (by omega), if_neg (by omega), if_pos (by omega), if_neg (by omega)], hX⟩
      · refine z_aload_n hC dX7_cargoOf_115 rfl ?_
        refine z_get hC iA_X0 rfl 7 (by decide) qF_X7_152 rfl dX7_cargoOf_116 (cl_cargo zb_0 (by omega)) (cd_cargo zb_0 (by omega)) rfl ?_
        refine z_top (b := d (16 + c) 7) ((vw_cargo (by omega) (by omega)).symm.trans (congrFun (congrFun hX.1 _) _)) ?_
        refine z_goto hC 124 dX7_cargoOf_119 (by decide) ?_
        exact z_iret hC dX7_cargoOf_124 ⟨by unfold qCargo; rw [if_neg (by omega), if_neg (by omega), if_neg (by omega), if_neg (by omega), if_neg (by omega), if_neg (by omega), if_neg (by omega), if_neg (by omega), if_pos (by omega), if_pos (by omega)], hX⟩
    · refine z_tableOut hC 125 dX7_cargoOf_25 (by omega) (by omega) (by decide) ?_
      refine z_ldc hC (-1000001) qc_X7_77 rfl dX7_cargoOf_125 ?_
      exact z_iret hC dX7_cargoOf_127 ⟨by unfold qCargo; rw [if_neg (by omega), if_neg (by omega), if_neg (by omega), if_neg (by omega), if_neg (by omega), if_neg (by omega), if_neg (by omega), if_neg (by omega), if_neg (by omega)], hX⟩
  · refine z_ldc hC (-1000001) qc_X7_77 rfl dX7_cargoOf_11 ?_
    exact z_iret hC dX7_cargoOf_13 ⟨by unfold qCargo; rw [if_pos (by omega)], hX⟩

set_option maxHeartbeats 4000000 in
set_option maxRecDepth 100000 in
/-- fixtureOf -/
theorem m_X7_fixtureOf (l : Launch) (G : va_G) (ca : Nat → ClassId) (ad : Int → Nat) (A : Nat → Prop) (μ : zM) (d : zM) (n : Int) (h : Int → zM) (L : Int) (t : Int → Int) (hX : zSt μ d n h L t) (hI : zInv d) (k p w : Int) (hk : -2147483648 ≤ k ∧ k ≤ 2147483647) (hp : -2147483648 ≤ p ∧ p ≤ 2147483647) (hw : -2147483648 ≤ w ∧ w ≤ 2147483647) : zMet l (cω G ca ad) A yX7_fixtureOf cX7_fixtureOf 6 (some .int) 3 90 [.ref (ad 156), .int (iZ k), .int (iZ p), .int (iZ w)] μ (zpI (.int (iZ (qFixt d k p w))) (fun μ' => zSt μ' d n h L t)) := by
  refine zMet_of (by decide) (Nat.le_of_ble_eq_true rfl) (fun Γ hC => ?_)
  show Z Γ _ μ 0 [(0, .ref (ad 156)), (1, .int (iZ k)), (2, .int (iZ p)), (3, .int (iZ w))] []
  obtain ⟨hB, _⟩ := id hI
  obtain ⟨hN, hP, hB3, hB4⟩ := id hB
  obtain ⟨hN1, hN2⟩ := id hN
  have hG := zInv_G hI
  refine z_aload_n hC dX7_fixtureOf_0 rfl ?_
  refine z_get hC iA_X7 rfl 0 (by decide) qF_X7_10 rfl dX7_fixtureOf_1 cl_main (cd_main (ca := ca) (ad := ad)) rfl ?_
  refine z_iload_n hC dX7_fixtureOf_4 rfl ?_
  have hN1 : μ 0 4 = d 0 4 := by rw [← hX.1, vw_S]
  refine z_callV hC [.int (iZ k)] 1 rfl dX7_fixtureOf_5 (fun l => m_X2_isShip l G ca ad _ μ 0 zb_0 k (by omega) (by omega)) qM_X7_73 qI_X2_isShip qS_X2_isShip qi_X2 qC_X2_isShip (by decide +kernel) (by decide) (by decide) (cl_desk zb_0) (cd_desk (ca := ca) (ad := ad) zb_0) rfl (Nat.le_of_ble_eq_true rfl) (zk_pure ?_) rfl
  rw [hN1]
  refine z_ifb_eq hC 24 dX7_fixtureOf_8 (by decide) (fun c_2 => ?_) (fun c_2 => ?_)
  · refine z_ldc hC (-1000001) qc_X7_77 rfl dX7_fixtureOf_24 ?_
    exact z_iret hC dX7_fixtureOf_26 ⟨by unfold qFixt; rw [if_pos (by omega)], hX⟩
  · refine z_iload_n hC dX7_fixtureOf_11 rfl ?_
    refine z_if_lt hC 24 dX7_fixtureOf_12 (by decide) (by omega) (fun c_3 => ?_) (fun c_3 => ?_)
    · refine z_ldc hC (-1000001) qc_X7_77 rfl dX7_fixtureOf_24 ?_
      exact z_iret hC dX7_fixtureOf_26 ⟨by unfold qFixt; rw [if_pos (by omega)], hX⟩
    · refine z_iload_n hC dX7_fixtureOf_15 rfl ?_
      refine z_iconst hC dX7_fixtureOf_16 ?_
      refine z_iconst hC dX7_fixtureOf_17 ?_
      refine z_callS hC [.int (iZ w), .int (iZ 0), .int (iZ 5)] 3 rfl dX7_fixtureOf_18 (fun l => m_X7_isIn l _ _ _ w 0 5 (by omega) (by omega) (by omega)) qM_X7_156 qT_X7_isIn qi_X7 qC_X7_isIn (by decide +kernel) (by decide) (by decide) (Nat.le_of_ble_eq_true rfl) (zk_pure ?_) rfl
      refine z_ifb_ne hC 27 dX7_fixtureOf_21 (by decide) (fun c_4 => ?_) (fun c_4 => ?_)
      · obtain ⟨hs0, hs1, hs2, hs3, hs4, hs6⟩ := hB3 k (by omega)
        refine z_aload_n hC dX7_fixtureOf_27 rfl ?_
        refine z_get hC iA_X7 rfl 0 (by decide) qF_X7_10 rfl dX7_fixtureOf_28 cl_main (cd_main (ca := ca) (ad := ad)) rfl ?_
        refine z_get hC iA_X2 rfl 2 (by decide) qF_X7_78 rfl dX7_fixtureOf_31 (cl_desk zb_0) (cd_desk (ca := ca) (ad := ad) zb_0) rfl ?_
        refine z_iload_n hC dX7_fixtureOf_34 rfl ?_
        refine z_aald hC dX7_fixtureOf_35 2 rfl (cl_ships zb_0) (fun _ i => 0 + 6 + i) (cd_ships (ca := ca) (ad := ad) zb_0) (by omega) (by omega) (by decide) ?_
        refine z_astore hC dX7_fixtureOf_36 (by decide) rfl ?_
        refine z_iload_n hC dX7_fixtureOf_38 rfl ?_
        refine z_aload hC dX7_fixtureOf_39 rfl ?_
        refine z_get hC iA_X6 rfl 6 (by decide) qF_X7_112 rfl dX7_fixtureOf_41 (cl_ship zb_0 (by omega)) (cd_ship zb_0 (by omega)) rfl ?_
        refine z_top (b := d (6 + k) 6) ((vw_ship (by omega) (by omega)).symm.trans (congrFun (congrFun hX.1 _) _)) ?_
        refine z_icmp_lt hC 50 dX7_fixtureOf_44 (by decide) (by omega) (by omega) (fun c_5 => ?_) (fun c_5 => ?_)
        · refine z_aload_n hC dX7_fixtureOf_50 rfl ?_
          refine z_get hC iA_X7 rfl 0 (by decide) qF_X7_10 rfl dX7_fixtureOf_51 cl_main (cd_main (ca := ca) (ad := ad)) rfl ?_
          refine z_iload_n hC dX7_fixtureOf_54 rfl ?_
          refine z_iload_n hC dX7_fixtureOf_55 rfl ?_
          refine z_iconst hC dX7_fixtureOf_56 ?_
          refine z_iadd hC dX7_fixtureOf_57 ?_
          have hpn : ((p.toNat : Nat) : Int) = p := Int.toNat_of_nonneg (by omega)
          have hNe := sNum_e (d := d) (k := k) (by omega)
          have hg9 : zGo d k (p.toNat + 1) := ⟨fun n hn => (hG k (by omega)).1 n (by omega), fun n hn => (hG k (by omega)).2 n (by omega)⟩
          refine z_callV hC [.int (iZ k), .int (iZ (p + 1))] 2 rfl dX7_fixtureOf_58 (fun l => m_X2_follow l G ca ad _ μ 0 zb_0 d hX.1 k (p + 1) (p.toNat + 1) hB (by omega) (by omega) (Or.inl ⟨by omega, by omega⟩) hg9) qM_X7_160 qI_X2_follow qS_X2_follow qi_X2 qC_X2_follow (by decide +kernel) (by decide) (by decide) (cl_desk zb_0) (cd_desk (ca := ca) (ad := ad) zb_0) rfl (Nat.le_of_ble_eq_true rfl) (zk_int (fun μ6 hμ6 => ?_)) rfl
          obtain ⟨hμ6f, hμ60, hμ61, hμ66, hμ6m⟩ := id hμ6
          have hd7 : vw μ6 0 = d := by rw [vw_fr5 hμ6f]; exact hX.1
          have hv9 := hμ6m p.toNat rfl
          rw [hpn] at hv9
          obtain ⟨hv2, hv3, hv4, hv5, hv7⟩ := hv9
          have hv1 : μ6 (0 + 5) 1 = sFree d k (d (11 + k) p) (sAt d k p).1 (sAt d k p).2.1 := by rw [hμ61]; show sFree d k (d (11 + k) ((p.toNat : Nat) : Int)) _ _ = _; rw [hpn]; rfl
          have hv29 : μ6 (0 + 5) 2 = sArr d k (d (11 + k) p) (sAt d k p).1 (sAt d k p).2.1 := hv2
          have hv39 : μ6 (0 + 5) 3 = sLoad d k (d (11 + k) p) (sAt d k p).1 (sAt d k p).2.1 := hv3
          have hv59 : μ6 (0 + 5) 5 = sEarn d k (d (11 + k) p) (sAt d k p).1 (sAt d k p).2.1 := hv5
          have hv79 : μ6 (0 + 5) 7 = sMarg d k (d (11 + k) p) (sAt d k p).1 (sAt d k p).2.1 := hv7
          refine z_astore hC dX7_fixtureOf_61 (by decide) rfl ?_
          refine z_iload_n hC dX7_fixtureOf_63 rfl ?_
          rcases (show w = 0 ∨ w = 1 ∨ w = 2 ∨ w = 3 ∨ w = 4 ∨ (w < 0 ∨ 4 < w) by omega) with w_8 | w_8 | w_8 | w_8 | w_8 | w_8
          · refine z_tableIn hC 100 dX7_fixtureOf_64 (by omega) (by omega) (by omega) (by rw [w_8]; rfl) (by decide) ?_
            refine z_aload hC dX7_fixtureOf_100 rfl ?_
            refine z_get hC iA_X6 rfl 7 (by decide) qF_X7_164 rfl dX7_fixtureOf_102 (cl_ship zb_0 (by omega)) (cd_ship zb_0 (by omega)) rfl ?_
            refine z_iload_n hC dX7_fixtureOf_105 rfl ?_
            refine z_iald hC dX7_fixtureOf_106 (cl_fx zb_0 (by omega)) (cd_fx zb_0 (by omega)) (by omega) (by omega) (by decide) ?_
            refine z_top (b := d (11 + k) p) ((vw_fx (by omega) (by omega)).symm.trans (congrFun (congrFun hd7 _) _)) ?_
            exact z_iret hC dX7_fixtureOf_107 ⟨by unfold qFixt; rw [if_neg (by omega), if_neg (by omega), if_pos (by omega)], zSt_5 hX hμ6f⟩
          · refine z_tableIn hC 108 dX7_fixtureOf_64 (by omega) (by omega) (by omega) (by rw [w_8]; rfl) (by decide) ?_
            refine z_aload hC dX7_fixtureOf_108 rfl ?_
            refine z_get hC iA_X1 rfl 2 (by decide) qF_X7_168 rfl dX7_fixtureOf_110 (cl_course zb_0) (cd_course (ca := ca) (ad := ad) zb_0) rfl ?_
            refine z_top (b := sArr d k (d (11 + k) p) (sAt d k p).1 (sAt d k p).2.1) (by rw [hv29]) ?_
            exact z_iret hC dX7_fixtureOf_113 ⟨by unfold qFixt; rw [if_neg (by omega), if_neg (by omega), if_neg (by omega), if_pos (by omega)], zSt_5 hX hμ6f⟩
          · refine z_tableIn hC 114 dX7_fixtureOf_64 (by omega) (by omega) (by omega) (by rw [w_8]; rfl) (by decide) ?_
            refine z_aload hC dX7_fixtureOf_114 rfl ?_
            refine z_get hC iA_X1 rfl 3 (by decide) qF_X7_171 rfl dX7_fixtureOf_116 (cl_course zb_0) (cd_course (ca := ca) (ad := ad) zb_0) rfl ?_
            refine z_top (b := sLoad d k (d (11 + k) p) (sAt d k p).1 (sAt d k p).2.1) (by rw [hv39]) ?_
            exact z_iret hC dX7_fixtureOf_119 ⟨by unfold qFixt; rw [if_neg (by omega), if_neg (by omega), if_neg (by omega), if_neg (by omega), if_pos (by omega)], zSt_5 hX hμ6f⟩
          · refine z_tableIn hC 120 dX7_fixtureOf_64 (by omega) (by omega) (by omega) (by rw [w_8]; rfl) (by decide) ?_
            refine z_aload hC dX7_fixtureOf_120 rfl ?_
            refine z_get hC iA_X1 rfl 1 (by decide) qF_X7_103 rfl dX7_fixtureOf_122 (cl_course zb_0) (cd_course (ca := ca) (ad := ad) zb_0) rfl ?_
            refine z_top (b := sFree d k (d (11 + k) p) (sAt d k p).1 (sAt d k p).2.1) (by rw [hv1]) ?_
            exact z_iret hC dX7_fixtureOf_125 ⟨by unfold qFixt; rw [if_neg (by omega), if_neg (by omega), if_neg (by omega), if_neg (by omega), if_neg (by omega), if_pos (by omega)], zSt_5 hX hμ6f⟩
          · refine z_tableIn hC 126 dX7_fixtureOf_64 (by omega) (by omega) (by omega) (by rw [w_8]; rfl) (by decide) ?_
            refine z_aload hC dX7_fixtureOf_126 rfl ?_
            refine z_get hC iA_X1 rfl 5 (by decide) qF_X7_174 rfl dX7_fixtureOf_128 (cl_course zb_0) (cd_course (ca := ca) (ad := ad) zb_0) rfl ?_
            refine z_top (b := sEarn d k (d (11 + k) p) (sAt d k p).1 (sAt d k p).2.1) (by rw [hv59]) ?_
            refine z_ldc hC (1000000) qc_X7_118 rfl dX7_fixtureOf_131 ?_
            refine z_iadd hC dX7_fixtureOf_133 ?_
            exact z_iret hC dX7_fixtureOf_134 ⟨by unfold qFixt; rw [if_neg (by omega), if_neg (by omega), if_neg (by omega), if_neg (by omega), if_neg (by omega), if_neg (by omega), if_pos (by omega)], zSt_5 hX hμ6f⟩
          · refine z_tableOut hC 135 dX7_fixtureOf_64 (by omega) (by omega) (by decide) ?_
            refine z_aload hC dX7_fixtureOf_135 rfl ?_
            refine z_get hC iA_X1 rfl 7 (by decide) qF_X7_177 rfl dX7_fixtureOf_137 (cl_course zb_0) (cd_course (ca := ca) (ad := ad) zb_0) rfl ?_
            refine z_top (b := sMarg d k (d (11 + k) p) (sAt d k p).1 (sAt d k p).2.1) (by rw [hv79]) ?_
            exact z_iret hC dX7_fixtureOf_140 ⟨by unfold qFixt; rw [if_neg (by omega), if_neg (by omega), if_neg (by omega), if_neg (by omega), if_neg (by omega), if_neg (by omega), if_neg (by omega)], zSt_5 hX hμ6f⟩
        · refine z_ldc hC (-1000004) qc_X7_155 rfl dX7_fixtureOf_47 ?_
          exact z_iret hC dX7_fixtureOf_49 ⟨by unfold qFixt; rw [if_neg (by omega), if_pos (by omega)], hX⟩
      · refine z_ldc hC (-1000001) qc_X7_77 rfl dX7_fixtureOf_24 ?_
        exact z_iret hC dX7_fixtureOf_26 ⟨by unfold qFixt; rw [if_pos (by omega)], hX⟩

set_option maxHeartbeats 4000000 in
set_option maxRecDepth 100000 in
/-- distance -/
theorem m_X7_distance (l : Launch) (G : va_G) (ca : Nat → ClassId) (ad : Int → Nat) (A : Nat → Prop) (μ : zM) (d : zM) (n : Int) (h : Int → zM) (L : Int) (t : Int → Int) (hX : zSt μ d n h L t) (hI : zInv d) (p q : Int) (hp : -2147483648 ≤ p ∧ p ≤ 2147483647) (hq : -2147483648 ≤ q ∧ q ≤ 2147483647) : zMet l (cω G ca ad) A yX7_distance cX7_distance 3 (some .int) 2 42 [.ref (ad 156), .int (iZ p), .int (iZ q)] μ (zpI (.int (iZ (qDist d p q))) (fun μ' => zSt μ' d n h L t)) := by
  refine zMet_of (by decide) (Nat.le_of_ble_eq_true rfl) (fun Γ hC => ?_)
  show Z Γ _ μ 0 [(0, .ref (ad 156)), (1, .int (iZ p)), (2, .int (iZ q))] []
  obtain ⟨hB, _⟩ := id hI
  obtain ⟨hN, hP, hB3, hB4⟩ := id hB
  obtain ⟨hN1, hN2⟩ := id hN
  have hG := zInv_G hI
  refine z_iload_n hC dX7_distance_0 rfl ?_
  refine z_callS hC [.int (iZ p)] 1 rfl dX7_distance_1 (fun l => m_X7_isPort l _ _ _ p (by omega)) qM_X7_180 qT_X7_isPort qi_X7 qC_X7_isPort (by decide +kernel) (by decide) (by decide) (Nat.le_of_ble_eq_true rfl) (zk_pure ?_) rfl
  refine z_ifb_eq hC 14 dX7_distance_4 (by decide) (fun c_1 => ?_) (fun c_1 => ?_)
  · refine z_ldc hC (-1000001) qc_X7_77 rfl dX7_distance_14 ?_
    exact z_iret hC dX7_distance_16 ⟨by unfold qDist; rw [if_pos (by omega)], hX⟩
  · refine z_iload_n hC dX7_distance_7 rfl ?_
    refine z_callS hC [.int (iZ q)] 1 rfl dX7_distance_8 (fun l => m_X7_isPort l _ _ _ q (by omega)) qM_X7_180 qT_X7_isPort qi_X7 qC_X7_isPort (by decide +kernel) (by decide) (by decide) (Nat.le_of_ble_eq_true rfl) (zk_pure ?_) rfl
    refine z_ifb_ne hC 17 dX7_distance_11 (by decide) (fun c_2 => ?_) (fun c_2 => ?_)
    · refine z_aload_n hC dX7_distance_17 rfl ?_
      refine z_get hC iA_X7 rfl 0 (by decide) qF_X7_10 rfl dX7_distance_18 cl_main (cd_main (ca := ca) (ad := ad)) rfl ?_
      refine z_iload_n hC dX7_distance_21 rfl ?_
      refine z_iload_n hC dX7_distance_22 rfl ?_
      refine z_callV hC [.int (iZ p), .int (iZ q)] 2 rfl dX7_distance_23 (fun l => m_X2_between l G ca ad _ μ 0 zb_0 d hX.1 p q hP (by omega) (by omega)) qM_X7_183 qI_X2_between qS_X2_between qi_X2 qC_X2_between (by decide +kernel) (by decide) (by decide) (cl_desk zb_0) (cd_desk (ca := ca) (ad := ad) zb_0) rfl (Nat.le_of_ble_eq_true rfl) (zk_pure ?_) rfl
      exact z_iret hC dX7_distance_26 ⟨by unfold qDist; rw [if_neg (by omega)], hX⟩
    · refine z_ldc hC (-1000001) qc_X7_77 rfl dX7_distance_14 ?_
      exact z_iret hC dX7_distance_16 ⟨by unfold qDist; rw [if_pos (by omega)], hX⟩

set_option maxHeartbeats 4000000 in
set_option maxRecDepth 100000 in
/-- slack -/
theorem m_X7_slack (l : Launch) (G : va_G) (ca : Nat → ClassId) (ad : Int → Nat) (A : Nat → Prop) (μ : zM) (d : zM) (n : Int) (h : Int → zM) (L : Int) (t : Int → Int) (hX : zSt μ d n h L t) (hI : zInv d) (k : Int) (hk : -2147483648 ≤ k ∧ k ≤ 2147483647) : zMet l (cω G ca ad) A yX7_slack cX7_slack 2 (some .int) 3 92 [.ref (ad 156), .int (iZ k)] μ (zpI (.int (iZ (qSlack d k))) (fun μ' => zSt μ' d n h L t)) := by
  refine zMet_of (by decide) (Nat.le_of_ble_eq_true rfl) (fun Γ hC => ?_)
  show Z Γ _ μ 0 [(0, .ref (ad 156)), (1, .int (iZ k))] []
  obtain ⟨hB, _⟩ := id hI
  obtain ⟨hN, hP, hB3, hB4⟩ := id hB
  obtain ⟨hN1, hN2⟩ := id hN
  have hG := zInv_G hI
  refine z_aload_n hC dX7_slack_0 rfl ?_
  refine z_get hC iA_X7 rfl 0 (by decide) qF_X7_10 rfl dX7_slack_1 cl_main (cd_main (ca := ca) (ad := ad)) rfl ?_
  refine z_iload_n hC dX7_slack_4 rfl ?_
  have hN1 : μ 0 4 = d 0 4 := by rw [← hX.1, vw_S]
  refine z_callV hC [.int (iZ k)] 1 rfl dX7_slack_5 (fun l => m_X2_isShip l G ca ad _ μ 0 zb_0 k (by omega) (by omega)) qM_X7_73 qI_X2_isShip qS_X2_isShip qi_X2 qC_X2_isShip (by decide +kernel) (by decide) (by decide) (cl_desk zb_0) (cd_desk (ca := ca) (ad := ad) zb_0) rfl (Nat.le_of_ble_eq_true rfl) (zk_pure ?_) rfl
  rw [hN1]
  refine z_ifb_eq hC 22 dX7_slack_8 (by decide) (fun c_2 => ?_) (fun c_2 => ?_)
  · refine z_ldc hC (-1000001) qc_X7_77 rfl dX7_slack_22 ?_
    exact z_iret hC dX7_slack_24 ⟨by unfold qSlack; rw [if_pos (by omega)], hX⟩
  · refine z_aload_n hC dX7_slack_11 rfl ?_
    refine z_get hC iA_X7 rfl 0 (by decide) qF_X7_10 rfl dX7_slack_12 cl_main (cd_main (ca := ca) (ad := ad)) rfl ?_
    refine z_iload_n hC dX7_slack_15 rfl ?_
    refine z_callV hC [.int (iZ k)] 1 rfl dX7_slack_16 (fun l => m_X2_slackOf l G ca ad _ μ 0 zb_0 d hX.1 k hB (by omega) (hG _ (by omega))) qM_X7_237 qI_X2_slackOf qS_X2_slackOf qi_X2 qC_X2_slackOf (by decide +kernel) (by decide) (by decide) (cl_desk zb_0) (cd_desk (ca := ca) (ad := ad) zb_0) rfl (Nat.le_of_ble_eq_true rfl) (zk_int (fun μ3 hμ3 => ?_)) rfl
    have hμ3f := hμ3
    refine z_goto hC 24 dX7_slack_19 (by decide) ?_
    exact z_iret hC dX7_slack_24 ⟨by unfold qSlack; rw [if_neg (by omega)], zSt_5 hX hμ3f⟩

set_option maxHeartbeats 4000000 in
set_option maxRecDepth 100000 in
/-- count -/
theorem m_X7_count (l : Launch) (G : va_G) (ca : Nat → ClassId) (ad : Int → Nat) (A : Nat → Prop) (μ : zM) (d : zM) (n : Int) (h : Int → zM) (L : Int) (t : Int → Int) (hX : zSt μ d n h L t) (hI : zInv d) (w : Int) (hw : -2147483648 ≤ w ∧ w ≤ 2147483647) : zMet l (cω G ca ad) A yX7_count cX7_count 2 (some .int) 1 23 [.ref (ad 156), .int (iZ w)] μ (zpI (.int (iZ (qCount d n L w))) (fun μ' => zSt μ' d n h L t)) := by
  refine zMet_of (by decide) (Nat.le_of_ble_eq_true rfl) (fun Γ hC => ?_)
  show Z Γ _ μ 0 [(0, .ref (ad 156)), (1, .int (iZ w))] []
  obtain ⟨hB, _⟩ := id hI
  obtain ⟨hN, hP, hB3, hB4⟩ := id hB
  obtain ⟨hN1, hN2⟩ := id hN
  have hG := zInv_G hI
  refine z_iload_n hC dX7_count_0 rfl ?_
  rcases (show w = 0 ∨ w = 1 ∨ w = 2 ∨ w = 3 ∨ w = 4 ∨ w = 5 ∨ w = 6 ∨ w = 7 ∨ w = 8 ∨ (w < 0 ∨ 8 < w) by omega) with w_1 | w_1 | w_1 | w_1 | w_1 | w_1 | w_1 | w_1 | w_1 | w_1
  · refine z_tableIn hC 52 dX7_count_1 (by omega) (by omega) (by omega) (by rw [w_1]; rfl) (by decide) ?_
    refine z_aload_n hC dX7_count_52 rfl ?_
    refine z_get hC iA_X7 rfl 0 (by decide) qF_X7_10 rfl dX7_count_53 cl_main (cd_main (ca := ca) (ad := ad)) rfl ?_
    refine z_get hC iA_X2 rfl 4 (by decide) qF_X7_211 rfl dX7_count_56 (cl_desk zb_0) (cd_desk (ca := ca) (ad := ad) zb_0) rfl ?_
    refine z_top (b := d 0 4) ((vw_S).symm.trans (congrFun (congrFun hX.1 _) _)) ?_
    exact z_iret hC dX7_count_59 ⟨by unfold qCount; rw [if_pos (by omega)], hX⟩
  · refine z_tableIn hC 60 dX7_count_1 (by omega) (by omega) (by omega) (by rw [w_1]; rfl) (by decide) ?_
    refine z_aload_n hC dX7_count_60 rfl ?_
    refine z_get hC iA_X7 rfl 0 (by decide) qF_X7_10 rfl dX7_count_61 cl_main (cd_main (ca := ca) (ad := ad)) rfl ?_
    refine z_get hC iA_X2 rfl 5 (by decide) qF_X7_200 rfl dX7_count_64 (cl_desk zb_0) (cd_desk (ca := ca) (ad := ad) zb_0) rfl ?_
    refine z_top (b := d 0 5) ((vw_Cn).symm.trans (congrFun (congrFun hX.1 _) _)) ?_
    exact z_iret hC dX7_count_67 ⟨by unfold qCount; rw [if_neg (by omega), if_pos (by omega)], hX⟩
  · refine z_tableIn hC 68 dX7_count_1 (by omega) (by omega) (by omega) (by rw [w_1]; rfl) (by decide) ?_
    refine z_aload_n hC dX7_count_68 rfl ?_
    refine z_get hC iA_X7 rfl 0 (by decide) qF_X7_10 rfl dX7_count_69 cl_main (cd_main (ca := ca) (ad := ad)) rfl ?_
    refine z_iconst hC dX7_count_72 ?_
    refine z_callV hC [.int (iZ 0)] 1 rfl dX7_count_73 (fun l => m_X2_cargoesThatAre l G ca ad _ μ 0 zb_0 d hX.1 0 (by omega) (d 0 5).toNat (by omega) hB) qM_X7_240 qI_X2_cargoesThatAre qS_X2_cargoesThatAre qi_X2 qC_X2_cargoesThatAre (by decide +kernel) (by decide) (by decide) (cl_desk zb_0) (cd_desk (ca := ca) (ad := ad) zb_0) rfl (Nat.le_of_ble_eq_true rfl) (zk_pure ?_) rfl
    exact z_iret hC dX7_count_76 ⟨by unfold qCount; rw [if_neg (by omega), if_neg (by omega), if_pos (by omega)], hX⟩
  · refine z_tableIn hC 77 dX7_count_1 (by omega) (by omega) (by omega) (by rw [w_1]; rfl) (by decide) ?_
    refine z_aload_n hC dX7_count_77 rfl ?_
    refine z_get hC iA_X7 rfl 0 (by decide) qF_X7_10 rfl dX7_count_78 cl_main (cd_main (ca := ca) (ad := ad)) rfl ?_
    refine z_iconst hC dX7_count_81 ?_
    refine z_callV hC [.int (iZ 1)] 1 rfl dX7_count_82 (fun l => m_X2_cargoesThatAre l G ca ad _ μ 0 zb_0 d hX.1 1 (by omega) (d 0 5).toNat (by omega) hB) qM_X7_240 qI_X2_cargoesThatAre qS_X2_cargoesThatAre qi_X2 qC_X2_cargoesThatAre (by decide +kernel) (by decide) (by decide) (cl_desk zb_0) (cd_desk (ca := ca) (ad := ad) zb_0) rfl (Nat.le_of_ble_eq_true rfl) (zk_pure ?_) rfl
    exact z_iret hC dX7_count_85 ⟨by unfold qCount; rw [if_neg (by omega), if_neg (by omega), if_neg (by omega), if_pos (by omega)], hX⟩
  · refine z_tableIn hC 86 dX7_count_1 (by omega) (by omega) (by omega) (by rw [w_1]; rfl) (by decide) ?_
    refine z_aload_n hC dX7_count_86 rfl ?_
    refine z_get hC iA_X7 rfl 0 (by decide) qF_X7_10 rfl dX7_count_87 cl_main (cd_main (ca := ca) (ad := ad)) rfl ?_
    refine z_callV hC [] 0 rfl dX7_count_90 (fun l => m_X2_accountsTogether l G ca ad _ μ 0 zb_0 d hX.1 (d 0 4).toNat (by omega) hB) qM_X7_243 qI_X2_accountsTogether qS_X2_accountsTogether qi_X2 qC_X2_accountsTogether (by decide +kernel) (by decide) (by decide) (cl_desk zb_0) (cd_desk (ca := ca) (ad := ad) zb_0) rfl (Nat.le_of_ble_eq_true rfl) (zk_pure ?_) rfl
    refine z_ldc hC (1000000) qc_X7_118 rfl dX7_count_93 ?_
    refine z_iadd hC dX7_count_95 ?_
    exact z_iret hC dX7_count_96 ⟨by unfold qCount; rw [if_neg (by omega), if_neg (by omega), if_neg (by omega), if_neg (by omega), if_pos (by omega)], hX⟩
  · refine z_tableIn hC 97 dX7_count_1 (by omega) (by omega) (by omega) (by rw [w_1]; rfl) (by decide) ?_
    refine z_aload_n hC dX7_count_97 rfl ?_
    refine z_get hC iA_X7 rfl 0 (by decide) qF_X7_10 rfl dX7_count_98 cl_main (cd_main (ca := ca) (ad := ad)) rfl ?_
    refine z_get hC iA_X2 rfl 6 (by decide) qF_X7_246 rfl dX7_count_101 (cl_desk zb_0) (cd_desk (ca := ca) (ad := ad) zb_0) rfl ?_
    refine z_top (b := d 0 6) ((vw_can).symm.trans (congrFun (congrFun hX.1 _) _)) ?_
    exact z_iret hC dX7_count_104 ⟨by unfold qCount; rw [if_neg (by omega), if_neg (by omega), if_neg (by omega), if_neg (by omega), if_neg (by omega), if_pos (by omega)], hX⟩
  · refine z_tableIn hC 105 dX7_count_1 (by omega) (by omega) (by omega) (by rw [w_1]; rfl) (by decide) ?_
    refine z_aload_n hC dX7_count_105 rfl ?_
    refine z_get hC iA_X7 rfl 0 (by decide) qF_X7_10 rfl dX7_count_106 cl_main (cd_main (ca := ca) (ad := ad)) rfl ?_
    refine z_get hC iA_X2 rfl 7 (by decide) qF_X7_249 rfl dX7_count_109 (cl_desk zb_0) (cd_desk (ca := ca) (ad := ad) zb_0) rfl ?_
    refine z_top (b := d 0 7) ((vw_off).symm.trans (congrFun (congrFun hX.1 _) _)) ?_
    exact z_iret hC dX7_count_112 ⟨by unfold qCount; rw [if_neg (by omega), if_neg (by omega), if_neg (by omega), if_neg (by omega), if_neg (by omega), if_neg (by omega), if_pos (by omega)], hX⟩
  · refine z_tableIn hC 113 dX7_count_1 (by omega) (by omega) (by omega) (by rw [w_1]; rfl) (by decide) ?_
    refine z_aload_n hC dX7_count_113 rfl ?_
    refine z_get hC iA_X7 rfl 2 (by decide) qF_X7_22 rfl dX7_count_114 cl_main (cd_main (ca := ca) (ad := ad)) rfl ?_
    refine z_get hC iA_X4 rfl 1 (by decide) qF_X7_252 rfl dX7_count_117 cl_hist (cd_hist (ca := ca) (ad := ad)) rfl ?_
    refine z_top (b := n) (by rw [hX.2.1.2.1]) ?_
    exact z_iret hC dX7_count_120 ⟨by unfold qCount; rw [if_neg (by omega), if_neg (by omega), if_neg (by omega), if_neg (by omega), if_neg (by omega), if_neg (by omega), if_neg (by omega), if_pos (by omega)], hX⟩
  · refine z_tableIn hC 121 dX7_count_1 (by omega) (by omega) (by omega) (by rw [w_1]; rfl) (by decide) ?_
    refine z_aload_n hC dX7_count_121 rfl ?_
    refine z_get hC iA_X7 rfl 3 (by decide) qF_X7_29 rfl dX7_count_122 cl_main (cd_main (ca := ca) (ad := ad)) rfl ?_
    refine z_get hC iA_X5 rfl 1 (by decide) qF_X7_253 rfl dX7_count_125 cl_script (cd_script (ca := ca) (ad := ad)) rfl ?_
    refine z_top (b := L) (by rw [hX.2.2.1]) ?_
    exact z_iret hC dX7_count_128 ⟨by unfold qCount; rw [if_neg (by omega), if_neg (by omega), if_neg (by omega), if_neg (by omega), if_neg (by omega), if_neg (by omega), if_neg (by omega), if_neg (by omega), if_pos (by omega)], hX⟩
  · refine z_tableOut hC 129 dX7_count_1 (by omega) (by omega) (by decide) ?_
    refine z_ldc hC (-1000001) qc_X7_77 rfl dX7_count_129 ?_
    exact z_iret hC dX7_count_131 ⟨by unfold qCount; rw [if_neg (by omega), if_neg (by omega), if_neg (by omega), if_neg (by omega), if_neg (by omega), if_neg (by omega), if_neg (by omega), if_neg (by omega), if_neg (by omega)], hX⟩

set_option maxHeartbeats 4000000 in
set_option maxRecDepth 100000 in
/-- bestCargo -/
theorem m_X7_bestCargo (l : Launch) (G : va_G) (ca : Nat → ClassId) (ad : Int → Nat) (A : Nat → Prop) (μ : zM) (d : zM) (n : Int) (h : Int → zM) (L : Int) (t : Int → Int) (hX : zSt μ d n h L t) (hI : zInv d) (k : Int) (hk : -2147483648 ≤ k ∧ k ≤ 2147483647) : zMet l (cω G ca ad) A yX7_bestCargo cX7_bestCargo 2 (some .int) 5 139 [.ref (ad 156), .int (iZ k)] μ (zpI (.int (iZ (qBestC d k (0, μ 0 9, μ 0 10, μ 0 11)))) (fun μ' => zSt μ' d n h L t)) := by
  refine zMet_of (by decide) (Nat.le_of_ble_eq_true rfl) (fun Γ hC => ?_)
  show Z Γ _ μ 0 [(0, .ref (ad 156)), (1, .int (iZ k))] []
  obtain ⟨hB, _⟩ := id hI
  obtain ⟨hN, hP, hB3, hB4⟩ := id hB
  obtain ⟨hN1, hN2⟩ := id hN
  have hG := zInv_G hI
  refine z_aload_n hC dX7_bestCargo_0 rfl ?_
  refine z_get hC iA_X7 rfl 0 (by decide) qF_X7_10 rfl dX7_bestCargo_1 cl_main (cd_main (ca := ca) (ad := ad)) rfl ?_
  refine z_iload_n hC dX7_bestCargo_4 rfl ?_
  have hN1 : μ 0 4 = d 0 4 := by rw [← hX.1, vw_S]
  refine z_callV hC [.int (iZ k)] 1 rfl dX7_bestCargo_5 (fun l => m_X2_isShip l G ca ad _ μ 0 zb_0 k (by omega) (by omega)) qM_X7_73 qI_X2_isShip qS_X2_isShip qi_X2 qC_X2_isShip (by decide +kernel) (by decide) (by decide) (cl_desk zb_0) (cd_desk (ca := ca) (ad := ad) zb_0) rfl (Nat.le_of_ble_eq_true rfl) (zk_pure ?_) rfl
  rw [hN1]
  refine z_ifb_ne hC 14 dX7_bestCargo_8 (by decide) (fun c_2 => ?_) (fun c_2 => ?_)
  · refine z_aload_n hC dX7_bestCargo_14 rfl ?_
    refine z_get hC iA_X7 rfl 0 (by decide) qF_X7_10 rfl dX7_bestCargo_15 cl_main (cd_main (ca := ca) (ad := ad)) rfl ?_
    refine z_iload_n hC dX7_bestCargo_18 rfl ?_
    refine z_iload_n hC dX7_bestCargo_19 rfl ?_
    refine z_iconst hC dX7_bestCargo_20 ?_
    refine z_iadd hC dX7_bestCargo_21 ?_
    refine z_iconst hC dX7_bestCargo_22 ?_
    refine z_aload_n hC dX7_bestCargo_23 rfl ?_
    refine z_get hC iA_X7 rfl 0 (by decide) qF_X7_10 rfl dX7_bestCargo_24 cl_main (cd_main (ca := ca) (ad := ad)) rfl ?_
    refine z_get hC iA_X2 rfl 5 (by decide) qF_X7_200 rfl dX7_bestCargo_27 (cl_desk zb_0) (cd_desk (ca := ca) (ad := ad) zb_0) rfl ?_
    refine z_top (b := d 0 5) ((vw_Cn).symm.trans (congrFun (congrFun hX.1 _) _)) ?_
    refine z_callV hC [.int (iZ k), .int (iZ (k + 1)), .int (iZ 0), .int (iZ (d 0 5))] 4 rfl dX7_bestCargo_30 (fun l => m_X2_choose l G ca ad _ μ 0 zb_0 d hX.1 k (k + 1) 0 (d 0 5) 1 (d 0 5).toNat hB hG (by omega) (by omega) (by omega) (by omega) (by omega) (by omega)) qM_X7_203 qI_X2_choose qS_X2_choose qi_X2 qC_X2_choose (by decide +kernel) (by decide) (by decide) (cl_desk zb_0) (cd_desk (ca := ca) (ad := ad) zb_0) rfl (Nat.le_of_ble_eq_true rfl) (zk_int (fun μ3 hμ3 => ?_)) rfl
    obtain ⟨hμ3f, hμ39, hμ310, hμ311⟩ := id hμ3
    have hd4 : vw μ3 0 = d := by rw [vw_f2 hμ3f]; exact hX.1
    refine z_ifb_eq hC 46 dX7_bestCargo_33 (by decide) (fun c_5 => ?_) (fun c_5 => ?_)
    · refine z_ldc hC (-1000004) qc_X7_155 rfl dX7_bestCargo_46 ?_
      exact z_iret hC dX7_bestCargo_48 ⟨by unfold qBestC; rw [if_neg (by omega), if_neg (by omega)], zSt_f2 hX hμ3f⟩
    · refine z_aload_n hC dX7_bestCargo_36 rfl ?_
      refine z_get hC iA_X7 rfl 0 (by decide) qF_X7_10 rfl dX7_bestCargo_37 cl_main (cd_main (ca := ca) (ad := ad)) rfl ?_
      refine z_get hC iA_X2 rfl 10 (by decide) qF_X7_207 rfl dX7_bestCargo_40 (cl_desk zb_0) (cd_desk (ca := ca) (ad := ad) zb_0) rfl ?_
      refine z_top (b := (sAll d k 0 (d 0 5).toNat 1 (0, μ 0 9, μ 0 10, μ 0 11)).2.2.1) (by rw [hμ310]) ?_
      refine z_goto hC 48 dX7_bestCargo_43 (by decide) ?_
      exact z_iret hC dX7_bestCargo_48 ⟨by unfold qBestC; rw [if_neg (by omega), if_pos (by omega)], zSt_f2 hX hμ3f⟩
  · refine z_ldc hC (-1000001) qc_X7_77 rfl dX7_bestCargo_11 ?_
    exact z_iret hC dX7_bestCargo_13 ⟨by unfold qBestC; rw [if_pos (by omega)], hX⟩

