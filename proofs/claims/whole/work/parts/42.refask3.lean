set_option maxHeartbeats 4000000 in
set_option maxRecDepth 100000 in
/-- shipOf -/
theorem m_X8_shipOf (l : Launch) (G : va_G) (ca : Nat → ClassId) (ad : Int → Nat) (A : Nat → Prop) (μ : zM) (d : zM) (n : Int) (h : Int → zM) (L : Int) (t : Int → Int) (hX : rSt μ d n h L t) (hI : zInv d) (k w : Int) (hk : -2147483648 ≤ k ∧ k ≤ 2147483647) (hw : -2147483648 ≤ w ∧ w ≤ 2147483647) : zMet l (rω G ca ad) A yX8_shipOf cX8_shipOf 3 (some .int) 6 143 [.ref (ad 0), .int (iZ k), .int (iZ w)] μ (zpI (.int (iZ (qShip d k w))) (fun μ' => rSt μ' d n h L t)) := by
  refine zMet_of (by decide) (Nat.le_of_ble_eq_true rfl) (fun Γ hC => ?_)
  show Z Γ _ μ 0 [(0, .ref (ad 0)), (1, .int (iZ k)), (2, .int (iZ w))] []
  obtain ⟨hB, hf5, hf6, hIF, hIS, hII, hIL⟩ := id hI
  obtain ⟨hN, hP, hB3, hB4⟩ := id hB
  obtain ⟨hN1, hN2⟩ := id hN
  refine z_aload_n hC dX8_shipOf_0 rfl ?_
  refine z_iload_n hC dX8_shipOf_1 rfl ?_
  refine z_callV hC [.int (iZ k)] 1 rfl dX8_shipOf_2 (fun l => m_X8_isShip l G ca ad _ μ d hX.1 k (by omega) (by omega)) qM_X8_91 qI_X8_isShip qS_X8_isShip qi_X8 qC_X8_isShip (by decide +kernel) (by decide) (by decide) rl_0 (rd_0 (ca := ca) (ad := ad)) rfl (Nat.le_of_ble_eq_true rfl) (zk_pure ?_) rfl
  refine z_ifb_eq hC 18 dX8_shipOf_5 (by decide) (fun c_1 => ?_) (fun c_1 => ?_)
  · refine z_ldc hC (-1000001) qc_X8_24 rfl dX8_shipOf_18 ?_
    have e9 : qShip d k w = -1000001 := by
      unfold qShip
      by_cases q9 : 0 ≤ k ∧ k < d 0 4
      · rw [if_neg (by omega), if_neg (by omega), if_neg (by omega), if_neg (by omega), if_neg (by omega), if_neg (by omega), if_neg (by omega), if_neg (by omega), if_neg (by omega), if_neg (by omega), if_neg (by omega)]
      · rw [if_pos (by omega)]
    exact z_iret hC dX8_shipOf_20 ⟨by rw [e9], hX⟩
  · refine z_iload_n hC dX8_shipOf_8 rfl ?_
    refine z_iconst hC dX8_shipOf_9 ?_
    refine z_bipush hC dX8_shipOf_10 (by decide) ?_
    refine z_callS hC [.int (iZ w), .int (iZ 0), .int (iZ 9)] 3 rfl dX8_shipOf_12 (fun l => m_X8_in l _ _ _ w 0 9 (by omega) (by omega) (by omega)) qM_X8_29 qT_X8_in qi_X8 qC_X8_in (by decide +kernel) (by decide) (by decide) (Nat.le_of_ble_eq_true rfl) (zk_pure ?_) rfl
    refine z_ifb_ne hC 21 dX8_shipOf_15 (by decide) (fun c_2 => ?_) (fun c_2 => ?_)
    · obtain ⟨hs0, hs1, hs2, hs3, hs4, hs6⟩ := hB3 k (by omega)
      refine z_aload_n hC dX8_shipOf_21 rfl ?_
      refine z_iconst hC dX8_shipOf_22 ?_
      refine z_iload_n hC dX8_shipOf_23 rfl ?_
      refine z_callV hC [.int (iZ 0), .int (iZ k)] 2 rfl dX8_shipOf_24 (fun l => m_X8_goesAll l G ca ad _ μ d hX.1 0 (by omega) d hX.1 (fun _ => ⟨rfl, rfl⟩) hP k hB (by omega) (fOk_of hI (by omega))) qM_X8_87 qI_X8_goesAll qS_X8_goesAll qi_X8 qC_X8_goesAll (by decide +kernel) (by decide) (by decide) rl_0 (rd_0 (ca := ca) (ad := ad)) rfl (Nat.le_of_ble_eq_true rfl) (zk_void (fun μ3 hμ3 => ?_)) rfl
      obtain ⟨hμ3f, hμ3g⟩ := id hμ3
      rw [sInT_all (late_of hI (by omega))] at hμ3g
      obtain ⟨hμ312, hμ313, hμ314, hμ315⟩ := hμ3g
      have hμ3e12 : μ3 0 12 = (sEnd d k).1 := hμ312
      have hμ3e13 : μ3 0 13 = (sEnd d k).2.1 := hμ313
      have hμ3e14 : μ3 0 14 = (sEnd d k).2.2 := hμ314
      have hd4 : rv μ3 0 = d := by rw [rv_fr hμ3f]; exact hX.1
      refine z_iload_n hC dX8_shipOf_27 rfl ?_
      rcases (show w = 0 ∨ w = 1 ∨ w = 2 ∨ w = 3 ∨ w = 4 ∨ w = 5 ∨ w = 6 ∨ w = 7 ∨ w = 8 ∨ (w < 0 ∨ 8 < w) by omega) with w_5 | w_5 | w_5 | w_5 | w_5 | w_5 | w_5 | w_5 | w_5 | w_5
      · refine z_tableIn hC 80 dX8_shipOf_28 (by omega) (by omega) (by omega) (by rw [w_5]; rfl) (by decide) ?_
        refine z_aload_n hC dX8_shipOf_80 rfl ?_
        refine z_get hC iA_X8 rfl 0 (by decide) qF_X8_7 rfl dX8_shipOf_81 rl_0 (rd_0 (ca := ca) (ad := ad)) rfl ?_
        refine z_iconst hC dX8_shipOf_84 ?_
        refine z_iload_n hC dX8_shipOf_85 rfl ?_
        refine z_iload_n hC dX8_shipOf_86 rfl ?_
        refine z_callS hC [.int (iZ 0), .int (iZ k), .int (iZ w)] 3 rfl dX8_shipOf_87 (fun l => m_X8_shipAt l _ _ _ 0 k w) qM_X8_37 qT_X8_shipAt qi_X8 qC_X8_shipAt (by decide +kernel) (by decide) (by decide) (Nat.le_of_ble_eq_true rfl) (zk_pure ?_) rfl
        refine z_iald hC dX8_shipOf_90 rl_1 (rd_1 (ca := ca) (ad := ad)) (by omega) (by omega) (by decide) ?_
        refine z_top (b := d (6 + k) w) ((rv_ship (by omega) (by omega)).symm.trans (congrFun (congrFun hd4 _) _)) ?_
        exact z_iret hC dX8_shipOf_91 ⟨by unfold qShip; rw [if_neg (by omega), if_pos (by omega), w_5], rSt_go hX hμ3f⟩
      · refine z_tableIn hC 80 dX8_shipOf_28 (by omega) (by omega) (by omega) (by rw [w_5]; rfl) (by decide) ?_
        refine z_aload_n hC dX8_shipOf_80 rfl ?_
        refine z_get hC iA_X8 rfl 0 (by decide) qF_X8_7 rfl dX8_shipOf_81 rl_0 (rd_0 (ca := ca) (ad := ad)) rfl ?_
        refine z_iconst hC dX8_shipOf_84 ?_
        refine z_iload_n hC dX8_shipOf_85 rfl ?_
        refine z_iload_n hC dX8_shipOf_86 rfl ?_
        refine z_callS hC [.int (iZ 0), .int (iZ k), .int (iZ w)] 3 rfl dX8_shipOf_87 (fun l => m_X8_shipAt l _ _ _ 0 k w) qM_X8_37 qT_X8_shipAt qi_X8 qC_X8_shipAt (by decide +kernel) (by decide) (by decide) (Nat.le_of_ble_eq_true rfl) (zk_pure ?_) rfl
        refine z_iald hC dX8_shipOf_90 rl_1 (rd_1 (ca := ca) (ad := ad)) (by omega) (by omega) (by decide) ?_
        refine z_top (b := d (6 + k) w) ((rv_ship (by omega) (by omega)).symm.trans (congrFun (congrFun hd4 _) _)) ?_
        exact z_iret hC dX8_shipOf_91 ⟨by unfold qShip; rw [if_neg (by omega), if_neg (by omega), if_pos (by omega), w_5], rSt_go hX hμ3f⟩
      · refine z_tableIn hC 80 dX8_shipOf_28 (by omega) (by omega) (by omega) (by rw [w_5]; rfl) (by decide) ?_
        refine z_aload_n hC dX8_shipOf_80 rfl ?_
        refine z_get hC iA_X8 rfl 0 (by decide) qF_X8_7 rfl dX8_shipOf_81 rl_0 (rd_0 (ca := ca) (ad := ad)) rfl ?_
        refine z_iconst hC dX8_shipOf_84 ?_
        refine z_iload_n hC dX8_shipOf_85 rfl ?_
        refine z_iload_n hC dX8_shipOf_86 rfl ?_
        refine z_callS hC [.int (iZ 0), .int (iZ k), .int (iZ w)] 3 rfl dX8_shipOf_87 (fun l => m_X8_shipAt l _ _ _ 0 k w) qM_X8_37 qT_X8_shipAt qi_X8 qC_X8_shipAt (by decide +kernel) (by decide) (by decide) (Nat.le_of_ble_eq_true rfl) (zk_pure ?_) rfl
        refine z_iald hC dX8_shipOf_90 rl_1 (rd_1 (ca := ca) (ad := ad)) (by omega) (by omega) (by decide) ?_
        refine z_top (b := d (6 + k) w) ((rv_ship (by omega) (by omega)).symm.trans (congrFun (congrFun hd4 _) _)) ?_
        exact z_iret hC dX8_shipOf_91 ⟨by unfold qShip; rw [if_neg (by omega), if_neg (by omega), if_neg (by omega), if_pos (by omega), w_5], rSt_go hX hμ3f⟩
      · refine z_tableIn hC 92 dX8_shipOf_28 (by omega) (by omega) (by omega) (by rw [w_5]; rfl) (by decide) ?_
        refine z_aload_n hC dX8_shipOf_92 rfl ?_
        refine z_get hC iA_X8 rfl 12 (by decide) qF_X8_63 rfl dX8_shipOf_93 rl_0 (rd_0 (ca := ca) (ad := ad)) rfl ?_
        refine z_top (b := (sEnd d k).1) (by rw [hμ3e12]) ?_
        exact z_iret hC dX8_shipOf_96 ⟨by unfold qShip; rw [if_neg (by omega), if_neg (by omega), if_neg (by omega), if_neg (by omega), if_pos (by omega)], rSt_go hX hμ3f⟩
      · refine z_tableIn hC 97 dX8_shipOf_28 (by omega) (by omega) (by omega) (by rw [w_5]; rfl) (by decide) ?_
        refine z_aload_n hC dX8_shipOf_97 rfl ?_
        refine z_get hC iA_X8 rfl 13 (by decide) qF_X8_66 rfl dX8_shipOf_98 rl_0 (rd_0 (ca := ca) (ad := ad)) rfl ?_
        refine z_top (b := (sEnd d k).2.1) (by rw [hμ3e13]) ?_
        exact z_iret hC dX8_shipOf_101 ⟨by unfold qShip; rw [if_neg (by omega), if_neg (by omega), if_neg (by omega), if_neg (by omega), if_neg (by omega), if_pos (by omega)], rSt_go hX hμ3f⟩
      · refine z_tableIn hC 102 dX8_shipOf_28 (by omega) (by omega) (by omega) (by rw [w_5]; rfl) (by decide) ?_
        refine z_aload_n hC dX8_shipOf_102 rfl ?_
        refine z_get hC iA_X8 rfl 0 (by decide) qF_X8_7 rfl dX8_shipOf_103 rl_0 (rd_0 (ca := ca) (ad := ad)) rfl ?_
        refine z_iconst hC dX8_shipOf_106 ?_
        refine z_iload_n hC dX8_shipOf_107 rfl ?_
        refine z_iconst hC dX8_shipOf_108 ?_
        refine z_callS hC [.int (iZ 0), .int (iZ k), .int (iZ 3)] 3 rfl dX8_shipOf_109 (fun l => m_X8_shipAt l _ _ _ 0 k 3) qM_X8_37 qT_X8_shipAt qi_X8 qC_X8_shipAt (by decide +kernel) (by decide) (by decide) (Nat.le_of_ble_eq_true rfl) (zk_pure ?_) rfl
        refine z_iald hC dX8_shipOf_112 rl_1 (rd_1 (ca := ca) (ad := ad)) (by omega) (by omega) (by decide) ?_
        refine z_top (b := d (6 + k) 3) ((rv_ship (by omega) (by omega)).symm.trans (congrFun (congrFun hd4 _) _)) ?_
        exact z_iret hC dX8_shipOf_113 ⟨by unfold qShip; rw [if_neg (by omega), if_neg (by omega), if_neg (by omega), if_neg (by omega), if_neg (by omega), if_neg (by omega), if_pos (by omega)], rSt_go hX hμ3f⟩
      · refine z_tableIn hC 114 dX8_shipOf_28 (by omega) (by omega) (by omega) (by rw [w_5]; rfl) (by decide) ?_
        refine z_aload_n hC dX8_shipOf_114 rfl ?_
        refine z_get hC iA_X8 rfl 0 (by decide) qF_X8_7 rfl dX8_shipOf_115 rl_0 (rd_0 (ca := ca) (ad := ad)) rfl ?_
        refine z_iconst hC dX8_shipOf_118 ?_
        refine z_iload_n hC dX8_shipOf_119 rfl ?_
        refine z_iconst hC dX8_shipOf_120 ?_
        refine z_callS hC [.int (iZ 0), .int (iZ k), .int (iZ 4)] 3 rfl dX8_shipOf_121 (fun l => m_X8_shipAt l _ _ _ 0 k 4) qM_X8_37 qT_X8_shipAt qi_X8 qC_X8_shipAt (by decide +kernel) (by decide) (by decide) (Nat.le_of_ble_eq_true rfl) (zk_pure ?_) rfl
        refine z_iald hC dX8_shipOf_124 rl_1 (rd_1 (ca := ca) (ad := ad)) (by omega) (by omega) (by decide) ?_
        refine z_top (b := d (6 + k) 4) ((rv_ship (by omega) (by omega)).symm.trans (congrFun (congrFun hd4 _) _)) ?_
        exact z_iret hC dX8_shipOf_125 ⟨by unfold qShip; rw [if_neg (by omega), if_neg (by omega), if_neg (by omega), if_neg (by omega), if_neg (by omega), if_neg (by omega), if_neg (by omega), if_pos (by omega)], rSt_go hX hμ3f⟩
      · refine z_tableIn hC 126 dX8_shipOf_28 (by omega) (by omega) (by omega) (by rw [w_5]; rfl) (by decide) ?_
        refine z_aload_n hC dX8_shipOf_126 rfl ?_
        refine z_get hC iA_X8 rfl 0 (by decide) qF_X8_7 rfl dX8_shipOf_127 rl_0 (rd_0 (ca := ca) (ad := ad)) rfl ?_
        refine z_iconst hC dX8_shipOf_130 ?_
        refine z_iload_n hC dX8_shipOf_131 rfl ?_
        refine z_bipush hC dX8_shipOf_132 (by decide) ?_
        refine z_callS hC [.int (iZ 0), .int (iZ k), .int (iZ 6)] 3 rfl dX8_shipOf_134 (fun l => m_X8_shipAt l _ _ _ 0 k 6) qM_X8_37 qT_X8_shipAt qi_X8 qC_X8_shipAt (by decide +kernel) (by decide) (by decide) (Nat.le_of_ble_eq_true rfl) (zk_pure ?_) rfl
        refine z_iald hC dX8_shipOf_137 rl_1 (rd_1 (ca := ca) (ad := ad)) (by omega) (by omega) (by decide) ?_
        refine z_top (b := d (6 + k) 6) ((rv_ship (by omega) (by omega)).symm.trans (congrFun (congrFun hd4 _) _)) ?_
        exact z_iret hC dX8_shipOf_138 ⟨by unfold qShip; rw [if_neg (by omega), if_neg (by omega), if_neg (by omega), if_neg (by omega), if_neg (by omega), if_neg (by omega), if_neg (by omega), if_neg (by omega), if_pos (by omega)], rSt_go hX hμ3f⟩
      · refine z_tableIn hC 139 dX8_shipOf_28 (by omega) (by omega) (by omega) (by rw [w_5]; rfl) (by decide) ?_
        refine z_aload_n hC dX8_shipOf_139 rfl ?_
        refine z_get hC iA_X8 rfl 0 (by decide) qF_X8_7 rfl dX8_shipOf_140 rl_0 (rd_0 (ca := ca) (ad := ad)) rfl ?_
        refine z_iconst hC dX8_shipOf_143 ?_
        refine z_iload_n hC dX8_shipOf_144 rfl ?_
        refine z_iconst hC dX8_shipOf_145 ?_
        refine z_callS hC [.int (iZ 0), .int (iZ k), .int (iZ 5)] 3 rfl dX8_shipOf_146 (fun l => m_X8_shipAt l _ _ _ 0 k 5) qM_X8_37 qT_X8_shipAt qi_X8 qC_X8_shipAt (by decide +kernel) (by decide) (by decide) (Nat.le_of_ble_eq_true rfl) (zk_pure ?_) rfl
        refine z_iald hC dX8_shipOf_149 rl_1 (rd_1 (ca := ca) (ad := ad)) (by omega) (by omega) (by decide) ?_
        refine z_top (b := d (6 + k) 5) ((rv_ship (by omega) (by omega)).symm.trans (congrFun (congrFun hd4 _) _)) ?_
        refine z_ldc hC (1000000) qc_X8_129 rfl dX8_shipOf_150 ?_
        refine z_iadd hC dX8_shipOf_152 ?_
        exact z_iret hC dX8_shipOf_153 ⟨by unfold qShip; rw [if_neg (by omega), if_neg (by omega), if_neg (by omega), if_neg (by omega), if_neg (by omega), if_neg (by omega), if_neg (by omega), if_neg (by omega), if_neg (by omega), if_pos (by omega)], rSt_go hX hμ3f⟩
      · refine z_tableOut hC 154 dX8_shipOf_28 (by omega) (by omega) (by decide) ?_
        refine z_aload_n hC dX8_shipOf_154 rfl ?_
        refine z_get hC iA_X8 rfl 14 (by decide) qF_X8_69 rfl dX8_shipOf_155 rl_0 (rd_0 (ca := ca) (ad := ad)) rfl ?_
        refine z_top (b := (sEnd d k).2.2) (by rw [hμ3e14]) ?_
        refine z_ldc hC (1000000) qc_X8_129 rfl dX8_shipOf_158 ?_
        refine z_iadd hC dX8_shipOf_160 ?_
        exact z_iret hC dX8_shipOf_161 ⟨by unfold qShip; rw [if_neg (by omega), if_neg (by omega), if_neg (by omega), if_neg (by omega), if_neg (by omega), if_neg (by omega), if_neg (by omega), if_neg (by omega), if_neg (by omega), if_neg (by omega), if_pos (by omega)], rSt_go hX hμ3f⟩
    · refine z_ldc hC (-1000001) qc_X8_24 rfl dX8_shipOf_18 ?_
      have e9 : qShip d k w = -1000001 := by
        unfold qShip
        by_cases q9 : 0 ≤ k ∧ k < d 0 4
        · rw [if_neg (by omega), if_neg (by omega), if_neg (by omega), if_neg (by omega), if_neg (by omega), if_neg (by omega), if_neg (by omega), if_neg (by omega), if_neg (by omega), if_neg (by omega), if_neg (by omega)]
        · rw [if_pos (by omega)]
      exact z_iret hC dX8_shipOf_20 ⟨by rw [e9], hX⟩

set_option maxHeartbeats 4000000 in
set_option maxRecDepth 100000 in
/-- fixtureOf -/
theorem m_X8_fixtureOf (l : Launch) (G : va_G) (ca : Nat → ClassId) (ad : Int → Nat) (A : Nat → Prop) (μ : zM) (d : zM) (n : Int) (h : Int → zM) (L : Int) (t : Int → Int) (hX : rSt μ d n h L t) (hI : zInv d) (k p w : Int) (hk : -2147483648 ≤ k ∧ k ≤ 2147483647) (hp : -2147483648 ≤ p ∧ p ≤ 2147483647) (hw : -2147483648 ≤ w ∧ w ≤ 2147483647) : zMet l (rω G ca ad) A yX8_fixtureOf cX8_fixtureOf 5 (some .int) 5 121 [.ref (ad 0), .int (iZ k), .int (iZ p), .int (iZ w)] μ (zpI (.int (iZ (qFixt d k p w))) (fun μ' => rSt μ' d n h L t)) := by
  refine zMet_of (by decide) (Nat.le_of_ble_eq_true rfl) (fun Γ hC => ?_)
  show Z Γ _ μ 0 [(0, .ref (ad 0)), (1, .int (iZ k)), (2, .int (iZ p)), (3, .int (iZ w))] []
  obtain ⟨hB, hf5, hf6, hIF, hIS, hII, hIL⟩ := id hI
  obtain ⟨hN, hP, hB3, hB4⟩ := id hB
  obtain ⟨hN1, hN2⟩ := id hN
  refine z_aload_n hC dX8_fixtureOf_0 rfl ?_
  refine z_iload_n hC dX8_fixtureOf_1 rfl ?_
  refine z_callV hC [.int (iZ k)] 1 rfl dX8_fixtureOf_2 (fun l => m_X8_isShip l G ca ad _ μ d hX.1 k (by omega) (by omega)) qM_X8_91 qI_X8_isShip qS_X8_isShip qi_X8 qC_X8_isShip (by decide +kernel) (by decide) (by decide) rl_0 (rd_0 (ca := ca) (ad := ad)) rfl (Nat.le_of_ble_eq_true rfl) (zk_pure ?_) rfl
  refine z_ifb_eq hC 21 dX8_fixtureOf_5 (by decide) (fun c_1 => ?_) (fun c_1 => ?_)
  · refine z_ldc hC (-1000001) qc_X8_24 rfl dX8_fixtureOf_21 ?_
    exact z_iret hC dX8_fixtureOf_23 ⟨by unfold qFixt; rw [if_pos (by omega)], hX⟩
  · refine z_iload_n hC dX8_fixtureOf_8 rfl ?_
    refine z_if_lt hC 21 dX8_fixtureOf_9 (by decide) (by omega) (fun c_2 => ?_) (fun c_2 => ?_)
    · refine z_ldc hC (-1000001) qc_X8_24 rfl dX8_fixtureOf_21 ?_
      exact z_iret hC dX8_fixtureOf_23 ⟨by unfold qFixt; rw [if_pos (by omega)], hX⟩
    · refine z_iload_n hC dX8_fixtureOf_12 rfl ?_
      refine z_iconst hC dX8_fixtureOf_13 ?_
      refine z_iconst hC dX8_fixtureOf_14 ?_
      refine z_callS hC [.int (iZ w), .int (iZ 0), .int (iZ 5)] 3 rfl dX8_fixtureOf_15 (fun l => m_X8_in l _ _ _ w 0 5 (by omega) (by omega) (by omega)) qM_X8_29 qT_X8_in qi_X8 qC_X8_in (by decide +kernel) (by decide) (by decide) (Nat.le_of_ble_eq_true rfl) (zk_pure ?_) rfl
      refine z_ifb_ne hC 24 dX8_fixtureOf_18 (by decide) (fun c_3 => ?_) (fun c_3 => ?_)
      · obtain ⟨hs0, hs1, hs2, hs3, hs4, hs6⟩ := hB3 k (by omega)
        refine z_iload_n hC dX8_fixtureOf_24 rfl ?_
        refine z_aload_n hC dX8_fixtureOf_25 rfl ?_
        refine z_get hC iA_X8 rfl 0 (by decide) qF_X8_7 rfl dX8_fixtureOf_26 rl_0 (rd_0 (ca := ca) (ad := ad)) rfl ?_
        refine z_iconst hC dX8_fixtureOf_29 ?_
        refine z_iload_n hC dX8_fixtureOf_30 rfl ?_
        refine z_bipush hC dX8_fixtureOf_31 (by decide) ?_
        refine z_callS hC [.int (iZ 0), .int (iZ k), .int (iZ 6)] 3 rfl dX8_fixtureOf_33 (fun l => m_X8_shipAt l _ _ _ 0 k 6) qM_X8_37 qT_X8_shipAt qi_X8 qC_X8_shipAt (by decide +kernel) (by decide) (by decide) (Nat.le_of_ble_eq_true rfl) (zk_pure ?_) rfl
        refine z_iald hC dX8_fixtureOf_36 rl_1 (rd_1 (ca := ca) (ad := ad)) (by omega) (by omega) (by decide) ?_
        refine z_top (b := d (6 + k) 6) ((rv_ship (by omega) (by omega)).symm.trans (congrFun (congrFun hX.1 _) _)) ?_
        refine z_icmp_lt hC 43 dX8_fixtureOf_37 (by decide) (by omega) (by omega) (fun c_4 => ?_) (fun c_4 => ?_)
        · refine z_aload_n hC dX8_fixtureOf_43 rfl ?_
          refine z_get hC iA_X8 rfl 0 (by decide) qF_X8_7 rfl dX8_fixtureOf_44 rl_0 (rd_0 (ca := ca) (ad := ad)) rfl ?_
          refine z_iconst hC dX8_fixtureOf_47 ?_
          refine z_iload_n hC dX8_fixtureOf_48 rfl ?_
          refine z_bipush hC dX8_fixtureOf_49 (by decide) ?_
          refine z_iload_n hC dX8_fixtureOf_51 rfl ?_
          refine z_iadd hC dX8_fixtureOf_52 ?_
          refine z_callS hC [.int (iZ 0), .int (iZ k), .int (iZ (7 + p))] 3 rfl dX8_fixtureOf_53 (fun l => m_X8_shipAt l _ _ _ 0 k (7 + p)) qM_X8_37 qT_X8_shipAt qi_X8 qC_X8_shipAt (by decide +kernel) (by decide) (by decide) (Nat.le_of_ble_eq_true rfl) (zk_pure ?_) rfl
          refine z_iald hC dX8_fixtureOf_56 rl_1 (rd_1 (ca := ca) (ad := ad)) (by omega) (by omega) (by decide) ?_
          refine z_top (b := d (11 + k) p) ((rv_fx (by omega) (by omega)).symm.trans (congrFun (congrFun hX.1 _) _)) ?_
          refine z_istore hC dX8_fixtureOf_57 (by decide) rfl ?_
          have hx9 := hIF k (by omega) p (by omega)
          obtain ⟨hc0, hc1, hc2, hc3, hc4, hc5, hc6⟩ := hB4 _ hx9
          refine z_aload_n hC dX8_fixtureOf_59 rfl ?_
          refine z_iconst hC dX8_fixtureOf_60 ?_
          refine z_iload_n hC dX8_fixtureOf_61 rfl ?_
          refine z_iload_n hC dX8_fixtureOf_62 rfl ?_
          have hpn : ((p.toNat : Nat) : Int) = p := Int.toNat_of_nonneg (by omega)
          have hNe := sNum_e (d := d) (k := k) (by omega)
          have hfk : fOk d k p.toNat := fun n hn => fOk_of hI (by omega) n (by omega)
          have hg9 := sPos_b hB (k := k) (by omega) p.toNat (fun m hm => hfk m hm) (fun m hm => late_of hI (by omega) m (by omega))
          have hsg : (0 ≤ (sAt d k p).1 ∧ (sAt d k p).1 ≤ 7) ∧ (0 ≤ (sAt d k p).2.1 ∧ (sAt d k p).2.1 ≤ 1999) := hg9
          refine z_callV hC [.int (iZ 0), .int (iZ k), .int (iZ p)] 3 rfl dX8_fixtureOf_63 (fun l => m_X8_goes l G ca ad _ μ d hX.1 0 (by omega) d hX.1 (fun _ => ⟨rfl, rfl⟩) hP k p p.toNat hB (by omega) hpn (by omega) hfk) qM_X8_83 qI_X8_goes qS_X8_goes qi_X8 qC_X8_goes (by decide +kernel) (by decide) (by decide) rl_0 (rd_0 (ca := ca) (ad := ad)) rfl (Nat.le_of_ble_eq_true rfl) (zk_void (fun μ5 hμ5 => ?_)) rfl
          obtain ⟨hμ5f, hμ5g⟩ := id hμ5
          rw [show sTime d k p.toNat 0 = p.toNat by rw [sTime_all p.toNat 0 (fun m hm => late_of hI (by omega) m (by omega))]; omega] at hμ5g
          have hp12 : μ5 0 12 = (sAt d k p).1 := hμ5g.1
          have hp13 : μ5 0 13 = (sAt d k p).2.1 := hμ5g.2.1
          have hd6 : rv μ5 0 = d := by rw [rv_fr hμ5f]; exact hX.1
          refine z_aload_n hC dX8_fixtureOf_66 rfl ?_
          refine z_iconst hC dX8_fixtureOf_67 ?_
          refine z_iload_n hC dX8_fixtureOf_68 rfl ?_
          refine z_iload hC dX8_fixtureOf_69 rfl ?_
          refine z_aload_n hC dX8_fixtureOf_71 rfl ?_
          refine z_get hC iA_X8 rfl 12 (by decide) qF_X8_63 rfl dX8_fixtureOf_72 rl_0 (rd_0 (ca := ca) (ad := ad)) rfl ?_
          refine z_top (b := (sAt d k p).1) (by rw [hp12]) ?_
          refine z_aload_n hC dX8_fixtureOf_75 rfl ?_
          refine z_get hC iA_X8 rfl 13 (by decide) qF_X8_66 rfl dX8_fixtureOf_76 rl_0 (rd_0 (ca := ca) (ad := ad)) rfl ?_
          refine z_top (b := (sAt d k p).2.1) (by rw [hp13]) ?_
          refine z_callV hC [.int (iZ 0), .int (iZ k), .int (iZ (d (11 + k) p)), .int (iZ ((sAt d k p).1)), .int (iZ ((sAt d k p).2.1))] 5 rfl dX8_fixtureOf_79 (fun l => m_X8_looks l G ca ad _ μ5 d hd6 0 (by omega) d hd6 (fun _ => ⟨rfl, rfl⟩) hP k (d (11 + k) p) ((sAt d k p).1) ((sAt d k p).2.1) (by omega) (by omega) (by omega) (hB4 _ hx9) (by omega) (by omega)) qM_X8_75 qI_X8_looks qS_X8_looks qi_X8 qC_X8_looks (by decide +kernel) (by decide) (by decide) rl_0 (rd_0 (ca := ca) (ad := ad)) rfl (Nat.le_of_ble_eq_true rfl) (zk_void (fun μ7 hμ7 => ?_)) rfl
          obtain ⟨hμ7f, hμ7k, hμ78, hμ79, hμ7a, hμ7b⟩ := id hμ7
          have hd8 : rv μ7 0 = d := by rw [rv_fr hμ7f]; exact hd6
          refine z_iload_n hC dX8_fixtureOf_82 rfl ?_
          rcases (show w = 0 ∨ w = 1 ∨ w = 2 ∨ w = 3 ∨ w = 4 ∨ (w < 0 ∨ 4 < w) by omega) with w_9 | w_9 | w_9 | w_9 | w_9 | w_9
          · refine z_tableIn hC 116 dX8_fixtureOf_83 (by omega) (by omega) (by omega) (by rw [w_9]; rfl) (by decide) ?_
            refine z_iload hC dX8_fixtureOf_116 rfl ?_
            exact z_iret hC dX8_fixtureOf_118 ⟨by unfold qFixt; rw [if_neg (by omega), if_neg (by omega), if_pos (by omega)]; try rfl, rSt_go hX (rFr_tr hμ5f hμ7f)⟩
          · refine z_tableIn hC 119 dX8_fixtureOf_83 (by omega) (by omega) (by omega) (by rw [w_9]; rfl) (by decide) ?_
            refine z_aload_n hC dX8_fixtureOf_119 rfl ?_
            refine z_get hC iA_X8 rfl 8 (by decide) qF_X8_51 rfl dX8_fixtureOf_120 rl_0 (rd_0 (ca := ca) (ad := ad)) rfl ?_
            refine z_top (b := sArr d k (d (11 + k) p) ((sAt d k p).1) ((sAt d k p).2.1)) (by rw [hμ78]) ?_
            exact z_iret hC dX8_fixtureOf_123 ⟨by unfold qFixt; rw [if_neg (by omega), if_neg (by omega), if_neg (by omega), if_pos (by omega)]; try rfl, rSt_go hX (rFr_tr hμ5f hμ7f)⟩
          · refine z_tableIn hC 124 dX8_fixtureOf_83 (by omega) (by omega) (by omega) (by rw [w_9]; rfl) (by decide) ?_
            refine z_aload_n hC dX8_fixtureOf_124 rfl ?_
            refine z_get hC iA_X8 rfl 9 (by decide) qF_X8_54 rfl dX8_fixtureOf_125 rl_0 (rd_0 (ca := ca) (ad := ad)) rfl ?_
            refine z_top (b := sLoad d k (d (11 + k) p) ((sAt d k p).1) ((sAt d k p).2.1)) (by rw [hμ79]) ?_
            exact z_iret hC dX8_fixtureOf_128 ⟨by unfold qFixt; rw [if_neg (by omega), if_neg (by omega), if_neg (by omega), if_neg (by omega), if_pos (by omega)]; try rfl, rSt_go hX (rFr_tr hμ5f hμ7f)⟩
          · refine z_tableIn hC 129 dX8_fixtureOf_83 (by omega) (by omega) (by omega) (by rw [w_9]; rfl) (by decide) ?_
            refine z_aload_n hC dX8_fixtureOf_129 rfl ?_
            refine z_get hC iA_X8 rfl 10 (by decide) qF_X8_57 rfl dX8_fixtureOf_130 rl_0 (rd_0 (ca := ca) (ad := ad)) rfl ?_
            refine z_top (b := sFree d k (d (11 + k) p) ((sAt d k p).1) ((sAt d k p).2.1)) (by rw [hμ7a]) ?_
            exact z_iret hC dX8_fixtureOf_133 ⟨by unfold qFixt; rw [if_neg (by omega), if_neg (by omega), if_neg (by omega), if_neg (by omega), if_neg (by omega), if_pos (by omega)]; try rfl, rSt_go hX (rFr_tr hμ5f hμ7f)⟩
          · refine z_tableIn hC 134 dX8_fixtureOf_83 (by omega) (by omega) (by omega) (by rw [w_9]; rfl) (by decide) ?_
            refine z_aload_n hC dX8_fixtureOf_134 rfl ?_
            refine z_get hC iA_X8 rfl 11 (by decide) qF_X8_60 rfl dX8_fixtureOf_135 rl_0 (rd_0 (ca := ca) (ad := ad)) rfl ?_
            refine z_top (b := sEarn d k (d (11 + k) p) ((sAt d k p).1) ((sAt d k p).2.1)) (by rw [hμ7b]) ?_
            refine z_ldc hC (1000000) qc_X8_129 rfl dX8_fixtureOf_138 ?_
            refine z_iadd hC dX8_fixtureOf_140 ?_
            exact z_iret hC dX8_fixtureOf_141 ⟨by unfold qFixt; rw [if_neg (by omega), if_neg (by omega), if_neg (by omega), if_neg (by omega), if_neg (by omega), if_neg (by omega), if_pos (by omega)]; try rfl, rSt_go hX (rFr_tr hμ5f hμ7f)⟩
          · refine z_tableOut hC 142 dX8_fixtureOf_83 (by omega) (by omega) (by decide) ?_
            refine z_aload_n hC dX8_fixtureOf_142 rfl ?_
            refine z_get hC iA_X8 rfl 0 (by decide) qF_X8_7 rfl dX8_fixtureOf_143 rl_0 (rd_0 (ca := ca) (ad := ad)) rfl ?_
            refine z_iconst hC dX8_fixtureOf_146 ?_
            refine z_iload hC dX8_fixtureOf_147 rfl ?_
            refine z_iconst hC dX8_fixtureOf_149 ?_
            refine z_callS hC [.int (iZ 0), .int (iZ (d (11 + k) p)), .int (iZ 4)] 3 rfl dX8_fixtureOf_150 (fun l => m_X8_cargoAt l _ _ _ 0 (d (11 + k) p) 4) qM_X8_44 qT_X8_cargoAt qi_X8 qC_X8_cargoAt (by decide +kernel) (by decide) (by decide) (Nat.le_of_ble_eq_true rfl) (zk_pure ?_) rfl
            refine z_iald hC dX8_fixtureOf_153 rl_1 (rd_1 (ca := ca) (ad := ad)) (by omega) (by omega) (by decide) ?_
            refine z_top (b := d (16 + (d (11 + k) p)) 4) ((rv_cargo (by omega) (by omega)).symm.trans (congrFun (congrFun hd8 _) _)) ?_
            refine z_aload_n hC dX8_fixtureOf_154 rfl ?_
            refine z_get hC iA_X8 rfl 8 (by decide) qF_X8_51 rfl dX8_fixtureOf_155 rl_0 (rd_0 (ca := ca) (ad := ad)) rfl ?_
            refine z_top (b := sArr d k (d (11 + k) p) ((sAt d k p).1) ((sAt d k p).2.1)) (by rw [hμ78]) ?_
            refine z_isub hC dX8_fixtureOf_158 ?_
            exact z_iret hC dX8_fixtureOf_159 ⟨by unfold qFixt; rw [if_neg (by omega), if_neg (by omega), if_neg (by omega), if_neg (by omega), if_neg (by omega), if_neg (by omega), if_neg (by omega)]; try rfl, rSt_go hX (rFr_tr hμ5f hμ7f)⟩
        · refine z_ldc hC (-1000004) qc_X8_130 rfl dX8_fixtureOf_40 ?_
          exact z_iret hC dX8_fixtureOf_42 ⟨by unfold qFixt; rw [if_neg (by omega), if_pos (by omega)], hX⟩
      · refine z_ldc hC (-1000001) qc_X8_24 rfl dX8_fixtureOf_21 ?_
        exact z_iret hC dX8_fixtureOf_23 ⟨by unfold qFixt; rw [if_pos (by omega)], hX⟩

set_option maxHeartbeats 4000000 in
set_option maxRecDepth 100000 in
/-- ship -/
theorem m_X8_ship (l : Launch) (G : va_G) (ca : Nat → ClassId) (ad : Int → Nat) (A : Nat → Prop) (μ : zM) (d : zM) (n : Int) (h : Int → zM) (L : Int) (t : Int → Int) (hX : rSt μ d n h L t) (hI : zInv d) (z v u p w : Int) (hz : -2147483648 ≤ z ∧ z ≤ 2147483647) (hv : -2147483648 ≤ v ∧ v ≤ 2147483647) (hu : -2147483648 ≤ u ∧ u ≤ 2147483647) (hp : -2147483648 ≤ p ∧ p ≤ 2147483647) (hw : -2147483648 ≤ w ∧ w ≤ 2147483647) (hr : (-2147483648 ≤ (opShip d z v u p w).1 ∧ (opShip d z v u p w).1 ≤ 2147483647) ∧ -1000004 ≤ (opShip d z v u p w).1 ∧ ((opShip d z v u p w).1 ≤ -1000001 → (opShip d z v u p w).2 = d)) : zMet l (rω G ca ad) A yX8_ship cX8_ship 6 (some .int) 2 48 [.ref (ad 0), .int (iZ z), .int (iZ v), .int (iZ u), .int (iZ p), .int (iZ w)] μ (zpI (.int (iZ (opShip d z v u p w).1)) (fun μ' => rStK μ' (sKeep (opShip d z v u p w) d n h) L t)) := by
  refine zMet_of (by decide) (Nat.le_of_ble_eq_true rfl) (fun Γ hC => ?_)
  show Z Γ _ μ 0 [(0, .ref (ad 0)), (1, .int (iZ z)), (2, .int (iZ v)), (3, .int (iZ u)), (4, .int (iZ p)), (5, .int (iZ w))] []
  refine z_aload_n hC dX8_ship_0 rfl ?_
  refine z_callV hC [] 0 rfl dX8_ship_1 (fun l => m_X8_keeps l G ca ad _ μ) qM_X8_109 qI_X8_keeps qS_X8_keeps qi_X8 qC_X8_keeps (by decide +kernel) (by decide) (by decide) rl_0 (rd_0 (ca := ca) (ad := ad)) rfl (Nat.le_of_ble_eq_true rfl) (zk_void (fun μ1 hμ1 => ?_)) rfl
  obtain ⟨hμ1v, hμ1f⟩ := id hμ1
  have hk0 : rv μ1 0 = d := (rF1_v hμ1f (by omega)).trans hX.1
  have hk6 : rv μ1 6 = d := hμ1v.trans hX.1
  refine z_aload_n hC dX8_ship_4 rfl ?_
  refine z_aload_n hC dX8_ship_5 rfl ?_
  refine z_iload_n hC dX8_ship_6 rfl ?_
  refine z_iload_n hC dX8_ship_7 rfl ?_
  refine z_iload_n hC dX8_ship_8 rfl ?_
  refine z_iload hC dX8_ship_9 rfl ?_
  refine z_iload hC dX8_ship_11 rfl ?_
  refine z_callV hC [.int (iZ z), .int (iZ v), .int (iZ u), .int (iZ p), .int (iZ w)] 5 rfl dX8_ship_13 (fun l => m_X8_doShip l G ca ad _ μ1 d hk0 z v u p w (by omega) (by omega) (by omega) (by omega) (by omega) hI) qM_X8_115 qI_X8_doShip qS_X8_doShip qi_X8 qC_X8_doShip (by decide +kernel) (by decide) (by decide) rl_0 (rd_0 (ca := ca) (ad := ad)) rfl (Nat.le_of_ble_eq_true rfl) (zk_int (fun μ2 hμ2 => ?_)) rfl
  obtain ⟨hμ2v, hμ2l⟩ := id hμ2
  have hHi : rHi μ2 n h := rHi_fr hX.2.1 (by rw [hμ2l.2.1 1 (by omega), hμ1f.1 0 (by omega)]) (fun x hx => by rw [hμ2l.2.2 x (by omega), hμ1f.2 x (by omega)])
  have hv6 : rv μ2 6 = d := (rv_eq (fun o i hr => hμ2l.2.2 _ (by have := rp_b hr; omega))).trans hk6
  refine z_callV hC [.int (iZ ((opShip d z v u p w).1))] 1 rfl dX8_ship_16 (fun l => m_X8_acted l G ca ad _ μ2 (opShip d z v u p w).1 hr.1 n h hHi) qM_X8_112 qI_X8_acted qS_X8_acted qi_X8 qC_X8_acted (by decide +kernel) (by decide) (by decide) rl_0 (rd_0 (ca := ca) (ad := ad)) rfl (Nat.le_of_ble_eq_true rfl) (zk_int (fun μ3 hμ3 => ?_)) rfl
  refine z_iret hC dX8_ship_19 ⟨rfl, ?_⟩
  unfold rAct at hμ3
  unfold rStK sKeep
  by_cases q9 : -1000001 < (opShip d z v u p w).1
  · rw [if_pos q9] at hμ3
    obtain ⟨a1, a2, a3, a4⟩ := hμ3
    rw [if_neg (by omega)]
    rw [hv6] at a1
    exact ⟨a2.trans hμ2v, a1, by rw [a4 3 (by omega), hμ2l.2.1 3 (by omega), hμ1f.1 0 (by omega)]; exact hX.2.2.1, hX.2.2.2.1, fun i hi => by rw [a3 2 (by omega), hμ2l.1 2 (by omega), hμ1f.1 2 (by omega)]; exact hX.2.2.2.2 i hi⟩
  · rw [if_neg q9] at hμ3
    rw [hμ3, if_pos (by omega)]
    exact ⟨hμ2v.trans (hr.2.2 (by omega)), hHi, by rw [hμ2l.2.1 3 (by omega), hμ1f.1 0 (by omega)]; exact hX.2.2.1, hX.2.2.2.1, fun i hi => by rw [hμ2l.1 2 (by omega), hμ1f.1 2 (by omega)]; exact hX.2.2.2.2 i hi⟩

set_option maxHeartbeats 4000000 in
set_option maxRecDepth 100000 in
/-- cargo -/
theorem m_X8_cargo (l : Launch) (G : va_G) (ca : Nat → ClassId) (ad : Int → Nat) (A : Nat → Prop) (μ : zM) (d : zM) (n : Int) (h : Int → zM) (L : Int) (t : Int → Int) (hX : rSt μ d n h L t) (hI : zInv d) (a g u f v w : Int) (ha : -2147483648 ≤ a ∧ a ≤ 2147483647) (hg : -2147483648 ≤ g ∧ g ≤ 2147483647) (hu : -2147483648 ≤ u ∧ u ≤ 2147483647) (hf : -2147483648 ≤ f ∧ f ≤ 2147483647) (hv : -2147483648 ≤ v ∧ v ≤ 2147483647) (hw : -2147483648 ≤ w ∧ w ≤ 2147483647) (hr : (-2147483648 ≤ (opCargo d a g u f v w).1 ∧ (opCargo d a g u f v w).1 ≤ 2147483647) ∧ -1000004 ≤ (opCargo d a g u f v w).1 ∧ ((opCargo d a g u f v w).1 ≤ -1000001 → (opCargo d a g u f v w).2 = d)) : zMet l (rω G ca ad) A yX8_cargo cX8_cargo 7 (some .int) 2 49 [.ref (ad 0), .int (iZ a), .int (iZ g), .int (iZ u), .int (iZ f), .int (iZ v), .int (iZ w)] μ (zpI (.int (iZ (opCargo d a g u f v w).1)) (fun μ' => rStK μ' (sKeep (opCargo d a g u f v w) d n h) L t)) := by
  refine zMet_of (by decide) (Nat.le_of_ble_eq_true rfl) (fun Γ hC => ?_)
  show Z Γ _ μ 0 [(0, .ref (ad 0)), (1, .int (iZ a)), (2, .int (iZ g)), (3, .int (iZ u)), (4, .int (iZ f)), (5, .int (iZ v)), (6, .int (iZ w))] []
  refine z_aload_n hC dX8_cargo_0 rfl ?_
  refine z_callV hC [] 0 rfl dX8_cargo_1 (fun l => m_X8_keeps l G ca ad _ μ) qM_X8_109 qI_X8_keeps qS_X8_keeps qi_X8 qC_X8_keeps (by decide +kernel) (by decide) (by decide) rl_0 (rd_0 (ca := ca) (ad := ad)) rfl (Nat.le_of_ble_eq_true rfl) (zk_void (fun μ1 hμ1 => ?_)) rfl
  obtain ⟨hμ1v, hμ1f⟩ := id hμ1
  have hk0 : rv μ1 0 = d := (rF1_v hμ1f (by omega)).trans hX.1
  have hk6 : rv μ1 6 = d := hμ1v.trans hX.1
  refine z_aload_n hC dX8_cargo_4 rfl ?_
  refine z_aload_n hC dX8_cargo_5 rfl ?_
  refine z_iload_n hC dX8_cargo_6 rfl ?_
  refine z_iload_n hC dX8_cargo_7 rfl ?_
  refine z_iload_n hC dX8_cargo_8 rfl ?_
  refine z_iload hC dX8_cargo_9 rfl ?_
  refine z_iload hC dX8_cargo_11 rfl ?_
  refine z_iload hC dX8_cargo_13 rfl ?_
  refine z_callV hC [.int (iZ a), .int (iZ g), .int (iZ u), .int (iZ f), .int (iZ v), .int (iZ w)] 6 rfl dX8_cargo_15 (fun l => m_X8_doCargo l G ca ad _ μ1 d hk0 a g u f v w (by omega) (by omega) (by omega) (by omega) (by omega) (by omega) hI) qM_X8_119 qI_X8_doCargo qS_X8_doCargo qi_X8 qC_X8_doCargo (by decide +kernel) (by decide) (by decide) rl_0 (rd_0 (ca := ca) (ad := ad)) rfl (Nat.le_of_ble_eq_true rfl) (zk_int (fun μ2 hμ2 => ?_)) rfl
  obtain ⟨hμ2v, hμ2l⟩ := id hμ2
  have hHi : rHi μ2 n h := rHi_fr hX.2.1 (by rw [hμ2l.2.1 1 (by omega), hμ1f.1 0 (by omega)]) (fun x hx => by rw [hμ2l.2.2 x (by omega), hμ1f.2 x (by omega)])
  have hv6 : rv μ2 6 = d := (rv_eq (fun o i hr => hμ2l.2.2 _ (by have := rp_b hr; omega))).trans hk6
  refine z_callV hC [.int (iZ ((opCargo d a g u f v w).1))] 1 rfl dX8_cargo_18 (fun l => m_X8_acted l G ca ad _ μ2 (opCargo d a g u f v w).1 hr.1 n h hHi) qM_X8_112 qI_X8_acted qS_X8_acted qi_X8 qC_X8_acted (by decide +kernel) (by decide) (by decide) rl_0 (rd_0 (ca := ca) (ad := ad)) rfl (Nat.le_of_ble_eq_true rfl) (zk_int (fun μ3 hμ3 => ?_)) rfl
  refine z_iret hC dX8_cargo_21 ⟨rfl, ?_⟩
  unfold rAct at hμ3
  unfold rStK sKeep
  by_cases q9 : -1000001 < (opCargo d a g u f v w).1
  · rw [if_pos q9] at hμ3
    obtain ⟨a1, a2, a3, a4⟩ := hμ3
    rw [if_neg (by omega)]
    rw [hv6] at a1
    exact ⟨a2.trans hμ2v, a1, by rw [a4 3 (by omega), hμ2l.2.1 3 (by omega), hμ1f.1 0 (by omega)]; exact hX.2.2.1, hX.2.2.2.1, fun i hi => by rw [a3 2 (by omega), hμ2l.1 2 (by omega), hμ1f.1 2 (by omega)]; exact hX.2.2.2.2 i hi⟩
  · rw [if_neg q9] at hμ3
    rw [hμ3, if_pos (by omega)]
    exact ⟨hμ2v.trans (hr.2.2 (by omega)), hHi, by rw [hμ2l.2.1 3 (by omega), hμ1f.1 0 (by omega)]; exact hX.2.2.1, hX.2.2.2.1, fun i hi => by rw [hμ2l.1 2 (by omega), hμ1f.1 2 (by omega)]; exact hX.2.2.2.2 i hi⟩

set_option maxHeartbeats 4000000 in
set_option maxRecDepth 100000 in
/-- fix -/
theorem m_X8_fix (l : Launch) (G : va_G) (ca : Nat → ClassId) (ad : Int → Nat) (A : Nat → Prop) (μ : zM) (d : zM) (n : Int) (h : Int → zM) (L : Int) (t : Int → Int) (hX : rSt μ d n h L t) (hI : zInv d) (k c : Int) (hk : -2147483648 ≤ k ∧ k ≤ 2147483647) (hc : -2147483648 ≤ c ∧ c ≤ 2147483647) (hr : (-2147483648 ≤ (opFix d k c).1 ∧ (opFix d k c).1 ≤ 2147483647) ∧ -1000004 ≤ (opFix d k c).1 ∧ ((opFix d k c).1 ≤ -1000001 → (opFix d k c).2 = d)) : zMet l (rω G ca ad) A yX8_fix cX8_fix 3 (some .int) 8 188 [.ref (ad 0), .int (iZ k), .int (iZ c)] μ (zpI (.int (iZ (opFix d k c).1)) (fun μ' => rStK μ' (sKeep (opFix d k c) d n h) L t)) := by
  refine zMet_of (by decide) (Nat.le_of_ble_eq_true rfl) (fun Γ hC => ?_)
  show Z Γ _ μ 0 [(0, .ref (ad 0)), (1, .int (iZ k)), (2, .int (iZ c))] []
  refine z_aload_n hC dX8_fix_0 rfl ?_
  refine z_callV hC [] 0 rfl dX8_fix_1 (fun l => m_X8_keeps l G ca ad _ μ) qM_X8_109 qI_X8_keeps qS_X8_keeps qi_X8 qC_X8_keeps (by decide +kernel) (by decide) (by decide) rl_0 (rd_0 (ca := ca) (ad := ad)) rfl (Nat.le_of_ble_eq_true rfl) (zk_void (fun μ1 hμ1 => ?_)) rfl
  obtain ⟨hμ1v, hμ1f⟩ := id hμ1
  have hk0 : rv μ1 0 = d := (rF1_v hμ1f (by omega)).trans hX.1
  have hk6 : rv μ1 6 = d := hμ1v.trans hX.1
  refine z_aload_n hC dX8_fix_4 rfl ?_
  refine z_aload_n hC dX8_fix_5 rfl ?_
  refine z_iload_n hC dX8_fix_6 rfl ?_
  refine z_iload_n hC dX8_fix_7 rfl ?_
  refine z_callV hC [.int (iZ k), .int (iZ c)] 2 rfl dX8_fix_8 (fun l => m_X8_doFix l G ca ad _ μ1 d hk0 k c (by omega) (by omega) hI) qM_X8_123 qI_X8_doFix qS_X8_doFix qi_X8 qC_X8_doFix (by decide +kernel) (by decide) (by decide) rl_0 (rd_0 (ca := ca) (ad := ad)) rfl (Nat.le_of_ble_eq_true rfl) (zk_int (fun μ2 hμ2 => ?_)) rfl
  obtain ⟨hμ2v, hμ2l⟩ := id hμ2
  have hHi : rHi μ2 n h := rHi_fr hX.2.1 (by rw [hμ2l.2.1 1 (by omega), hμ1f.1 0 (by omega)]) (fun x hx => by rw [hμ2l.2.2 x (by omega), hμ1f.2 x (by omega)])
  have hv6 : rv μ2 6 = d := (rv_eq (fun o i hr => hμ2l.2.2 _ (by have := rp_b hr; omega))).trans hk6
  refine z_callV hC [.int (iZ ((opFix d k c).1))] 1 rfl dX8_fix_11 (fun l => m_X8_acted l G ca ad _ μ2 (opFix d k c).1 hr.1 n h hHi) qM_X8_112 qI_X8_acted qS_X8_acted qi_X8 qC_X8_acted (by decide +kernel) (by decide) (by decide) rl_0 (rd_0 (ca := ca) (ad := ad)) rfl (Nat.le_of_ble_eq_true rfl) (zk_int (fun μ3 hμ3 => ?_)) rfl
  refine z_iret hC dX8_fix_14 ⟨rfl, ?_⟩
  unfold rAct at hμ3
  unfold rStK sKeep
  by_cases q9 : -1000001 < (opFix d k c).1
  · rw [if_pos q9] at hμ3
    obtain ⟨a1, a2, a3, a4⟩ := hμ3
    rw [if_neg (by omega)]
    rw [hv6] at a1
    exact ⟨a2.trans hμ2v, a1, by rw [a4 3 (by omega), hμ2l.2.1 3 (by omega), hμ1f.1 0 (by omega)]; exact hX.2.2.1, hX.2.2.2.1, fun i hi => by rw [a3 2 (by omega), hμ2l.1 2 (by omega), hμ1f.1 2 (by omega)]; exact hX.2.2.2.2 i hi⟩
  · rw [if_neg q9] at hμ3
    rw [hμ3, if_pos (by omega)]
    exact ⟨hμ2v.trans (hr.2.2 (by omega)), hHi, by rw [hμ2l.2.1 3 (by omega), hμ1f.1 0 (by omega)]; exact hX.2.2.1, hX.2.2.2.1, fun i hi => by rw [hμ2l.1 2 (by omega), hμ1f.1 2 (by omega)]; exact hX.2.2.2.2 i hi⟩
