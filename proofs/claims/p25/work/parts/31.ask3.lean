/-! VOYAGE AND PLAN, as far as the law asks -/
def qVoy (d : zM) (k c w : Int) : Int := if w = 0 then sCould d k c else sFree d k c (sEnd d k).1 (sEnd d k).2.1 - (sEnd d k).2.1

set_option maxHeartbeats 4000000 in
set_option maxRecDepth 100000 in
/-- voyage(k, c, 0 or 2) -/
theorem m_X7_voyage (l : Launch) (G : va_G) (ca : Nat → ClassId) (ad : Int → Nat) (A : Nat → Prop) (μ : zM) (d : zM) (n : Int) (h : Int → zM) (L : Int) (t : Int → Int) (hX : zSt μ d n h L t) (hI : zInv d) (k c w : Int) (hk : 0 ≤ k ∧ k < d 0 4) (hc : 0 ≤ c ∧ c < d 0 5) (hw : w = 0 ∨ w = 2) : zMet l (cω G ca ad) A yX7_voyage cX7_voyage 6 (some .int) 4 112 [.ref (ad 156), .int (iZ k), .int (iZ c), .int (iZ w)] μ (zpI (.int (iZ (qVoy d k c w))) (fun μ' => zSt μ' d n h L t)) := by
  refine zMet_of (by decide) (Nat.le_of_ble_eq_true rfl) (fun Γ hC => ?_)
  show Z Γ _ μ 0 [(0, .ref (ad 156)), (1, .int (iZ k)), (2, .int (iZ c)), (3, .int (iZ w))] []
  obtain ⟨hB, _⟩ := id hI
  obtain ⟨hN, hP, hB3, hB4⟩ := id hB
  obtain ⟨hN1, hN2⟩ := id hN
  have hG := zInv_G hI
  refine z_aload_n hC dX7_voyage_0 rfl ?_
  refine z_get hC iA_X7 rfl 0 (by decide) qF_X7_10 rfl dX7_voyage_1 cl_main (cd_main (ca := ca) (ad := ad)) rfl ?_
  refine z_iload_n hC dX7_voyage_4 rfl ?_
  have hN1 : μ 0 4 = d 0 4 := by rw [← hX.1, vw_S]
  refine z_callV hC [.int (iZ k)] 1 rfl dX7_voyage_5 (fun l => m_X2_isShip l G ca ad _ μ 0 zb_0 k (by omega) (by omega)) qM_X7_73 qI_X2_isShip qS_X2_isShip qi_X2 qC_X2_isShip (by decide +kernel) (by decide) (by decide) (cl_desk zb_0) (cd_desk (ca := ca) (ad := ad) zb_0) rfl (Nat.le_of_ble_eq_true rfl) (zk_pure ?_) rfl
  rw [hN1]
  refine z_ifb_eq hC 22 dX7_voyage_8 (by decide) (fun c_2 => ?_) (fun c_2 => ?_)
  · exfalso; omega
  · refine z_aload_n hC dX7_voyage_11 rfl ?_
    refine z_get hC iA_X7 rfl 0 (by decide) qF_X7_10 rfl dX7_voyage_12 cl_main (cd_main (ca := ca) (ad := ad)) rfl ?_
    refine z_iload_n hC dX7_voyage_15 rfl ?_
    have hN3 : μ 0 5 = d 0 5 := by rw [← hX.1, vw_Cn]
    refine z_callV hC [.int (iZ c)] 1 rfl dX7_voyage_16 (fun l => m_X2_isCargo l G ca ad _ μ 0 zb_0 c (by omega) (by omega)) qM_X7_122 qI_X2_isCargo qS_X2_isCargo qi_X2 qC_X2_isCargo (by decide +kernel) (by decide) (by decide) (cl_desk zb_0) (cd_desk (ca := ca) (ad := ad) zb_0) rfl (Nat.le_of_ble_eq_true rfl) (zk_pure ?_) rfl
    rw [hN3]
    refine z_ifb_ne hC 25 dX7_voyage_19 (by decide) (fun c_4 => ?_) (fun c_4 => ?_)
    · refine z_aload_n hC dX7_voyage_25 rfl ?_
      refine z_get hC iA_X7 rfl 0 (by decide) qF_X7_10 rfl dX7_voyage_26 cl_main (cd_main (ca := ca) (ad := ad)) rfl ?_
      refine z_iload_n hC dX7_voyage_29 rfl ?_
      refine z_iload_n hC dX7_voyage_30 rfl ?_
      refine z_callV hC [.int (iZ k), .int (iZ c)] 2 rfl dX7_voyage_31 (fun l => m_X2_hindrance l G ca ad _ μ 0 zb_0 d hX.1 k c hB (by omega) (by omega) (hG _ (by omega))) qM_X7_186 qI_X2_hindrance qS_X2_hindrance qi_X2 qC_X2_hindrance (by decide +kernel) (by decide) (by decide) (cl_desk zb_0) (cd_desk (ca := ca) (ad := ad) zb_0) rfl (Nat.le_of_ble_eq_true rfl) (zk_int (fun μ5 hμ5 => ?_)) rfl
      obtain ⟨hμ5f, hμ50, hμ51, hμ52, hμ53, hμ54, hμ55, hμ56, hμ57⟩ := id hμ5
      have hd6 : vw μ5 0 = d := by rw [vw_fr5 hμ5f]; exact hX.1
      refine z_istore hC dX7_voyage_34 (by decide) rfl ?_
      refine z_aload_n hC dX7_voyage_36 rfl ?_
      refine z_get hC iA_X7 rfl 0 (by decide) qF_X7_10 rfl dX7_voyage_37 cl_main (cd_main (ca := ca) (ad := ad)) rfl ?_
      refine z_get hC iA_X2 rfl 8 (by decide) qF_X7_189 rfl dX7_voyage_40 (cl_desk zb_0) (cd_desk (ca := ca) (ad := ad) zb_0) rfl ?_
      refine z_astore hC dX7_voyage_43 (by decide) rfl ?_
      refine z_iload_n hC dX7_voyage_45 rfl ?_
      rcases (show w = 0 ∨ w = 1 ∨ w = 2 ∨ w = 3 ∨ w = 4 ∨ (w < 0 ∨ 4 < w) by omega) with w_7 | w_7 | w_7 | w_7 | w_7 | w_7
      · refine z_tableIn hC 80 dX7_voyage_46 (by omega) (by omega) (by omega) (by rw [w_7]; rfl) (by decide) ?_
        refine z_iload hC dX7_voyage_80 rfl ?_
        exact z_iret hC dX7_voyage_82 ⟨by unfold qVoy; rw [if_pos (by omega)], zSt_5 hX hμ5f⟩
      · exfalso; omega
      · refine z_tableIn hC 89 dX7_voyage_46 (by omega) (by omega) (by omega) (by rw [w_7]; rfl) (by decide) ?_
        refine z_aload hC dX7_voyage_89 rfl ?_
        refine z_get hC iA_X1 rfl 4 (by decide) qF_X7_193 rfl dX7_voyage_91 (cl_course zb_0) (cd_course (ca := ca) (ad := ad) zb_0) rfl ?_
        refine z_top (b := sFree d k c (sEnd d k).1 (sEnd d k).2.1 - (sEnd d k).2.1) (by rw [hμ54]) ?_
        exact z_iret hC dX7_voyage_94 ⟨by unfold qVoy; rw [if_neg (by omega)], zSt_5 hX hμ5f⟩
      · exfalso; omega
      · exfalso; omega
      · exfalso; omega
    · exfalso; omega

set_option maxHeartbeats 4000000 in
set_option maxRecDepth 100000 in
/-- plan(4) -/
theorem m_X7_plan (l : Launch) (G : va_G) (ca : Nat → ClassId) (ad : Int → Nat) (A : Nat → Prop) (μ : zM) (d : zM) (n : Int) (h : Int → zM) (L : Int) (t : Int → Int) (hX : zSt μ d n h L t) : zMet l (cω G ca ad) A yX7_plan cX7_plan 6 (some .int) 1 22 [.ref (ad 156), .int (iZ 4)] μ (zpI (.int (iZ (-1000001))) (fun μ' => zSt μ' d n h L t)) := by
  refine zMet_of (by decide) (Nat.le_of_ble_eq_true rfl) (fun Γ hC => ?_)
  show Z Γ _ μ 0 [(0, .ref (ad 156)), (1, .int (iZ 4))] []
  refine z_iload_n hC dX7_plan_0 rfl ?_
  refine z_iconst hC dX7_plan_1 ?_
  refine z_iconst hC dX7_plan_2 ?_
  refine z_callS hC [.int (iZ 4), .int (iZ 0), .int (iZ 3)] 3 rfl dX7_plan_3 (fun l => m_X7_isIn l _ _ _ 4 0 3 (by omega) (by omega) (by omega)) qM_X7_156 qT_X7_isIn qi_X7 qC_X7_isIn (by decide +kernel) (by decide) (by decide) (Nat.le_of_ble_eq_true rfl) (zk_pure ?_) rfl
  refine z_ifb_ne hC 12 dX7_plan_6 (by decide) (fun c_1 => ?_) (fun c_1 => ?_)
  · exfalso; omega
  · refine z_ldc hC (-1000001) qc_X7_77 rfl dX7_plan_9 ?_
    exact z_iret hC dX7_plan_11 ⟨rfl, hX⟩
