set_option maxHeartbeats 4000000 in
set_option maxRecDepth 100000 in
/-- freshTrial() -/
theorem m_X7_freshTrial (l : Launch) (G : va_G) (ca : Nat → ClassId) (ad : Int → Nat) (A : Nat → Prop) (μ : zM) : zMet l (cω G ca ad) A yX7_freshTrial cX7_freshTrial 1 (some (.object "ShipFixtures$Desk")) 3 83 [.ref (ad 156)] μ (zpI (.ref (ad 26)) (fun μ' => vw μ' 26 = vw μ 0 ∧ zFd μ 26 μ')) := by
  refine zMet_of (by decide) (Nat.le_of_ble_eq_true rfl) (fun Γ hC => ?_)
  show Z Γ _ μ 0 [(0, .ref (ad 156))] []
  refine z_aload_n hC dX7_freshTrial_0 rfl ?_
  refine z_get hC iA_X7 rfl 1 (by decide) qF_X7_16 rfl dX7_freshTrial_1 cl_main (cd_main (ca := ca) (ad := ad)) rfl ?_
  refine z_aload_n hC dX7_freshTrial_4 rfl ?_
  refine z_get hC iA_X7 rfl 0 (by decide) qF_X7_10 rfl dX7_freshTrial_5 cl_main (cd_main (ca := ca) (ad := ad)) rfl ?_
  refine z_callV hC [.ref (ad 0)] 1 rfl dX7_freshTrial_8 (fun l => m_X2_copyFrom l G ca ad _ μ 26 0 zb_26 zb_0 (by omega)) qM_X7_280 qI_X2_copyFrom qS_X2_copyFrom qi_X2 qC_X2_copyFrom (by decide +kernel) (by decide) (by decide) (cl_desk zb_26) (cd_desk (ca := ca) (ad := ad) zb_26) rfl (Nat.le_of_ble_eq_true rfl) (zk_void (fun μ1 hμ1 => ?_)) rfl
  obtain ⟨hμ1v, hμ1f⟩ := id hμ1
  refine z_aload_n hC dX7_freshTrial_11 rfl ?_
  refine z_get hC iA_X7 rfl 1 (by decide) qF_X7_16 rfl dX7_freshTrial_12 cl_main (cd_main (ca := ca) (ad := ad)) rfl ?_
  exact z_aret hC dX7_freshTrial_15 ⟨rfl, hμ1⟩

set_option maxHeartbeats 4000000 in
set_option maxRecDepth 100000 in
/-- keep(a) -/
theorem m_X7_keep (l : Launch) (G : va_G) (ca : Nat → ClassId) (ad : Int → Nat) (A : Nat → Prop) (μ : zM) (d : zM) (n : Int) (h : Int → zM) (L : Int) (t : Int → Int) (hX : zSt μ d n h L t) (a : Int) (r : zM) (ha : -2147483648 ≤ a ∧ a ≤ 2147483647) (h26 : vw μ 26 = r) : zMet l (cω G ca ad) A yX7_keep cX7_keep 2 (some .int) 4 104 [.ref (ad 156), .int (iZ a)] μ (zpI (.int (iZ a)) (fun μ' => zStK μ' (sKeep (a, r) d n h) L t)) := by
  refine zMet_of (by decide) (Nat.le_of_ble_eq_true rfl) (fun Γ hC => ?_)
  show Z Γ _ μ 0 [(0, .ref (ad 156)), (1, .int (iZ a))] []
  refine z_iload_n hC dX7_keep_0 rfl ?_
  refine z_callS hC [.int (iZ a)] 1 rfl dX7_keep_1 (fun l => m_X7_isError l _ _ _ a (by omega)) qM_X7_284 qT_X7_isError qi_X7 qC_X7_isError (by decide +kernel) (by decide) (by decide) (Nat.le_of_ble_eq_true rfl) (zk_pure ?_) rfl
  refine z_ifb_ne hC 29 dX7_keep_4 (by decide) (fun c_1 => ?_) (fun c_1 => ?_)
  · refine z_iload_n hC dX7_keep_29 rfl ?_
    exact z_iret hC dX7_keep_30 ⟨rfl, by unfold sKeep; rw [if_pos (by omega)]; exact hX⟩
  · refine z_aload_n hC dX7_keep_7 rfl ?_
    refine z_get hC iA_X7 rfl 2 (by decide) qF_X7_22 rfl dX7_keep_8 cl_main (cd_main (ca := ca) (ad := ad)) rfl ?_
    refine z_aload_n hC dX7_keep_11 rfl ?_
    refine z_get hC iA_X7 rfl 0 (by decide) qF_X7_10 rfl dX7_keep_12 cl_main (cd_main (ca := ca) (ad := ad)) rfl ?_
    refine z_callV hC [.ref (ad 0)] 1 rfl dX7_keep_15 (fun l => m_X4_record l G ca ad _ μ n h hX.2.1) qM_X7_287 qI_X4_record qS_X4_record qi_X4 qC_X4_record (by decide +kernel) (by decide) (by decide) cl_hist (cd_hist (ca := ca) (ad := ad)) rfl (Nat.le_of_ble_eq_true rfl) (zk_void (fun μ2 hμ2 => ?_)) rfl
    obtain ⟨hμ2v, hμ2f⟩ := id hμ2
    refine z_aload_n hC dX7_keep_18 rfl ?_
    refine z_get hC iA_X7 rfl 0 (by decide) qF_X7_10 rfl dX7_keep_19 cl_main (cd_main (ca := ca) (ad := ad)) rfl ?_
    refine z_aload_n hC dX7_keep_22 rfl ?_
    refine z_get hC iA_X7 rfl 1 (by decide) qF_X7_16 rfl dX7_keep_23 cl_main (cd_main (ca := ca) (ad := ad)) rfl ?_
    refine z_callV hC [.ref (ad 26)] 1 rfl dX7_keep_26 (fun l => m_X2_copyFrom l G ca ad _ μ2 0 26 zb_0 zb_26 (by omega)) qM_X7_280 qI_X2_copyFrom qS_X2_copyFrom qi_X2 qC_X2_copyFrom (by decide +kernel) (by decide) (by decide) (cl_desk zb_0) (cd_desk (ca := ca) (ad := ad) zb_0) rfl (Nat.le_of_ble_eq_true rfl) (zk_void (fun μ3 hμ3 => ?_)) rfl
    obtain ⟨hμ3v, hμ3f⟩ := id hμ3
    refine z_iload_n hC dX7_keep_29 rfl ?_
    have e26 : vw μ2 26 = vw μ 26 := vw_eq (fun o i hr => by rw [hμ2f _ (by unfold zrel at hr; omega)])
    have K : zSt μ3 r (sPushN n) (sPushH n h d) L t := ⟨by rw [hμ3v, e26]; exact h26, by rw [← hX.1]; exact zHi_fr hμ2v (fun c hc => hμ3f c (by omega)), zTx_fr hX.2.2 (by rw [hμ3f 159 (by omega), hμ2f 159 (by omega)]) (fun i _ => by rw [hμ3f 160 (by omega), hμ2f 160 (by omega)])⟩
    exact z_iret hC dX7_keep_30 ⟨rfl, by unfold sKeep; rw [if_neg (by omega)]; exact K⟩

set_option maxHeartbeats 4000000 in
set_option maxRecDepth 100000 in
/-- port -/
theorem m_X7_port (l : Launch) (G : va_G) (ca : Nat → ClassId) (ad : Int → Nat) (A : Nat → Prop) (μ : zM) (d : zM) (n : Int) (h : Int → zM) (L : Int) (t : Int → Int) (hX : zSt μ d n h L t) (hI : zInv d) (p x y : Int) (hp : -2147483648 ≤ p ∧ p ≤ 2147483647) (hx : -2147483648 ≤ x ∧ x ≤ 2147483647) (hy : -2147483648 ≤ y ∧ y ≤ 2147483647) (hr : -2147483648 ≤ (opPort d p x y).1 ∧ (opPort d p x y).1 ≤ 2147483647) : zMet l (cω G ca ad) A yX7_port cX7_port 4 (some .int) 5 125 [.ref (ad 156), .int (iZ p), .int (iZ x), .int (iZ y)] μ (zpI (.int (iZ (opPort d p x y).1)) (fun μ' => zStK μ' (sKeep (opPort d p x y) d n h) L t)) := by
  refine zMet_of (by decide) (Nat.le_of_ble_eq_true rfl) (fun Γ hC => ?_)
  show Z Γ _ μ 0 [(0, .ref (ad 156)), (1, .int (iZ p)), (2, .int (iZ x)), (3, .int (iZ y))] []
  refine z_aload_n hC dX7_port_0 rfl ?_
  refine z_aload_n hC dX7_port_1 rfl ?_
  refine z_callV hC [] 0 rfl dX7_port_2 (fun l => m_X7_freshTrial l G ca ad _ μ) qM_X7_40 qI_X7_freshTrial qS_X7_freshTrial qi_X7 qC_X7_freshTrial (by decide +kernel) (by decide) (by decide) cl_main (cd_main (ca := ca) (ad := ad)) rfl (Nat.le_of_ble_eq_true rfl) (zk_int (fun μ1 hμ1 => ?_)) rfl
  obtain ⟨hμ1v, hμ1f⟩ := id hμ1
  have hX1 := zSt_tr hX hμ1f
  have hd1 : vw μ1 26 = d := by rw [hμ1v]; exact hX.1
  refine z_iload_n hC dX7_port_5 rfl ?_
  refine z_iload_n hC dX7_port_6 rfl ?_
  refine z_iload_n hC dX7_port_7 rfl ?_
  refine z_callV hC [.int (iZ p), .int (iZ x), .int (iZ y)] 3 rfl dX7_port_8 (fun l => m_X2_movePort l G ca ad _ μ1 26 zb_26 d hd1 p x y hp hx hy hI.1) qM_X7_44 qI_X2_movePort qS_X2_movePort qi_X2 qC_X2_movePort (by decide +kernel) (by decide) (by decide) (cl_desk zb_26) (cd_desk (ca := ca) (ad := ad) zb_26) rfl (Nat.le_of_ble_eq_true rfl) (zk_int (fun μ2 hμ2 => ?_)) rfl
  obtain ⟨hμ2v, hμ2f⟩ := id hμ2
  have hX2 := zSt_tr hX1 hμ2f
  refine z_callV hC [.int (iZ ((opPort d p x y).1))] 1 rfl dX7_port_11 (fun l => m_X7_keep l G ca ad _ μ2 d n h L t hX2 (opPort d p x y).1 (opPort d p x y).2 hr hμ2v) qM_X7_48 qI_X7_keep qS_X7_keep qi_X7 qC_X7_keep (by decide +kernel) (by decide) (by decide) cl_main (cd_main (ca := ca) (ad := ad)) rfl (Nat.le_of_ble_eq_true rfl) (zk_int (fun μ3 hμ3 => ?_)) rfl
  exact z_iret hC dX7_port_14 ⟨rfl, hμ3⟩

set_option maxHeartbeats 4000000 in
set_option maxRecDepth 100000 in
/-- ship -/
theorem m_X7_ship (l : Launch) (G : va_G) (ca : Nat → ClassId) (ad : Int → Nat) (A : Nat → Prop) (μ : zM) (d : zM) (n : Int) (h : Int → zM) (L : Int) (t : Int → Int) (hX : zSt μ d n h L t) (hI : zInv d) (z v u p w : Int) (hz : -2147483648 ≤ z ∧ z ≤ 2147483647) (hv : -2147483648 ≤ v ∧ v ≤ 2147483647) (hu : -2147483648 ≤ u ∧ u ≤ 2147483647) (hp : -2147483648 ≤ p ∧ p ≤ 2147483647) (hw : -2147483648 ≤ w ∧ w ≤ 2147483647) (hr : -2147483648 ≤ (opShip d z v u p w).1 ∧ (opShip d z v u p w).1 ≤ 2147483647) : zMet l (cω G ca ad) A yX7_ship cX7_ship 6 (some .int) 5 125 [.ref (ad 156), .int (iZ z), .int (iZ v), .int (iZ u), .int (iZ p), .int (iZ w)] μ (zpI (.int (iZ (opShip d z v u p w).1)) (fun μ' => zStK μ' (sKeep (opShip d z v u p w) d n h) L t)) := by
  refine zMet_of (by decide) (Nat.le_of_ble_eq_true rfl) (fun Γ hC => ?_)
  show Z Γ _ μ 0 [(0, .ref (ad 156)), (1, .int (iZ z)), (2, .int (iZ v)), (3, .int (iZ u)), (4, .int (iZ p)), (5, .int (iZ w))] []
  refine z_aload_n hC dX7_ship_0 rfl ?_
  refine z_aload_n hC dX7_ship_1 rfl ?_
  refine z_callV hC [] 0 rfl dX7_ship_2 (fun l => m_X7_freshTrial l G ca ad _ μ) qM_X7_40 qI_X7_freshTrial qS_X7_freshTrial qi_X7 qC_X7_freshTrial (by decide +kernel) (by decide) (by decide) cl_main (cd_main (ca := ca) (ad := ad)) rfl (Nat.le_of_ble_eq_true rfl) (zk_int (fun μ1 hμ1 => ?_)) rfl
  obtain ⟨hμ1v, hμ1f⟩ := id hμ1
  have hX1 := zSt_tr hX hμ1f
  have hd1 : vw μ1 26 = d := by rw [hμ1v]; exact hX.1
  refine z_iload_n hC dX7_ship_5 rfl ?_
  refine z_iload_n hC dX7_ship_6 rfl ?_
  refine z_iload_n hC dX7_ship_7 rfl ?_
  refine z_iload hC dX7_ship_8 rfl ?_
  refine z_iload hC dX7_ship_10 rfl ?_
  refine z_callV hC [.int (iZ z), .int (iZ v), .int (iZ u), .int (iZ p), .int (iZ w)] 5 rfl dX7_ship_12 (fun l => m_X2_addShip l G ca ad _ μ1 26 zb_26 d hd1 z v u p w hz hv hu hp hw hI.1.1) qM_X7_52 qI_X2_addShip qS_X2_addShip qi_X2 qC_X2_addShip (by decide +kernel) (by decide) (by decide) (cl_desk zb_26) (cd_desk (ca := ca) (ad := ad) zb_26) rfl (Nat.le_of_ble_eq_true rfl) (zk_int (fun μ2 hμ2 => ?_)) rfl
  obtain ⟨hμ2v, hμ2f⟩ := id hμ2
  have hX2 := zSt_tr hX1 hμ2f
  refine z_callV hC [.int (iZ ((opShip d z v u p w).1))] 1 rfl dX7_ship_15 (fun l => m_X7_keep l G ca ad _ μ2 d n h L t hX2 (opShip d z v u p w).1 (opShip d z v u p w).2 hr hμ2v) qM_X7_48 qI_X7_keep qS_X7_keep qi_X7 qC_X7_keep (by decide +kernel) (by decide) (by decide) cl_main (cd_main (ca := ca) (ad := ad)) rfl (Nat.le_of_ble_eq_true rfl) (zk_int (fun μ3 hμ3 => ?_)) rfl
  exact z_iret hC dX7_ship_18 ⟨rfl, hμ3⟩

set_option maxHeartbeats 4000000 in
set_option maxRecDepth 100000 in
/-- cargo -/
theorem m_X7_cargo (l : Launch) (G : va_G) (ca : Nat → ClassId) (ad : Int → Nat) (A : Nat → Prop) (μ : zM) (d : zM) (n : Int) (h : Int → zM) (L : Int) (t : Int → Int) (hX : zSt μ d n h L t) (hI : zInv d) (a g u f v w : Int) (ha : -2147483648 ≤ a ∧ a ≤ 2147483647) (hg : -2147483648 ≤ g ∧ g ≤ 2147483647) (hu : -2147483648 ≤ u ∧ u ≤ 2147483647) (hf : -2147483648 ≤ f ∧ f ≤ 2147483647) (hv : -2147483648 ≤ v ∧ v ≤ 2147483647) (hw : -2147483648 ≤ w ∧ w ≤ 2147483647) (hr : -2147483648 ≤ (opCargo d a g u f v w).1 ∧ (opCargo d a g u f v w).1 ≤ 2147483647) : zMet l (cω G ca ad) A yX7_cargo cX7_cargo 7 (some .int) 5 125 [.ref (ad 156), .int (iZ a), .int (iZ g), .int (iZ u), .int (iZ f), .int (iZ v), .int (iZ w)] μ (zpI (.int (iZ (opCargo d a g u f v w).1)) (fun μ' => zStK μ' (sKeep (opCargo d a g u f v w) d n h) L t)) := by
  refine zMet_of (by decide) (Nat.le_of_ble_eq_true rfl) (fun Γ hC => ?_)
  show Z Γ _ μ 0 [(0, .ref (ad 156)), (1, .int (iZ a)), (2, .int (iZ g)), (3, .int (iZ u)), (4, .int (iZ f)), (5, .int (iZ v)), (6, .int (iZ w))] []
  refine z_aload_n hC dX7_cargo_0 rfl ?_
  refine z_aload_n hC dX7_cargo_1 rfl ?_
  refine z_callV hC [] 0 rfl dX7_cargo_2 (fun l => m_X7_freshTrial l G ca ad _ μ) qM_X7_40 qI_X7_freshTrial qS_X7_freshTrial qi_X7 qC_X7_freshTrial (by decide +kernel) (by decide) (by decide) cl_main (cd_main (ca := ca) (ad := ad)) rfl (Nat.le_of_ble_eq_true rfl) (zk_int (fun μ1 hμ1 => ?_)) rfl
  obtain ⟨hμ1v, hμ1f⟩ := id hμ1
  have hX1 := zSt_tr hX hμ1f
  have hd1 : vw μ1 26 = d := by rw [hμ1v]; exact hX.1
  refine z_iload_n hC dX7_cargo_5 rfl ?_
  refine z_iload_n hC dX7_cargo_6 rfl ?_
  refine z_iload_n hC dX7_cargo_7 rfl ?_
  refine z_iload hC dX7_cargo_8 rfl ?_
  refine z_iload hC dX7_cargo_10 rfl ?_
  refine z_iload hC dX7_cargo_12 rfl ?_
  refine z_callV hC [.int (iZ a), .int (iZ g), .int (iZ u), .int (iZ f), .int (iZ v), .int (iZ w)] 6 rfl dX7_cargo_14 (fun l => m_X2_addCargo l G ca ad _ μ1 26 zb_26 d hd1 a g u f v w ha hg hu hf hv hw hI.1.1) qM_X7_56 qI_X2_addCargo qS_X2_addCargo qi_X2 qC_X2_addCargo (by decide +kernel) (by decide) (by decide) (cl_desk zb_26) (cd_desk (ca := ca) (ad := ad) zb_26) rfl (Nat.le_of_ble_eq_true rfl) (zk_int (fun μ2 hμ2 => ?_)) rfl
  obtain ⟨hμ2v, hμ2f⟩ := id hμ2
  have hX2 := zSt_tr hX1 hμ2f
  refine z_callV hC [.int (iZ ((opCargo d a g u f v w).1))] 1 rfl dX7_cargo_17 (fun l => m_X7_keep l G ca ad _ μ2 d n h L t hX2 (opCargo d a g u f v w).1 (opCargo d a g u f v w).2 hr hμ2v) qM_X7_48 qI_X7_keep qS_X7_keep qi_X7 qC_X7_keep (by decide +kernel) (by decide) (by decide) cl_main (cd_main (ca := ca) (ad := ad)) rfl (Nat.le_of_ble_eq_true rfl) (zk_int (fun μ3 hμ3 => ?_)) rfl
  exact z_iret hC dX7_cargo_20 ⟨rfl, hμ3⟩

set_option maxHeartbeats 4000000 in
set_option maxRecDepth 100000 in
/-- fix -/
theorem m_X7_fix (l : Launch) (G : va_G) (ca : Nat → ClassId) (ad : Int → Nat) (A : Nat → Prop) (μ : zM) (d : zM) (n : Int) (h : Int → zM) (L : Int) (t : Int → Int) (hX : zSt μ d n h L t) (hI : zInv d) (k c : Int) (hk : -2147483648 ≤ k ∧ k ≤ 2147483647) (hc : -2147483648 ≤ c ∧ c ≤ 2147483647) (hr : -2147483648 ≤ (opFix d k c).1 ∧ (opFix d k c).1 ≤ 2147483647) : zMet l (cω G ca ad) A yX7_fix cX7_fix 3 (some .int) 5 136 [.ref (ad 156), .int (iZ k), .int (iZ c)] μ (zpI (.int (iZ (opFix d k c).1)) (fun μ' => zStK μ' (sKeep (opFix d k c) d n h) L t)) := by
  refine zMet_of (by decide) (Nat.le_of_ble_eq_true rfl) (fun Γ hC => ?_)
  show Z Γ _ μ 0 [(0, .ref (ad 156)), (1, .int (iZ k)), (2, .int (iZ c))] []
  refine z_aload_n hC dX7_fix_0 rfl ?_
  refine z_aload_n hC dX7_fix_1 rfl ?_
  refine z_callV hC [] 0 rfl dX7_fix_2 (fun l => m_X7_freshTrial l G ca ad _ μ) qM_X7_40 qI_X7_freshTrial qS_X7_freshTrial qi_X7 qC_X7_freshTrial (by decide +kernel) (by decide) (by decide) cl_main (cd_main (ca := ca) (ad := ad)) rfl (Nat.le_of_ble_eq_true rfl) (zk_int (fun μ1 hμ1 => ?_)) rfl
  obtain ⟨hμ1v, hμ1f⟩ := id hμ1
  have hX1 := zSt_tr hX hμ1f
  have hd1 : vw μ1 26 = d := by rw [hμ1v]; exact hX.1
  refine z_iload_n hC dX7_fix_5 rfl ?_
  refine z_iload_n hC dX7_fix_6 rfl ?_
  refine z_callV hC [.int (iZ k), .int (iZ c)] 2 rfl dX7_fix_7 (fun l => m_X2_fixShip l G ca ad _ μ1 26 zb_26 d hd1 k c hk hc hI.1 (zInv_G hI) (zInv_full hI)) qM_X7_60 qI_X2_fixShip qS_X2_fixShip qi_X2 qC_X2_fixShip (by decide +kernel) (by decide) (by decide) (cl_desk zb_26) (cd_desk (ca := ca) (ad := ad) zb_26) rfl (Nat.le_of_ble_eq_true rfl) (zk_int (fun μ2 hμ2 => ?_)) rfl
  obtain ⟨hμ2v, hμ2f⟩ := id hμ2
  have hX2 := zSt_tr hX1 hμ2f
  refine z_callV hC [.int (iZ ((opFix d k c).1))] 1 rfl dX7_fix_10 (fun l => m_X7_keep l G ca ad _ μ2 d n h L t hX2 (opFix d k c).1 (opFix d k c).2 hr hμ2v) qM_X7_48 qI_X7_keep qS_X7_keep qi_X7 qC_X7_keep (by decide +kernel) (by decide) (by decide) cl_main (cd_main (ca := ca) (ad := ad)) rfl (Nat.le_of_ble_eq_true rfl) (zk_int (fun μ3 hμ3 => ?_)) rfl
  exact z_iret hC dX7_fix_13 ⟨rfl, hμ3⟩

set_option maxHeartbeats 4000000 in
set_option maxRecDepth 100000 in
/-- delay -/
theorem m_X7_delay (l : Launch) (G : va_G) (ca : Nat → ClassId) (ad : Int → Nat) (A : Nat → Prop) (μ : zM) (d : zM) (n : Int) (h : Int → zM) (L : Int) (t : Int → Int) (hX : zSt μ d n h L t) (hI : zInv d) (k v : Int) (hk : -2147483648 ≤ k ∧ k ≤ 2147483647) (hv : -2147483648 ≤ v ∧ v ≤ 2147483647) (hr : -2147483648 ≤ (opDelay d k v).1 ∧ (opDelay d k v).1 ≤ 2147483647) : zMet l (cω G ca ad) A yX7_delay cX7_delay 3 (some .int) 5 125 [.ref (ad 156), .int (iZ k), .int (iZ v)] μ (zpI (.int (iZ (opDelay d k v).1)) (fun μ' => zStK μ' (sKeep (opDelay d k v) d n h) L t)) := by
  refine zMet_of (by decide) (Nat.le_of_ble_eq_true rfl) (fun Γ hC => ?_)
  show Z Γ _ μ 0 [(0, .ref (ad 156)), (1, .int (iZ k)), (2, .int (iZ v))] []
  refine z_aload_n hC dX7_delay_0 rfl ?_
  refine z_aload_n hC dX7_delay_1 rfl ?_
  refine z_callV hC [] 0 rfl dX7_delay_2 (fun l => m_X7_freshTrial l G ca ad _ μ) qM_X7_40 qI_X7_freshTrial qS_X7_freshTrial qi_X7 qC_X7_freshTrial (by decide +kernel) (by decide) (by decide) cl_main (cd_main (ca := ca) (ad := ad)) rfl (Nat.le_of_ble_eq_true rfl) (zk_int (fun μ1 hμ1 => ?_)) rfl
  obtain ⟨hμ1v, hμ1f⟩ := id hμ1
  have hX1 := zSt_tr hX hμ1f
  have hd1 : vw μ1 26 = d := by rw [hμ1v]; exact hX.1
  refine z_iload_n hC dX7_delay_5 rfl ?_
  refine z_iload_n hC dX7_delay_6 rfl ?_
  refine z_callV hC [.int (iZ k), .int (iZ v)] 2 rfl dX7_delay_7 (fun l => m_X2_delayShip l G ca ad _ μ1 26 zb_26 d hd1 k v hk hv hI.1 (zInv_F hI)) qM_X7_64 qI_X2_delayShip qS_X2_delayShip qi_X2 qC_X2_delayShip (by decide +kernel) (by decide) (by decide) (cl_desk zb_26) (cd_desk (ca := ca) (ad := ad) zb_26) rfl (Nat.le_of_ble_eq_true rfl) (zk_int (fun μ2 hμ2 => ?_)) rfl
  obtain ⟨hμ2v, hμ2f⟩ := id hμ2
  have hX2 := zSt_tr hX1 hμ2f
  refine z_callV hC [.int (iZ ((opDelay d k v).1))] 1 rfl dX7_delay_10 (fun l => m_X7_keep l G ca ad _ μ2 d n h L t hX2 (opDelay d k v).1 (opDelay d k v).2 hr hμ2v) qM_X7_48 qI_X7_keep qS_X7_keep qi_X7 qC_X7_keep (by decide +kernel) (by decide) (by decide) cl_main (cd_main (ca := ca) (ad := ad)) rfl (Nat.le_of_ble_eq_true rfl) (zk_int (fun μ3 hμ3 => ?_)) rfl
  exact z_iret hC dX7_delay_13 ⟨rfl, hμ3⟩

set_option maxHeartbeats 4000000 in
set_option maxRecDepth 100000 in
/-- callOff -/
theorem m_X7_callOff (l : Launch) (G : va_G) (ca : Nat → ClassId) (ad : Int → Nat) (A : Nat → Prop) (μ : zM) (d : zM) (n : Int) (h : Int → zM) (L : Int) (t : Int → Int) (hX : zSt μ d n h L t) (hI : zInv d) (k : Int) (hk : -2147483648 ≤ k ∧ k ≤ 2147483647) (hr : -2147483648 ≤ (opOff d k).1 ∧ (opOff d k).1 ≤ 2147483647) : zMet l (cω G ca ad) A yX7_callOff cX7_callOff 2 (some .int) 5 125 [.ref (ad 156), .int (iZ k)] μ (zpI (.int (iZ (opOff d k).1)) (fun μ' => zStK μ' (sKeep (opOff d k) d n h) L t)) := by
  refine zMet_of (by decide) (Nat.le_of_ble_eq_true rfl) (fun Γ hC => ?_)
  show Z Γ _ μ 0 [(0, .ref (ad 156)), (1, .int (iZ k))] []
  refine z_aload_n hC dX7_callOff_0 rfl ?_
  refine z_aload_n hC dX7_callOff_1 rfl ?_
  refine z_callV hC [] 0 rfl dX7_callOff_2 (fun l => m_X7_freshTrial l G ca ad _ μ) qM_X7_40 qI_X7_freshTrial qS_X7_freshTrial qi_X7 qC_X7_freshTrial (by decide +kernel) (by decide) (by decide) cl_main (cd_main (ca := ca) (ad := ad)) rfl (Nat.le_of_ble_eq_true rfl) (zk_int (fun μ1 hμ1 => ?_)) rfl
  obtain ⟨hμ1v, hμ1f⟩ := id hμ1
  have hX1 := zSt_tr hX hμ1f
  have hd1 : vw μ1 26 = d := by rw [hμ1v]; exact hX.1
  refine z_iload_n hC dX7_callOff_5 rfl ?_
  refine z_callV hC [.int (iZ k)] 1 rfl dX7_callOff_6 (fun l => m_X2_callOffLast l G ca ad _ μ1 26 zb_26 d hd1 k hk hI.1 (zInv_F hI)) qM_X7_67 qI_X2_callOffLast qS_X2_callOffLast qi_X2 qC_X2_callOffLast (by decide +kernel) (by decide) (by decide) (cl_desk zb_26) (cd_desk (ca := ca) (ad := ad) zb_26) rfl (Nat.le_of_ble_eq_true rfl) (zk_int (fun μ2 hμ2 => ?_)) rfl
  obtain ⟨hμ2v, hμ2f⟩ := id hμ2
  have hX2 := zSt_tr hX1 hμ2f
  refine z_callV hC [.int (iZ ((opOff d k).1))] 1 rfl dX7_callOff_9 (fun l => m_X7_keep l G ca ad _ μ2 d n h L t hX2 (opOff d k).1 (opOff d k).2 hr hμ2v) qM_X7_48 qI_X7_keep qS_X7_keep qi_X7 qC_X7_keep (by decide +kernel) (by decide) (by decide) cl_main (cd_main (ca := ca) (ad := ad)) rfl (Nat.le_of_ble_eq_true rfl) (zk_int (fun μ3 hμ3 => ?_)) rfl
  exact z_iret hC dX7_callOff_12 ⟨rfl, hμ3⟩

set_option maxHeartbeats 4000000 in
set_option maxRecDepth 100000 in
/-- settle -/
theorem m_X7_settle (l : Launch) (G : va_G) (ca : Nat → ClassId) (ad : Int → Nat) (A : Nat → Prop) (μ : zM) (d : zM) (n : Int) (h : Int → zM) (L : Int) (t : Int → Int) (hX : zSt μ d n h L t) (hI : zInv d) (k : Int) (hk : -2147483648 ≤ k ∧ k ≤ 2147483647) (hr : -2147483648 ≤ (opSettle d k).1 ∧ (opSettle d k).1 ≤ 2147483647) : zMet l (cω G ca ad) A yX7_settle cX7_settle 2 (some .int) 5 133 [.ref (ad 156), .int (iZ k)] μ (zpI (.int (iZ (opSettle d k).1)) (fun μ' => zStK μ' (sKeep (opSettle d k) d n h) L t)) := by
  refine zMet_of (by decide) (Nat.le_of_ble_eq_true rfl) (fun Γ hC => ?_)
  show Z Γ _ μ 0 [(0, .ref (ad 156)), (1, .int (iZ k))] []
  refine z_aload_n hC dX7_settle_0 rfl ?_
  refine z_aload_n hC dX7_settle_1 rfl ?_
  refine z_callV hC [] 0 rfl dX7_settle_2 (fun l => m_X7_freshTrial l G ca ad _ μ) qM_X7_40 qI_X7_freshTrial qS_X7_freshTrial qi_X7 qC_X7_freshTrial (by decide +kernel) (by decide) (by decide) cl_main (cd_main (ca := ca) (ad := ad)) rfl (Nat.le_of_ble_eq_true rfl) (zk_int (fun μ1 hμ1 => ?_)) rfl
  obtain ⟨hμ1v, hμ1f⟩ := id hμ1
  have hX1 := zSt_tr hX hμ1f
  have hd1 : vw μ1 26 = d := by rw [hμ1v]; exact hX.1
  refine z_iload_n hC dX7_settle_5 rfl ?_
  refine z_callV hC [.int (iZ k)] 1 rfl dX7_settle_6 (fun l => m_X2_settleShip l G ca ad _ μ1 26 zb_26 d hd1 k hk hI.1 (zInv_G hI) (zInv_F hI)) qM_X7_70 qI_X2_settleShip qS_X2_settleShip qi_X2 qC_X2_settleShip (by decide +kernel) (by decide) (by decide) (cl_desk zb_26) (cd_desk (ca := ca) (ad := ad) zb_26) rfl (Nat.le_of_ble_eq_true rfl) (zk_int (fun μ2 hμ2 => ?_)) rfl
  obtain ⟨hμ2v, hμ2f⟩ := id hμ2
  have hX2 := zSt_tr hX1 hμ2f
  refine z_callV hC [.int (iZ ((opSettle d k).1))] 1 rfl dX7_settle_9 (fun l => m_X7_keep l G ca ad _ μ2 d n h L t hX2 (opSettle d k).1 (opSettle d k).2 hr hμ2v) qM_X7_48 qI_X7_keep qS_X7_keep qi_X7 qC_X7_keep (by decide +kernel) (by decide) (by decide) cl_main (cd_main (ca := ca) (ad := ad)) rfl (Nat.le_of_ble_eq_true rfl) (zk_int (fun μ3 hμ3 => ?_)) rfl
  exact z_iret hC dX7_settle_12 ⟨rfl, hμ3⟩

set_option maxHeartbeats 4000000 in
set_option maxRecDepth 100000 in
/-- History.restore(desk) -/
theorem m_X4_restore (l : Launch) (G : va_G) (ca : Nat → ClassId) (ad : Int → Nat) (A : Nat → Prop) (μ : zM) (n : Int) (h : Int → zM) (hH : zHi μ n h) : zMet l (cω G ca ad) A yX4_restore cX4_restore 2 (some .boolean) 3 83 [.ref (ad 157), .ref (ad 0)] μ (zpI (.int (iZ (zB (1 ≤ n)))) (fun μ' => if 1 ≤ n then zHi μ' (n - 1) h ∧ vw μ' 0 = h (n - 1) ∧ (∀ c, 159 ≤ c → μ' c = μ c) else μ' = μ)) := by
  refine zMet_of (by decide) (Nat.le_of_ble_eq_true rfl) (fun Γ hC => ?_)
  show Z Γ _ μ 0 [(0, .ref (ad 157)), (1, .ref (ad 0))] []
  have hpm := hH.1
  have hn0 := hH.2.2.1
  have hn1 := hH.2.1
  refine z_aload_n hC dX4_restore_0 rfl ?_
  refine z_get hC iA_X4 rfl 1 (by decide) qF_X4_18 rfl dX4_restore_1 cl_hist (cd_hist (ca := ca) (ad := ad)) rfl ?_
  refine z_top (b := n) (by rw [hn1]) ?_
  refine z_iconst hC dX4_restore_4 ?_
  refine z_icmp_ge hC 10 dX4_restore_5 (by decide) (by omega) (by omega) (fun c_1 => ?_) (fun c_1 => ?_)
  · refine z_aload_n hC dX4_restore_10 rfl ?_
    refine z_dup hC dX4_restore_11 rfl ?_
    refine z_get hC iA_X4 rfl 1 (by decide) qF_X4_18 rfl dX4_restore_12 cl_hist (cd_hist (ca := ca) (ad := ad)) rfl ?_
    refine z_top (b := n) (by rw [hn1]) ?_
    refine z_iconst hC dX4_restore_15 ?_
    refine z_isub hC dX4_restore_16 ?_
    refine z_put hC iA_X4 rfl tyX4 tyX4_ok nmX4 1 (by decide) rfl rfl 1 rfl qF_X4_18 rfl dX4_restore_17 cl_hist (cd_hist (ca := ca) (ad := ad)) (fun _ => rfl) (fun _ => Nat.le_of_ble_eq_true rfl) ?_
    refine z_nm (fun μ2 hμ2 => ?_)
    refine z_aload_n hC dX4_restore_20 rfl ?_
    refine z_aload_n hC dX4_restore_21 rfl ?_
    refine z_get hC iA_X4 rfl 0 (by decide) qF_X4_11 rfl dX4_restore_22 cl_hist (cd_hist (ca := ca) (ad := ad)) rfl ?_
    refine z_aload_n hC dX4_restore_25 rfl ?_
    refine z_get hC iA_X4 rfl 1 (by decide) qF_X4_18 rfl dX4_restore_26 cl_hist (cd_hist (ca := ca) (ad := ad)) rfl ?_
    refine z_top (by rw [hμ2, zup_s]) ?_
    refine z_aald hC dX4_restore_29 4 rfl cl_states (fun r i => 26 * r i) (cd_states (ca := ca) (ad := ad)) (by omega) (by omega) (by decide) ?_
    refine z_topr (b := ad (26 * (μ 158 (n - 1)))) (by rw [hμ2, zup_n (by omega)]; try rfl) ?_
    have hbn21 := hpm.1 (n - 1) (by omega)
    have hpmm : zPm μ2 := by rw [hμ2]; unfold zPm; rw [zup_o (by omega)]; exact hpm
    refine z_callV hC [.ref (ad (26 * (μ 158 (n - 1))))] 1 rfl dX4_restore_30 (fun l => m_X2_copyFrom l G ca ad _ μ2 0 (26 * (μ 158 (n - 1))) zb_0 (zb_s hpm (by omega)) (by omega)) qM_X4_25 qI_X2_copyFrom qS_X2_copyFrom qi_X2 qC_X2_copyFrom (by decide +kernel) (by decide) (by decide) (cl_desk zb_0) (cd_desk (ca := ca) (ad := ad) zb_0) rfl (Nat.le_of_ble_eq_true rfl) (zk_void (fun μ3 hμ3 => ?_)) rfl
    obtain ⟨hμ3v, hμ3f⟩ := id hμ3
    refine z_iconst hC dX4_restore_33 ?_
    have hH2 : zHi μ3 (n - 1) h := zHi_cut hH (by omega) (fun c hc => by rw [hμ3f c (by omega), hμ2, zup_o (by omega)]) (by rw [hμ3f 157 (by omega), hμ2, zup_s])
    have hv2 : vw μ3 0 = h (n - 1) := by rw [hμ3v, ← hH.2.2.2 (n - 1) (by omega)]; exact vw_eq (fun o i hr => by rw [hμ2, zup_o (by unfold zrel at hr; omega)])
    exact z_zret1 hC dX4_restore_34 ⟨by rw [zB_t (by omega)], by show (if 1 ≤ n then _ else _); rw [if_pos (by omega)]; exact ⟨hH2, hv2, fun c hc => by rw [hμ3f c (by omega), hμ2, zup_o (by omega)]⟩⟩
  · refine z_iconst hC dX4_restore_8 ?_
    exact z_zret0 hC dX4_restore_9 ⟨by rw [zB_f (by omega)], by show (if 1 ≤ n then _ else _); rw [if_neg (by omega)]⟩

set_option maxHeartbeats 4000000 in
set_option maxRecDepth 100000 in
/-- undo() -/
theorem m_X7_undo (l : Launch) (G : va_G) (ca : Nat → ClassId) (ad : Int → Nat) (A : Nat → Prop) (μ : zM) (d : zM) (n : Int) (h : Int → zM) (L : Int) (t : Int → Int) (hX : zSt μ d n h L t) : zMet l (cω G ca ad) A yX7_undo cX7_undo 1 (some .int) 4 104 [.ref (ad 156)] μ (zpI (.int (iZ (opUndo d n h).1)) (fun μ' => zStK μ' (opUndo d n h).2 L t)) := by
  refine zMet_of (by decide) (Nat.le_of_ble_eq_true rfl) (fun Γ hC => ?_)
  show Z Γ _ μ 0 [(0, .ref (ad 156))] []
  refine z_aload_n hC dX7_undo_0 rfl ?_
  refine z_get hC iA_X7 rfl 2 (by decide) qF_X7_22 rfl dX7_undo_1 cl_main (cd_main (ca := ca) (ad := ad)) rfl ?_
  refine z_aload_n hC dX7_undo_4 rfl ?_
  refine z_get hC iA_X7 rfl 0 (by decide) qF_X7_10 rfl dX7_undo_5 cl_main (cd_main (ca := ca) (ad := ad)) rfl ?_
  refine z_callV hC [.ref (ad 0)] 1 rfl dX7_undo_8 (fun l => m_X4_restore l G ca ad _ μ n h hX.2.1) qM_X7_256 qI_X4_restore qS_X4_restore qi_X4 qC_X4_restore (by decide +kernel) (by decide) (by decide) cl_hist (cd_hist (ca := ca) (ad := ad)) rfl (Nat.le_of_ble_eq_true rfl) (zk_int (fun μ1 hμ1 => ?_)) rfl
  refine z_ifb_eq hC 24 dX7_undo_11 (by decide) (fun c_2 => ?_) (fun c_2 => ?_)
  · rw [if_neg (by omega)] at hμ1
    refine z_ldc hC (-1000002) qc_X7_210 rfl dX7_undo_24 ?_
    exact z_iret hC dX7_undo_26 ⟨by unfold opUndo; rw [if_neg (by omega)], by unfold opUndo; rw [if_neg (by omega), hμ1]; exact hX⟩
  · rw [if_pos (by omega)] at hμ1
    obtain ⟨hq1, hq2, hq3⟩ := hμ1
    refine z_aload_n hC dX7_undo_14 rfl ?_
    refine z_get hC iA_X7 rfl 2 (by decide) qF_X7_22 rfl dX7_undo_15 cl_main (cd_main (ca := ca) (ad := ad)) rfl ?_
    refine z_get hC iA_X4 rfl 1 (by decide) qF_X7_252 rfl dX7_undo_18 cl_hist (cd_hist (ca := ca) (ad := ad)) rfl ?_
    refine z_top (b := n - 1) (by rw [hq1.2.1]) ?_
    refine z_goto hC 26 dX7_undo_21 (by decide) ?_
    exact z_iret hC dX7_undo_26 ⟨by unfold opUndo; rw [if_pos (by omega)], by unfold opUndo; rw [if_pos (by omega)]; exact ⟨hq2, hq1, zTx_fr hX.2.2 (by rw [hq3 159 (by omega)]) (fun i _ => by rw [hq3 160 (by omega)])⟩⟩
