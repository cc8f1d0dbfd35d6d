set_option maxHeartbeats 4000000 in
set_option maxRecDepth 100000 in
/-- between(p, q) -/
theorem m_X2_between (l : Launch) (G : va_G) (ca : Nat → ClassId) (ad : Int → Nat) (A : Nat → Prop) (μ : zM) (b : Int) (hb : zb b) (d : zM) (hd : vw μ b = d) (p q : Int) (hP : bP d) (hp : 0 ≤ p ∧ p ≤ 7) (hq : 0 ≤ q ∧ q ≤ 7) : zMet l (cω G ca ad) A yX2_between cX2_between 5 (some .int) 0 0 [.ref (ad b), .int (iZ p), .int (iZ q)] μ (zpI (.int (iZ (sFar d p q))) (fun m => m = μ)) := by
  refine zMet_of (by decide) (Nat.le_of_ble_eq_true rfl) (fun Γ hC => ?_)
  show Z Γ _ μ 0 [(0, .ref (ad b)), (1, .int (iZ p)), (2, .int (iZ q))] []
  have h1 := hP p hp
  have h2 := hP q hq
  refine z_aload_n hC dX2_between_0 rfl ?_
  refine z_get hC iA_X2 rfl 0 (by decide) qF_X2_9 rfl dX2_between_1 (cl_desk hb) (cd_desk hb) rfl ?_
  refine z_iload_n hC dX2_between_4 rfl ?_
  refine z_iald hC dX2_between_5 (cl_x hb) (cd_x hb) (by omega) (by omega) (by decide) ?_
  refine z_top (b := d 1 p) ((vw_x (by omega)).symm.trans (congrFun (congrFun hd _) _)) ?_
  refine z_aload_n hC dX2_between_6 rfl ?_
  refine z_get hC iA_X2 rfl 0 (by decide) qF_X2_9 rfl dX2_between_7 (cl_desk hb) (cd_desk hb) rfl ?_
  refine z_iload_n hC dX2_between_10 rfl ?_
  refine z_iald hC dX2_between_11 (cl_x hb) (cd_x hb) (by omega) (by omega) (by decide) ?_
  refine z_top (b := d 1 q) ((vw_x (by omega)).symm.trans (congrFun (congrFun hd _) _)) ?_
  refine z_isub hC dX2_between_12 ?_
  refine z_istore_n hC dX2_between_13 (by decide) rfl ?_
  refine z_aload_n hC dX2_between_14 rfl ?_
  refine z_get hC iA_X2 rfl 1 (by decide) qF_X2_15 rfl dX2_between_15 (cl_desk hb) (cd_desk hb) rfl ?_
  refine z_iload_n hC dX2_between_18 rfl ?_
  refine z_iald hC dX2_between_19 (cl_y hb) (cd_y hb) (by omega) (by omega) (by decide) ?_
  refine z_top (b := d 2 p) ((vw_y (by omega)).symm.trans (congrFun (congrFun hd _) _)) ?_
  refine z_aload_n hC dX2_between_20 rfl ?_
  refine z_get hC iA_X2 rfl 1 (by decide) qF_X2_15 rfl dX2_between_21 (cl_desk hb) (cd_desk hb) rfl ?_
  refine z_iload_n hC dX2_between_24 rfl ?_
  refine z_iald hC dX2_between_25 (cl_y hb) (cd_y hb) (by omega) (by omega) (by decide) ?_
  refine z_top (b := d 2 q) ((vw_y (by omega)).symm.trans (congrFun (congrFun hd _) _)) ?_
  refine z_isub hC dX2_between_26 ?_
  refine z_istore hC dX2_between_27 (by decide) rfl ?_
  refine z_bipush hC dX2_between_29 (by decide) ?_
  refine z_iload_n hC dX2_between_31 rfl ?_
  refine z_if_ge hC 40 dX2_between_32 (by decide) (by omega) (fun c_1 => ?_) (fun c_1 => ?_)
  · refine z_iload_n hC dX2_between_40 rfl ?_
    refine z_iload hC dX2_between_41 rfl ?_
    refine z_if_ge hC 52 dX2_between_43 (by decide) (by omega) (fun c_2 => ?_) (fun c_2 => ?_)
    · refine z_iload hC dX2_between_52 rfl ?_
      refine z_iadd hC dX2_between_54 ?_
      refine z_imul hC dX2_between_55 ?_
      exact z_iret hC dX2_between_56 ⟨by unfold sFar zabs; split <;> split <;> first | rfl | (exfalso; omega), rfl⟩
    · refine z_iload hC dX2_between_46 rfl ?_
      refine z_ineg hC dX2_between_48 ?_
      refine z_goto hC 54 dX2_between_49 (by decide) ?_
      refine z_iadd hC dX2_between_54 ?_
      refine z_imul hC dX2_between_55 ?_
      exact z_iret hC dX2_between_56 ⟨by unfold sFar zabs; split <;> split <;> first | rfl | (exfalso; omega), rfl⟩
  · refine z_iload_n hC dX2_between_35 rfl ?_
    refine z_ineg hC dX2_between_36 ?_
    refine z_goto hC 41 dX2_between_37 (by decide) ?_
    refine z_iload hC dX2_between_41 rfl ?_
    refine z_if_ge hC 52 dX2_between_43 (by decide) (by omega) (fun c_3 => ?_) (fun c_3 => ?_)
    · refine z_iload hC dX2_between_52 rfl ?_
      refine z_iadd hC dX2_between_54 ?_
      refine z_imul hC dX2_between_55 ?_
      exact z_iret hC dX2_between_56 ⟨by unfold sFar zabs; split <;> split <;> first | rfl | (exfalso; omega), rfl⟩
    · refine z_iload hC dX2_between_46 rfl ?_
      refine z_ineg hC dX2_between_48 ?_
      refine z_goto hC 54 dX2_between_49 (by decide) ?_
      refine z_iadd hC dX2_between_54 ?_
      refine z_imul hC dX2_between_55 ?_
      exact z_iret hC dX2_between_56 ⟨by unfold sFar zabs; split <;> split <;> first | rfl | (exfalso; omega), rfl⟩

set_option maxHeartbeats 4000000 in
set_option maxRecDepth 100000 in
/-- Course.begin(ship) -/
theorem m_X1_begin (l : Launch) (G : va_G) (ca : Nat → ClassId) (ad : Int → Nat) (A : Nat → Prop) (μ : zM) (b : Int) (hb : zb b) (d : zM) (hd : vw μ b = d) (k : Int) (hk : 0 ≤ k ∧ k < 5) : zMet l (cω G ca ad) A yX1_begin cX1_begin 2 none 0 0 [.ref (ad (b + 5)), .ref (ad (b + 6 + k))] μ (zpV (fun μ' => (∀ c, c ≠ b + 5 → μ' c = μ c) ∧ μ' (b + 5) 0 = d (6 + k) 3 ∧ μ' (b + 5) 1 = d (6 + k) 4 ∧ μ' (b + 5) 6 = 0)) := by
  refine zMet_of (by decide) (Nat.le_of_ble_eq_true rfl) (fun Γ hC => ?_)
  show Z Γ _ μ 0 [(0, .ref (ad (b + 5))), (1, .ref (ad (b + 6 + k)))] []
  refine z_aload_n hC dX1_begin_0 rfl ?_
  refine z_aload_n hC dX1_begin_1 rfl ?_
  refine z_get hC iA_X6 rfl 3 (by decide) qF_X1_9 rfl dX1_begin_2 (cl_ship hb (by omega)) (cd_ship hb (by omega)) rfl ?_
  refine z_top (b := d (6 + k) 3) ((vw_ship (by omega) (by omega)).symm.trans (congrFun (congrFun hd _) _)) ?_
  refine z_put hC iA_X1 rfl tyX1 tyX1_ok nmX1 0 (by decide) rfl rfl 0 rfl qF_X1_15 rfl dX1_begin_5 (cl_course hb) (cd_course hb) (fun _ => rfl) (fun _ => Nat.le_of_ble_eq_true rfl) ?_
  refine z_nm (fun μ1 hμ1 => ?_)
  have hd2 : vw μ1 b = d := by rw [hμ1, vw_c5]; exact hd
  refine z_aload_n hC dX1_begin_8 rfl ?_
  refine z_aload_n hC dX1_begin_9 rfl ?_
  refine z_get hC iA_X6 rfl 4 (by decide) qF_X1_20 rfl dX1_begin_10 (cl_ship hb (by omega)) (cd_ship hb (by omega)) rfl ?_
  refine z_top (b := d (6 + k) 4) ((vw_ship (by omega) (by omega)).symm.trans (congrFun (congrFun hd2 _) _)) ?_
  refine z_put hC iA_X1 rfl tyX1 tyX1_ok nmX1 1 (by decide) rfl rfl 1 rfl qF_X1_23 rfl dX1_begin_13 (cl_course hb) (cd_course hb) (fun _ => rfl) (fun _ => Nat.le_of_ble_eq_true rfl) ?_
  refine z_nm (fun μ3 hμ3 => ?_)
  have hd4 : vw μ3 b = d := by rw [hμ3, vw_c5]; exact hd2
  refine z_aload_n hC dX1_begin_16 rfl ?_
  refine z_iconst hC dX1_begin_17 ?_
  refine z_put hC iA_X1 rfl tyX1 tyX1_ok nmX1 6 (by decide) rfl rfl 6 rfl qF_X1_26 rfl dX1_begin_18 (cl_course hb) (cd_course hb) (fun _ => rfl) (fun _ => Nat.le_of_ble_eq_true rfl) ?_
  refine z_nm (fun μ5 hμ5 => ?_)
  have hd6 : vw μ5 b = d := by rw [hμ5, vw_c5]; exact hd4
  exact z_vret hC dX1_begin_21 ⟨rfl, fun c hc => by rw [hμ5, zup_o hc, hμ3, zup_o hc, hμ1, zup_o hc], by rw [hμ5, zup_n (by omega), hμ3, zup_n (by omega), hμ1, zup_s], by rw [hμ5, zup_n (by omega), hμ3, zup_s], by rw [hμ5, zup_s]⟩

set_option maxHeartbeats 4000000 in
set_option maxRecDepth 100000 in
/-- sail(ship k, cargo c) from port p on day t -/
theorem m_X2_sail (l : Launch) (G : va_G) (ca : Nat → ClassId) (ad : Int → Nat) (A : Nat → Prop) (μ : zM) (b : Int) (hb : zb b) (d : zM) (hd : vw μ b = d) (k c p t e : Int) (hN : bN d) (hP : bP d) (hk : 0 ≤ k ∧ k < 5) (hs : bS d k) (hc : 0 ≤ c ∧ c < d 0 5) (hcc : bC d c) (hp : 0 ≤ p ∧ p ≤ 7) (ht : 0 ≤ t ∧ t ≤ 2000) (h0 : μ (b + 5) 0 = p) (h1 : μ (b + 5) 1 = t) (h6 : μ (b + 5) 6 = e) : zMet l (cω G ca ad) A yX2_sail cX2_sail 7 none 1 40 [.ref (ad b), .ref (ad (b + 6 + k)), .int (iZ c)] μ (zpV (fun μ' => zCo μ b μ' (d (16 + c) 2) (sFree d k c p t) (sArr d k c p t) (sLoad d k c p t) (sFree d k c p t - t) (sEarn d k c p t) (e + sEarn d k c p t) (sMarg d k c p t))) := by
  refine zMet_of (by decide) (Nat.le_of_ble_eq_true rfl) (fun Γ hC => ?_)
  show Z Γ _ μ 0 [(0, .ref (ad b)), (1, .ref (ad (b + 6 + k))), (2, .int (iZ c))] []
  obtain ⟨hN1, hN2⟩ := hN
  obtain ⟨hs0, hs1, hs2, hs3, hs4, hs6⟩ := id hs
  obtain ⟨hc0, hc1, hc2, hc3, hc4, hc5, hc6⟩ := id hcc
  have hf1 := sFar_b hP hp hc1
  have hf2 := sFar_b hP hc1 hc2
  have hq1 := sSail_b hP hp hc1 hs1
  have hq2 := sSail_b hP hc1 hc2 hs1
  have hA : sArr d k c p t = t + sSail d k p (d (16 + c) 1) := rfl
  refine z_aload_n hC dX2_sail_0 rfl ?_
  refine z_iload_n hC dX2_sail_1 rfl ?_
  have hN1 : μ b 5 = d 0 5 := by rw [← hd, vw_Cn]
  refine z_callV hC [.int (iZ c)] 1 rfl dX2_sail_2 (fun l => m_X2_isCargo l G ca ad _ μ b hb c (by omega) (by omega)) qM_X2_116 qI_X2_isCargo qS_X2_isCargo qi_X2 qC_X2_isCargo (by decide +kernel) (by decide) (by decide) (cl_desk hb) (cd_desk hb) rfl (Nat.le_of_ble_eq_true rfl) (zk_pure ?_) rfl
  rw [hN1]
  refine z_ifb_ne hC 9 dX2_sail_5 (by decide) (fun c_2 => ?_) (fun c_2 => ?_)
  · refine z_aload_n hC dX2_sail_9 rfl ?_
    refine z_get hC iA_X2 rfl 3 (by decide) qF_X2_26 rfl dX2_sail_10 (cl_desk hb) (cd_desk hb) rfl ?_
    refine z_iload_n hC dX2_sail_13 rfl ?_
    refine z_aald hC dX2_sail_14 3 rfl (cl_cargoes hb) (fun _ i => b + 16 + i) (cd_cargoes hb) (by omega) (by omega) (by decide) ?_
    refine z_astore_n hC dX2_sail_15 (by decide) rfl ?_
    refine z_bipush hC dX2_sail_16 (by decide) ?_
    refine z_aload_n hC dX2_sail_18 rfl ?_
    refine z_get hC iA_X6 rfl 1 (by decide) qF_X2_83 rfl dX2_sail_19 (cl_ship hb (by omega)) (cd_ship hb (by omega)) rfl ?_
    refine z_top (b := d (6 + k) 1) ((vw_ship (by omega) (by omega)).symm.trans (congrFun (congrFun hd _) _)) ?_
    refine z_imul hC dX2_sail_22 ?_
    refine z_istore hC dX2_sail_23 (by decide) rfl ?_
    refine z_aload_n hC dX2_sail_25 rfl ?_
    refine z_get hC iA_X2 rfl 8 (by decide) qF_X2_33 rfl dX2_sail_26 (cl_desk hb) (cd_desk hb) rfl ?_
    refine z_get hC iA_X1 rfl 1 (by decide) qF_X2_135 rfl dX2_sail_29 (cl_course hb) (cd_course hb) rfl ?_
    refine z_top (b := t) (by rw [h1]) ?_
    refine z_istore hC dX2_sail_32 (by decide) rfl ?_
    refine z_aload_n hC dX2_sail_34 rfl ?_
    refine z_get hC iA_X2 rfl 8 (by decide) qF_X2_33 rfl dX2_sail_35 (cl_desk hb) (cd_desk hb) rfl ?_
    refine z_iload hC dX2_sail_38 rfl ?_
    refine z_aload_n hC dX2_sail_40 rfl ?_
    refine z_aload_n hC dX2_sail_41 rfl ?_
    refine z_get hC iA_X2 rfl 8 (by decide) qF_X2_33 rfl dX2_sail_42 (cl_desk hb) (cd_desk hb) rfl ?_
    refine z_get hC iA_X1 rfl 0 (by decide) qF_X2_162 rfl dX2_sail_45 (cl_course hb) (cd_course hb) rfl ?_
    refine z_top (b := p) (by rw [h0]) ?_
    refine z_aload_n hC dX2_sail_48 rfl ?_
    refine z_get hC iA_X0 rfl 1 (by decide) qF_X2_98 rfl dX2_sail_49 (cl_cargo hb (by omega)) (cd_cargo hb (by omega)) rfl ?_
    refine z_top (b := d (16 + c) 1) ((vw_cargo (by omega) (by omega)).symm.trans (congrFun (congrFun hd _) _)) ?_
    refine z_callV hC [.int (iZ p), .int (iZ (d (16 + c) 1))] 2 rfl dX2_sail_52 (fun l => m_X2_between l G ca ad _ μ b hb d hd p (d (16 + c) 1) hP (by omega) (by omega)) qM_X2_177 qI_X2_between qS_X2_between qi_X2 qC_X2_between (by decide +kernel) (by decide) (by decide) (cl_desk hb) (cd_desk hb) rfl (Nat.le_of_ble_eq_true rfl) (zk_pure ?_) rfl
    refine z_iload hC dX2_sail_55 rfl ?_
    refine z_callSN hC [.int (iZ (sFar d p (d (16 + c) 1))), .int (iZ (24 * (d (6 + k) 1)))] 2 rfl dX2_sail_57 (fun l => m_X7_divideUp l _ _ _ (sFar d p (d (16 + c) 1)) (24 * (d (6 + k) 1)) (by omega) (by omega)) (by decide +kernel) qT_X7_divideUp qi_X7 qC_X7_divideUp (by decide +kernel) (by decide) (by decide) (Nat.le_of_ble_eq_true rfl) (zk_pure ?_) rfl
    refine z_top (b := sSail d k p (d (16 + c) 1)) rfl ?_
    refine z_iadd hC dX2_sail_60 ?_
    refine z_top (b := sArr d k c p t) rfl ?_
    refine z_put hC iA_X1 rfl tyX1 tyX1_ok nmX1 2 (by decide) rfl rfl 2 rfl qF_X2_180 rfl dX2_sail_61 (cl_course hb) (cd_course hb) (fun _ => rfl) (fun _ => Nat.le_of_ble_eq_true rfl) ?_
    refine z_nm (fun μ3 hμ3 => ?_)
    have hd4 : vw μ3 b = d := by rw [hμ3, vw_c5]; exact hd
    refine z_aload_n hC dX2_sail_64 rfl ?_
    refine z_get hC iA_X2 rfl 8 (by decide) qF_X2_33 rfl dX2_sail_65 (cl_desk hb) (cd_desk hb) rfl ?_
    refine z_aload_n hC dX2_sail_68 rfl ?_
    refine z_get hC iA_X0 rfl 4 (by decide) qF_X2_107 rfl dX2_sail_69 (cl_cargo hb (by omega)) (cd_cargo hb (by omega)) rfl ?_
    refine z_top (b := d (16 + c) 4) ((vw_cargo (by omega) (by omega)).symm.trans (congrFun (congrFun hd4 _) _)) ?_
    refine z_aload_n hC dX2_sail_72 rfl ?_
    refine z_get hC iA_X2 rfl 8 (by decide) qF_X2_33 rfl dX2_sail_73 (cl_desk hb) (cd_desk hb) rfl ?_
    refine z_get hC iA_X1 rfl 2 (by decide) qF_X2_180 rfl dX2_sail_76 (cl_course hb) (cd_course hb) rfl ?_
    refine z_top (by rw [hμ3, zup_s]) ?_
    refine z_isub hC dX2_sail_79 ?_
    refine z_top (b := sMarg d k c p t) rfl ?_
    refine z_put hC iA_X1 rfl tyX1 tyX1_ok nmX1 7 (by decide) rfl rfl 7 rfl qF_X2_183 rfl dX2_sail_80 (cl_course hb) (cd_course hb) (fun _ => rfl) (fun _ => Nat.le_of_ble_eq_true rfl) ?_
    refine z_nm (fun μ5 hμ5 => ?_)
    have hd6 : vw μ5 b = d := by rw [hμ5, vw_c5]; exact hd4
    refine z_aload_n hC dX2_sail_83 rfl ?_
    refine z_get hC iA_X2 rfl 8 (by decide) qF_X2_33 rfl dX2_sail_84 (cl_desk hb) (cd_desk hb) rfl ?_
    refine z_aload_n hC dX2_sail_87 rfl ?_
    refine z_get hC iA_X2 rfl 8 (by decide) qF_X2_33 rfl dX2_sail_88 (cl_desk hb) (cd_desk hb) rfl ?_
    refine z_get hC iA_X1 rfl 2 (by decide) qF_X2_180 rfl dX2_sail_91 (cl_course hb) (cd_course hb) rfl ?_
    refine z_top (by rw [hμ5, zup_n (by omega), hμ3, zup_s]) ?_
    refine z_aload_n hC dX2_sail_94 rfl ?_
    refine z_get hC iA_X0 rfl 3 (by decide) qF_X2_104 rfl dX2_sail_95 (cl_cargo hb (by omega)) (cd_cargo hb (by omega)) rfl ?_
    refine z_top (b := d (16 + c) 3) ((vw_cargo (by omega) (by omega)).symm.trans (congrFun (congrFun hd6 _) _)) ?_
    refine z_max hC qM_X2_186 dX2_sail_98 (by omega) (by omega) (by decide) (Nat.le_of_ble_eq_true rfl) ?_
    refine z_top (b := sLoad d k c p t) rfl ?_
    refine z_put hC iA_X1 rfl tyX1 tyX1_ok nmX1 3 (by decide) rfl rfl 3 rfl qF_X2_191 rfl dX2_sail_101 (cl_course hb) (cd_course hb) (fun _ => rfl) (fun _ => Nat.le_of_ble_eq_true rfl) ?_
    refine z_nm (fun μ7 hμ7 => ?_)
    have hd8 : vw μ7 b = d := by rw [hμ7, vw_c5]; exact hd6
    refine z_aload_n hC dX2_sail_104 rfl ?_
    refine z_get hC iA_X2 rfl 8 (by decide) qF_X2_33 rfl dX2_sail_105 (cl_desk hb) (cd_desk hb) rfl ?_
    refine z_get hC iA_X1 rfl 3 (by decide) qF_X2_191 rfl dX2_sail_108 (cl_course hb) (cd_course hb) rfl ?_
    refine z_top (by rw [hμ7, zup_s]) ?_
    refine z_iconst hC dX2_sail_111 ?_
    refine z_iadd hC dX2_sail_112 ?_
    refine z_istore hC dX2_sail_113 (by decide) rfl ?_
    refine z_aload_n hC dX2_sail_115 rfl ?_
    refine z_get hC iA_X2 rfl 8 (by decide) qF_X2_33 rfl dX2_sail_116 (cl_desk hb) (cd_desk hb) rfl ?_
    refine z_iload hC dX2_sail_119 rfl ?_
    refine z_aload_n hC dX2_sail_121 rfl ?_
    refine z_aload_n hC dX2_sail_122 rfl ?_
    refine z_get hC iA_X0 rfl 1 (by decide) qF_X2_98 rfl dX2_sail_123 (cl_cargo hb (by omega)) (cd_cargo hb (by omega)) rfl ?_
    refine z_top (b := d (16 + c) 1) ((vw_cargo (by omega) (by omega)).symm.trans (congrFun (congrFun hd8 _) _)) ?_
    refine z_aload_n hC dX2_sail_126 rfl ?_
    refine z_get hC iA_X0 rfl 2 (by decide) qF_X2_101 rfl dX2_sail_127 (cl_cargo hb (by omega)) (cd_cargo hb (by omega)) rfl ?_
    refine z_top (b := d (16 + c) 2) ((vw_cargo (by omega) (by omega)).symm.trans (congrFun (congrFun hd8 _) _)) ?_
    refine z_callV hC [.int (iZ (d (16 + c) 1)), .int (iZ (d (16 + c) 2))] 2 rfl dX2_sail_130 (fun l => m_X2_between l G ca ad _ μ7 b hb d hd8 (d (16 + c) 1) (d (16 + c) 2) hP (by omega) (by omega)) qM_X2_177 qI_X2_between qS_X2_between qi_X2 qC_X2_between (by decide +kernel) (by decide) (by decide) (cl_desk hb) (cd_desk hb) rfl (Nat.le_of_ble_eq_true rfl) (zk_pure ?_) rfl
    refine z_iload hC dX2_sail_133 rfl ?_
    refine z_callSN hC [.int (iZ (sFar d (d (16 + c) 1) (d (16 + c) 2))), .int (iZ (24 * (d (6 + k) 1)))] 2 rfl dX2_sail_135 (fun l => m_X7_divideUp l _ _ _ (sFar d (d (16 + c) 1) (d (16 + c) 2)) (24 * (d (6 + k) 1)) (by omega) (by omega)) (by decide +kernel) qT_X7_divideUp qi_X7 qC_X7_divideUp (by decide +kernel) (by decide) (by decide) (Nat.le_of_ble_eq_true rfl) (zk_pure ?_) rfl
    refine z_top (b := sSail d k (d (16 + c) 1) (d (16 + c) 2)) rfl ?_
    refine z_iadd hC dX2_sail_138 ?_
    refine z_iconst hC dX2_sail_139 ?_
    refine z_iadd hC dX2_sail_140 ?_
    refine z_top (b := sFree d k c p t) rfl ?_
    refine z_put hC iA_X1 rfl tyX1 tyX1_ok nmX1 1 (by decide) rfl rfl 1 rfl qF_X2_135 rfl dX2_sail_141 (cl_course hb) (cd_course hb) (fun _ => rfl) (fun _ => Nat.le_of_ble_eq_true rfl) ?_
    refine z_nm (fun μ9 hμ9 => ?_)
    have hd10 : vw μ9 b = d := by rw [hμ9, vw_c5]; exact hd8
    refine z_aload_n hC dX2_sail_144 rfl ?_
    refine z_get hC iA_X2 rfl 8 (by decide) qF_X2_33 rfl dX2_sail_145 (cl_desk hb) (cd_desk hb) rfl ?_
    refine z_aload_n hC dX2_sail_148 rfl ?_
    refine z_get hC iA_X0 rfl 2 (by decide) qF_X2_101 rfl dX2_sail_149 (cl_cargo hb (by omega)) (cd_cargo hb (by omega)) rfl ?_
    refine z_top (b := d (16 + c) 2) ((vw_cargo (by omega) (by omega)).symm.trans (congrFun (congrFun hd10 _) _)) ?_
    refine z_put hC iA_X1 rfl tyX1 tyX1_ok nmX1 0 (by decide) rfl rfl 0 rfl qF_X2_162 rfl dX2_sail_152 (cl_course hb) (cd_course hb) (fun _ => rfl) (fun _ => Nat.le_of_ble_eq_true rfl) ?_
    refine z_nm (fun μ11 hμ11 => ?_)
    have hd12 : vw μ11 b = d := by rw [hμ11, vw_c5]; exact hd10
    refine z_aload_n hC dX2_sail_155 rfl ?_
    refine z_get hC iA_X2 rfl 8 (by decide) qF_X2_33 rfl dX2_sail_156 (cl_desk hb) (cd_desk hb) rfl ?_
    refine z_aload_n hC dX2_sail_159 rfl ?_
    refine z_get hC iA_X2 rfl 8 (by decide) qF_X2_33 rfl dX2_sail_160 (cl_desk hb) (cd_desk hb) rfl ?_
    refine z_get hC iA_X1 rfl 1 (by decide) qF_X2_135 rfl dX2_sail_163 (cl_course hb) (cd_course hb) rfl ?_
    refine z_top (by rw [hμ11, zup_n (by omega), hμ9, zup_s]) ?_
    refine z_iload hC dX2_sail_166 rfl ?_
    refine z_isub hC dX2_sail_168 ?_
    refine z_put hC iA_X1 rfl tyX1 tyX1_ok nmX1 4 (by decide) rfl rfl 4 rfl qF_X2_194 rfl dX2_sail_169 (cl_course hb) (cd_course hb) (fun _ => rfl) (fun _ => Nat.le_of_ble_eq_true rfl) ?_
    refine z_nm (fun μ13 hμ13 => ?_)
    have hd14 : vw μ13 b = d := by rw [hμ13, vw_c5]; exact hd12
    refine z_aload_n hC dX2_sail_172 rfl ?_
    refine z_get hC iA_X2 rfl 8 (by decide) qF_X2_33 rfl dX2_sail_173 (cl_desk hb) (cd_desk hb) rfl ?_
    refine z_aload_n hC dX2_sail_176 rfl ?_
    refine z_callV hC [] 0 rfl dX2_sail_177 (fun l => m_X0_worth l G ca ad _ μ13 b hb c (by omega)) qM_X2_145 qI_X0_worth qS_X0_worth qi_X0 qC_X0_worth (by decide +kernel) (by decide) (by decide) (cl_cargo hb (by omega)) (cd_cargo hb (by omega)) rfl (Nat.le_of_ble_eq_true rfl) (zk_pure ?_) rfl
    refine z_top (b := d (16 + c) 0 * d (16 + c) 5) (congr (congrArg HMul.hMul ((vw_cargo (by omega) (by omega)).symm.trans (congrFun (congrFun hd14 _) _))) ((vw_cargo (by omega) (by omega)).symm.trans (congrFun (congrFun hd14 _) _))) ?_
    refine z_aload_n hC dX2_sail_180 rfl ?_
    refine z_get hC iA_X2 rfl 8 (by decide) qF_X2_33 rfl dX2_sail_181 (cl_desk hb) (cd_desk hb) rfl ?_
    refine z_get hC iA_X1 rfl 4 (by decide) qF_X2_194 rfl dX2_sail_184 (cl_course hb) (cd_course hb) rfl ?_
    refine z_top (by rw [hμ13, zup_s]) ?_
    refine z_aload_n hC dX2_sail_187 rfl ?_
    refine z_get hC iA_X6 rfl 2 (by decide) qF_X2_86 rfl dX2_sail_188 (cl_ship hb (by omega)) (cd_ship hb (by omega)) rfl ?_
    refine z_top (b := d (6 + k) 2) ((vw_ship (by omega) (by omega)).symm.trans (congrFun (congrFun hd14 _) _)) ?_
    refine z_imul hC dX2_sail_191 ?_
    refine z_isub hC dX2_sail_192 ?_
    refine z_top (b := sEarn d k c p t) rfl ?_
    refine z_put hC iA_X1 rfl tyX1 tyX1_ok nmX1 5 (by decide) rfl rfl 5 rfl qF_X2_197 rfl dX2_sail_193 (cl_course hb) (cd_course hb) (fun _ => rfl) (fun _ => Nat.le_of_ble_eq_true rfl) ?_
    refine z_nm (fun μ15 hμ15 => ?_)
    have hd16 : vw μ15 b = d := by rw [hμ15, vw_c5]; exact hd14
    refine z_aload_n hC dX2_sail_196 rfl ?_
    refine z_get hC iA_X2 rfl 8 (by decide) qF_X2_33 rfl dX2_sail_197 (cl_desk hb) (cd_desk hb) rfl ?_
    refine z_dup hC dX2_sail_200 rfl ?_
    refine z_get hC iA_X1 rfl 6 (by decide) qF_X2_159 rfl dX2_sail_201 (cl_course hb) (cd_course hb) rfl ?_
    refine z_top (b := e) (by rw [hμ15, zup_n (by omega), hμ13, zup_n (by omega), hμ11, zup_n (by omega), hμ9, zup_n (by omega), hμ7, zup_n (by omega), hμ5, zup_n (by omega), hμ3, zup_n (by omega), h6]) ?_
    refine z_aload_n hC dX2_sail_204 rfl ?_
    refine z_get hC iA_X2 rfl 8 (by decide) qF_X2_33 rfl dX2_sail_205 (cl_desk hb) (cd_desk hb) rfl ?_
    refine z_get hC iA_X1 rfl 5 (by decide) qF_X2_197 rfl dX2_sail_208 (cl_course hb) (cd_course hb) rfl ?_
    refine z_top (by rw [hμ15, zup_s]) ?_
    refine z_iadd hC dX2_sail_211 ?_
    refine z_put hC iA_X1 rfl tyX1 tyX1_ok nmX1 6 (by decide) rfl rfl 6 rfl qF_X2_159 rfl dX2_sail_212 (cl_course hb) (cd_course hb) (fun _ => rfl) (fun _ => Nat.le_of_ble_eq_true rfl) ?_
    refine z_nm (fun μ17 hμ17 => ?_)
    have hd18 : vw μ17 b = d := by rw [hμ17, vw_c5]; exact hd16
    exact z_vret hC dX2_sail_215 ⟨rfl, fun c9 hc9 => by rw [hμ17, zup_o hc9, hμ15, zup_o hc9, hμ13, zup_o hc9, hμ11, zup_o hc9, hμ9, zup_o hc9, hμ7, zup_o hc9, hμ5, zup_o hc9, hμ3, zup_o hc9], by rw [hμ17, zup_n (by omega), hμ15, zup_n (by omega), hμ13, zup_n (by omega), hμ11, zup_s], by rw [hμ17, zup_n (by omega), hμ15, zup_n (by omega), hμ13, zup_n (by omega), hμ11, zup_n (by omega), hμ9, zup_s], by rw [hμ17, zup_n (by omega), hμ15, zup_n (by omega), hμ13, zup_n (by omega), hμ11, zup_n (by omega), hμ9, zup_n (by omega), hμ7, zup_n (by omega), hμ5, zup_n (by omega), hμ3, zup_s], by rw [hμ17, zup_n (by omega), hμ15, zup_n (by omega), hμ13, zup_n (by omega), hμ11, zup_n (by omega), hμ9, zup_n (by omega), hμ7, zup_s], by rw [hμ17, zup_n (by omega), hμ15, zup_n (by omega), hμ13, zup_s], by rw [hμ17, zup_n (by omega), hμ15, zup_s], by rw [hμ17, zup_s], by rw [hμ17, zup_n (by omega), hμ15, zup_n (by omega), hμ13, zup_n (by omega), hμ11, zup_n (by omega), hμ9, zup_n (by omega), hμ7, zup_n (by omega), hμ5, zup_s]⟩
  · exfalso; omega
