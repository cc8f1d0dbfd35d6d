set_option maxHeartbeats 4000000 in
set_option maxRecDepth 100000 in
/-- opFix d k c -/
theorem m_X2_fixShip (l : Launch) (G : va_G) (ca : Nat → ClassId) (ad : Int → Nat) (A : Nat → Prop) (μ : zM) (b : Int) (hb : zb b) (d : zM) (hd : vw μ b = d) (k c : Int) (hk : -2147483648 ≤ k ∧ k ≤ 2147483647) (hc : -2147483648 ≤ c ∧ c ≤ 2147483647) (hB : bD d) (hG : ∀ k, 0 ≤ k ∧ k < d 0 4 → zGo d k (sNum d k)) (hfull : ∀ k c, 0 ≤ k ∧ k < d 0 4 → 0 ≤ c ∧ c < d 0 5 → d (16 + c) 6 = 0 → d (6 + k) 6 < 10) : zMet l (cω G ca ad) A yX2_fixShip cX2_fixShip 5 (some .int) 4 112 [.ref (ad b), .int (iZ k), .int (iZ c)] μ (zpI (.int (iZ (opFix d k c).1)) (fun μ' => vw μ' b = (opFix d k c).2 ∧ zFd μ b μ')) := by
  refine zMet_of (by decide) (Nat.le_of_ble_eq_true rfl) (fun Γ hC => ?_)
  show Z Γ _ μ 0 [(0, .ref (ad b)), (1, .int (iZ k)), (2, .int (iZ c))] []
  obtain ⟨hN, hP, hB3, hB4⟩ := id hB
  obtain ⟨hN1, hN2⟩ := id hN
  have hcb := sCould_b d k c
  refine z_aload_n hC dX2_fixShip_0 rfl ?_
  refine z_iload_n hC dX2_fixShip_1 rfl ?_
  have hN1 : μ b 4 = d 0 4 := by rw [← hd, vw_S]
  refine z_callV hC [.int (iZ k)] 1 rfl dX2_fixShip_2 (fun l => m_X2_isShip l G ca ad _ μ b hb k (by omega) (by omega)) qM_X2_113 qI_X2_isShip qS_X2_isShip qi_X2 qC_X2_isShip (by decide +kernel) (by decide) (by decide) (cl_desk hb) (cd_desk hb) rfl (Nat.le_of_ble_eq_true rfl) (zk_pure ?_) rfl
  rw [hN1]
  refine z_ifb_eq hC 16 dX2_fixShip_5 (by decide) (fun c_2 => ?_) (fun c_2 => ?_)
  · refine z_ldc hC (-1000001) qc_X2_73 rfl dX2_fixShip_16 ?_
    have e9 : opFix d k c = ((-1000001), d) := by
      unfold opFix
      rw [if_pos (by omega)]
    exact z_iret hC dX2_fixShip_18 ⟨by rw [e9], by rw [e9, hd], fun c9 hc9 => rfl⟩
  · refine z_aload_n hC dX2_fixShip_8 rfl ?_
    refine z_iload_n hC dX2_fixShip_9 rfl ?_
    have hN3 : μ b 5 = d 0 5 := by rw [← hd, vw_Cn]
    refine z_callV hC [.int (iZ c)] 1 rfl dX2_fixShip_10 (fun l => m_X2_isCargo l G ca ad _ μ b hb c (by omega) (by omega)) qM_X2_116 qI_X2_isCargo qS_X2_isCargo qi_X2 qC_X2_isCargo (by decide +kernel) (by decide) (by decide) (cl_desk hb) (cd_desk hb) rfl (Nat.le_of_ble_eq_true rfl) (zk_pure ?_) rfl
    rw [hN3]
    refine z_ifb_ne hC 19 dX2_fixShip_13 (by decide) (fun c_4 => ?_) (fun c_4 => ?_)
    · obtain ⟨hs0, hs1, hs2, hs3, hs4, hs6⟩ := hB3 k (by omega)
      obtain ⟨hq0, hq1, hq2, hq3, hq4, hq5, hq6⟩ := hB4 c (by omega)
      refine z_aload_n hC dX2_fixShip_19 rfl ?_
      refine z_get hC iA_X2 rfl 2 (by decide) qF_X2_20 rfl dX2_fixShip_20 (cl_desk hb) (cd_desk hb) rfl ?_
      refine z_iload_n hC dX2_fixShip_23 rfl ?_
      refine z_aald hC dX2_fixShip_24 2 rfl (cl_ships hb) (fun _ i => b + 6 + i) (cd_ships hb) (by omega) (by omega) (by decide) ?_
      refine z_astore_n hC dX2_fixShip_25 (by decide) rfl ?_
      refine z_aload_n hC dX2_fixShip_26 rfl ?_
      refine z_get hC iA_X2 rfl 3 (by decide) qF_X2_26 rfl dX2_fixShip_27 (cl_desk hb) (cd_desk hb) rfl ?_
      refine z_iload_n hC dX2_fixShip_30 rfl ?_
      refine z_aald hC dX2_fixShip_31 3 rfl (cl_cargoes hb) (fun _ i => b + 16 + i) (cd_cargoes hb) (by omega) (by omega) (by decide) ?_
      refine z_astore hC dX2_fixShip_32 (by decide) rfl ?_
      refine z_aload hC dX2_fixShip_34 rfl ?_
      refine z_get hC iA_X0 rfl 6 (by decide) qF_X2_119 rfl dX2_fixShip_36 (cl_cargo hb (by omega)) (cd_cargo hb (by omega)) rfl ?_
      refine z_top (b := d (16 + c) 6) ((vw_cargo (by omega) (by omega)).symm.trans (congrFun (congrFun hd _) _)) ?_
      refine z_if_ne hC 60 dX2_fixShip_39 (by decide) (by omega) (fun c_5 => ?_) (fun c_5 => ?_)
      · refine z_ldc hC (-1000002) qc_X2_78 rfl dX2_fixShip_60 ?_
        have e9 : opFix d k c = ((-1000002), d) := by
          unfold opFix
          rw [if_neg (by omega), if_pos (by omega)]
        exact z_iret hC dX2_fixShip_62 ⟨by rw [e9], by rw [e9, hd], fun c9 hc9 => rfl⟩
      · refine z_aload_n hC dX2_fixShip_42 rfl ?_
        refine z_iload_n hC dX2_fixShip_43 rfl ?_
        refine z_iload_n hC dX2_fixShip_44 rfl ?_
        refine z_callV hC [.int (iZ k), .int (iZ c)] 2 rfl dX2_fixShip_45 (fun l => m_X2_hindrance l G ca ad _ μ b hb d hd k c hB (by omega) (by omega) (hG _ (by omega))) qM_X2_122 qI_X2_hindrance qS_X2_hindrance qi_X2 qC_X2_hindrance (by decide +kernel) (by decide) (by decide) (cl_desk hb) (cd_desk hb) rfl (Nat.le_of_ble_eq_true rfl) (zk_int (fun μ6 hμ6 => ?_)) rfl
        obtain ⟨hμ6f, hμ60, hμ61, hμ62, hμ63, hμ64, hμ65, hμ66, hμ67⟩ := id hμ6
        have hd7 : vw μ6 b = d := by rw [vw_fr5 hμ6f]; exact hd
        refine z_if_ne hC 60 dX2_fixShip_48 (by decide) (by omega) (fun c_8 => ?_) (fun c_8 => ?_)
        · refine z_ldc hC (-1000002) qc_X2_78 rfl dX2_fixShip_60 ?_
          have e9 : opFix d k c = ((-1000002), d) := by
            unfold opFix
            rw [if_neg (by omega), if_pos (by omega)]
          exact z_iret hC dX2_fixShip_62 ⟨by rw [e9], by rw [e9, hd7], fun c9 hc9 => by rw [hμ6f c9 (by omega)]⟩
        · have hf9 := hfull k c (by omega) (by omega) (by omega)
          refine z_aload_n hC dX2_fixShip_51 rfl ?_
          refine z_get hC iA_X6 rfl 6 (by decide) qF_X2_126 rfl dX2_fixShip_52 (cl_ship hb (by omega)) (cd_ship hb (by omega)) rfl ?_
          refine z_top (b := d (6 + k) 6) ((vw_ship (by omega) (by omega)).symm.trans (congrFun (congrFun hd7 _) _)) ?_
          refine z_bipush hC dX2_fixShip_55 (by decide) ?_
          refine z_icmp_lt hC 63 dX2_fixShip_57 (by decide) (by omega) (by omega) (fun c_9 => ?_) (fun c_9 => ?_)
          · refine z_aload_n hC dX2_fixShip_63 rfl ?_
            refine z_get hC iA_X6 rfl 7 (by decide) qF_X2_129 rfl dX2_fixShip_64 (cl_ship hb (by omega)) (cd_ship hb (by omega)) rfl ?_
            refine z_aload_n hC dX2_fixShip_67 rfl ?_
            refine z_get hC iA_X6 rfl 6 (by decide) qF_X2_126 rfl dX2_fixShip_68 (cl_ship hb (by omega)) (cd_ship hb (by omega)) rfl ?_
            refine z_top (b := d (6 + k) 6) ((vw_ship (by omega) (by omega)).symm.trans (congrFun (congrFun hd7 _) _)) ?_
            refine z_iload_n hC dX2_fixShip_71 rfl ?_
            refine z_iast hC dX2_fixShip_72 (cl_fx hb (by omega)) (cd_fx hb (by omega)) (by omega) (by omega) (by decide) ?_
            refine z_nm (fun μ10 hμ10 => ?_)
            obtain ⟨d12, hd12⟩ : ∃ q9 : zM, q9 = zup d (11 + k) (d (6 + k) 6) c := ⟨_, rfl⟩
            have hd11 : vw μ10 b = d12 := by rw [hμ10, vw_upk (by unfold zrel; omega), hd7, hd12]
            refine z_aload_n hC dX2_fixShip_73 rfl ?_
            refine z_dup hC dX2_fixShip_74 rfl ?_
            refine z_get hC iA_X6 rfl 6 (by decide) qF_X2_126 rfl dX2_fixShip_75 (cl_ship hb (by omega)) (cd_ship hb (by omega)) rfl ?_
            refine z_top (b := d12 (6 + k) 6) ((vw_ship (by omega) (by omega)).symm.trans (congrFun (congrFun hd11 _) _)) ?_
            refine z_top (b := d (6 + k) 6) (by rw [hd12, zup_n (by omega)]) ?_
            refine z_iconst hC dX2_fixShip_78 ?_
            refine z_iadd hC dX2_fixShip_79 ?_
            refine z_put hC iA_X6 rfl tyX6 tyX6_ok nmX6 6 (by decide) rfl rfl 6 rfl qF_X2_126 rfl dX2_fixShip_80 (cl_ship hb (by omega)) (cd_ship hb (by omega)) (fun _ => rfl) (fun _ => Nat.le_of_ble_eq_true rfl) ?_
            refine z_nm (fun μ13 hμ13 => ?_)
            obtain ⟨d15, hd15⟩ : ∃ q9 : zM, q9 = zup d12 (6 + k) 6 ((d (6 + k) 6) + 1) := ⟨_, rfl⟩
            have hd14 : vw μ13 b = d15 := by rw [hμ13, vw_upk (by unfold zrel; omega), hd11, hd15]
            refine z_aload hC dX2_fixShip_83 rfl ?_
            refine z_iconst hC dX2_fixShip_85 ?_
            refine z_put hC iA_X0 rfl tyX0 tyX0_ok nmX0 6 (by decide) rfl rfl 6 rfl qF_X2_119 rfl dX2_fixShip_86 (cl_cargo hb (by omega)) (cd_cargo hb (by omega)) (fun _ => rfl) (fun _ => Nat.le_of_ble_eq_true rfl) ?_
            refine z_nm (fun μ16 hμ16 => ?_)
            obtain ⟨d18, hd18⟩ : ∃ q9 : zM, q9 = zup d15 (16 + c) 6 1 := ⟨_, rfl⟩
            have hd17 : vw μ16 b = d18 := by rw [hμ16, vw_upk (by unfold zrel; omega), hd14, hd18]
            refine z_aload hC dX2_fixShip_89 rfl ?_
            refine z_iload_n hC dX2_fixShip_91 rfl ?_
            refine z_put hC iA_X0 rfl tyX0 tyX0_ok nmX0 7 (by decide) rfl rfl 7 rfl qF_X2_132 rfl dX2_fixShip_92 (cl_cargo hb (by omega)) (cd_cargo hb (by omega)) (fun _ => rfl) (fun _ => Nat.le_of_ble_eq_true rfl) ?_
            refine z_nm (fun μ19 hμ19 => ?_)
            obtain ⟨d21, hd21⟩ : ∃ q9 : zM, q9 = zup d18 (16 + c) 7 k := ⟨_, rfl⟩
            have hd20 : vw μ19 b = d21 := by rw [hμ19, vw_upk (by unfold zrel; omega), hd17, hd21]
            refine z_aload_n hC dX2_fixShip_95 rfl ?_
            refine z_get hC iA_X2 rfl 8 (by decide) qF_X2_33 rfl dX2_fixShip_96 (cl_desk hb) (cd_desk hb) rfl ?_
            refine z_get hC iA_X1 rfl 1 (by decide) qF_X2_135 rfl dX2_fixShip_99 (cl_course hb) (cd_course hb) rfl ?_
            refine z_top (b := sFree d k c (sEnd d k).1 (sEnd d k).2.1) (by rw [hμ19, zup_n (by omega), hμ16, zup_n (by omega), hμ13, zup_n (by omega), hμ10, zup_n (by omega), hμ61]) ?_
            have e9 : opFix d k c = (sFree d k c (sEnd d k).1 (sEnd d k).2.1, zup (zup (zup (zup d (11 + k) (d (6 + k) 6) c) (6 + k) 6 ((d (6 + k) 6) + 1)) (16 + c) 6 1) (16 + c) 7 k) := by
              unfold opFix
              rw [if_neg (by omega), if_neg (by omega)]
            exact z_iret hC dX2_fixShip_102 ⟨by rw [e9], by rw [e9, hd20, hd21, hd18, hd15, hd12], fun c9 hc9 => by rw [hμ19, zup_o (by omega), hμ16, zup_o (by omega), hμ13, zup_o (by omega), hμ10, zup_o (by omega), hμ6f c9 (by omega)]⟩
          · exfalso; omega
    · refine z_ldc hC (-1000001) qc_X2_73 rfl dX2_fixShip_16 ?_
      have e9 : opFix d k c = ((-1000001), d) := by
        unfold opFix
        rw [if_pos (by omega)]
      exact z_iret hC dX2_fixShip_18 ⟨by rw [e9], by rw [e9, hd], fun c9 hc9 => rfl⟩

set_option maxHeartbeats 4000000 in
set_option maxRecDepth 100000 in
/-- opOff d k -/
theorem m_X2_callOffLast (l : Launch) (G : va_G) (ca : Nat → ClassId) (ad : Int → Nat) (A : Nat → Prop) (μ : zM) (b : Int) (hb : zb b) (d : zM) (hd : vw μ b = d) (k : Int) (hk : -2147483648 ≤ k ∧ k ≤ 2147483647) (hB : bD d) (hF : ∀ k, 0 ≤ k ∧ k < d 0 4 → ∀ x, 0 ≤ x ∧ x < d (6 + k) 6 → 0 ≤ d (11 + k) x ∧ d (11 + k) x < d 0 5) : zMet l (cω G ca ad) A yX2_callOffLast cX2_callOffLast 5 (some .int) 2 45 [.ref (ad b), .int (iZ k)] μ (zpI (.int (iZ (opOff d k).1)) (fun μ' => vw μ' b = (opOff d k).2 ∧ zFd μ b μ')) := by
  refine zMet_of (by decide) (Nat.le_of_ble_eq_true rfl) (fun Γ hC => ?_)
  show Z Γ _ μ 0 [(0, .ref (ad b)), (1, .int (iZ k))] []
  obtain ⟨hN, hP, hB3, hB4⟩ := id hB
  obtain ⟨hN1, hN2⟩ := id hN
  have hN9 := hN
  refine z_aload_n hC dX2_callOffLast_0 rfl ?_
  refine z_iload_n hC dX2_callOffLast_1 rfl ?_
  have hN1 : μ b 4 = d 0 4 := by rw [← hd, vw_S]
  refine z_callV hC [.int (iZ k)] 1 rfl dX2_callOffLast_2 (fun l => m_X2_isShip l G ca ad _ μ b hb k (by omega) (by omega)) qM_X2_113 qI_X2_isShip qS_X2_isShip qi_X2 qC_X2_isShip (by decide +kernel) (by decide) (by decide) (cl_desk hb) (cd_desk hb) rfl (Nat.le_of_ble_eq_true rfl) (zk_pure ?_) rfl
  rw [hN1]
  refine z_ifb_ne hC 11 dX2_callOffLast_5 (by decide) (fun c_2 => ?_) (fun c_2 => ?_)
  · obtain ⟨hs0, hs1, hs2, hs3, hs4, hs6⟩ := hB3 k (by omega)
    refine z_aload_n hC dX2_callOffLast_11 rfl ?_
    refine z_get hC iA_X2 rfl 2 (by decide) qF_X2_20 rfl dX2_callOffLast_12 (cl_desk hb) (cd_desk hb) rfl ?_
    refine z_iload_n hC dX2_callOffLast_15 rfl ?_
    refine z_aald hC dX2_callOffLast_16 2 rfl (cl_ships hb) (fun _ i => b + 6 + i) (cd_ships hb) (by omega) (by omega) (by decide) ?_
    refine z_astore_n hC dX2_callOffLast_17 (by decide) rfl ?_
    refine z_aload_n hC dX2_callOffLast_18 rfl ?_
    refine z_get hC iA_X6 rfl 6 (by decide) qF_X2_126 rfl dX2_callOffLast_19 (cl_ship hb (by omega)) (cd_ship hb (by omega)) rfl ?_
    refine z_top (b := d (6 + k) 6) ((vw_ship (by omega) (by omega)).symm.trans (congrFun (congrFun hd _) _)) ?_
    refine z_iconst hC dX2_callOffLast_22 ?_
    refine z_isub hC dX2_callOffLast_23 ?_
    refine z_istore_n hC dX2_callOffLast_24 (by decide) rfl ?_
    refine z_iload_n hC dX2_callOffLast_25 rfl ?_
    refine z_if_lt hC 42 dX2_callOffLast_26 (by decide) (by omega) (fun c_3 => ?_) (fun c_3 => ?_)
    · refine z_ldc hC (-1000002) qc_X2_78 rfl dX2_callOffLast_42 ?_
      have e9 : opOff d k = ((-1000002), d) := by
        unfold opOff
        rw [if_neg (by omega), if_pos (by omega)]
      exact z_iret hC dX2_callOffLast_44 ⟨by rw [e9], by rw [e9, hd], fun c9 hc9 => rfl⟩
    · have hx9 := hF k (by omega) (d (6 + k) 6 - 1) (by omega)
      have hw9 := worth_b (hB4 _ hx9)
      refine z_aload_n hC dX2_callOffLast_29 rfl ?_
      refine z_aload_n hC dX2_callOffLast_30 rfl ?_
      refine z_get hC iA_X6 rfl 7 (by decide) qF_X2_129 rfl dX2_callOffLast_31 (cl_ship hb (by omega)) (cd_ship hb (by omega)) rfl ?_
      refine z_iload_n hC dX2_callOffLast_34 rfl ?_
      refine z_iald hC dX2_callOffLast_35 (cl_fx hb (by omega)) (cd_fx hb (by omega)) (by omega) (by omega) (by decide) ?_
      refine z_top (b := d (11 + k) ((d (6 + k) 6) - 1)) ((vw_fx (by omega) (by omega)).symm.trans (congrFun (congrFun hd _) _)) ?_
      have hN4 : μ b 5 = d 0 5 := by rw [← hd, vw_Cn]
      refine z_callV hC [.int (iZ (d (11 + k) ((d (6 + k) 6) - 1)))] 1 rfl dX2_callOffLast_36 (fun l => m_X2_isCargo l G ca ad _ μ b hb (d (11 + k) ((d (6 + k) 6) - 1)) (by omega) (by omega)) qM_X2_116 qI_X2_isCargo qS_X2_isCargo qi_X2 qC_X2_isCargo (by decide +kernel) (by decide) (by decide) (cl_desk hb) (cd_desk hb) rfl (Nat.le_of_ble_eq_true rfl) (zk_pure ?_) rfl
      rw [hN4]
      refine z_ifb_ne hC 45 dX2_callOffLast_39 (by decide) (fun c_5 => ?_) (fun c_5 => ?_)
      · refine z_aload_n hC dX2_callOffLast_45 rfl ?_
        refine z_get hC iA_X2 rfl 3 (by decide) qF_X2_26 rfl dX2_callOffLast_46 (cl_desk hb) (cd_desk hb) rfl ?_
        refine z_aload_n hC dX2_callOffLast_49 rfl ?_
        refine z_get hC iA_X6 rfl 7 (by decide) qF_X2_129 rfl dX2_callOffLast_50 (cl_ship hb (by omega)) (cd_ship hb (by omega)) rfl ?_
        refine z_iload_n hC dX2_callOffLast_53 rfl ?_
        refine z_iald hC dX2_callOffLast_54 (cl_fx hb (by omega)) (cd_fx hb (by omega)) (by omega) (by omega) (by decide) ?_
        refine z_top (b := d (11 + k) ((d (6 + k) 6) - 1)) ((vw_fx (by omega) (by omega)).symm.trans (congrFun (congrFun hd _) _)) ?_
        refine z_aald hC dX2_callOffLast_55 3 rfl (cl_cargoes hb) (fun _ i => b + 16 + i) (cd_cargoes hb) (by omega) (by omega) (by decide) ?_
        refine z_callV hC [] 0 rfl dX2_callOffLast_56 (fun l => m_X0_worth l G ca ad _ μ b hb (d (11 + k) ((d (6 + k) 6) - 1)) (by omega)) qM_X2_145 qI_X0_worth qS_X0_worth qi_X0 qC_X0_worth (by decide +kernel) (by decide) (by decide) (cl_cargo hb (by omega)) (cd_cargo hb (by omega)) rfl (Nat.le_of_ble_eq_true rfl) (zk_pure ?_) rfl
        refine z_top (b := d (16 + (d (11 + k) ((d (6 + k) 6) - 1))) 0 * d (16 + (d (11 + k) ((d (6 + k) 6) - 1))) 5) (congr (congrArg HMul.hMul ((vw_cargo (by omega) (by omega)).symm.trans (congrFun (congrFun hd _) _))) ((vw_cargo (by omega) (by omega)).symm.trans (congrFun (congrFun hd _) _))) ?_
        refine z_bipush hC dX2_callOffLast_59 (by decide) ?_
        refine z_callSN hC [.int (iZ (d (16 + (d (11 + k) ((d (6 + k) 6) - 1))) 0 * d (16 + (d (11 + k) ((d (6 + k) 6) - 1))) 5)), .int (iZ 10)] 2 rfl dX2_callOffLast_61 (fun l => m_X7_divideUp l _ _ _ (d (16 + (d (11 + k) ((d (6 + k) 6) - 1))) 0 * d (16 + (d (11 + k) ((d (6 + k) 6) - 1))) 5) 10 (by omega) (by omega)) (by decide +kernel) qT_X7_divideUp qi_X7 qC_X7_divideUp (by decide +kernel) (by decide) (by decide) (Nat.le_of_ble_eq_true rfl) (zk_pure ?_) rfl
        refine z_top (b := sPay d (d (11 + k) (d (6 + k) 6 - 1))) rfl ?_
        refine z_istore hC dX2_callOffLast_64 (by decide) rfl ?_
        refine z_aload_n hC dX2_callOffLast_66 rfl ?_
        refine z_aload_n hC dX2_callOffLast_67 rfl ?_
        refine z_iload_n hC dX2_callOffLast_68 rfl ?_
        refine z_iconst hC dX2_callOffLast_69 ?_
        refine z_callV hC [.ref (ad (b + 6 + k)), .int (iZ ((d (6 + k) 6) - 1)), .int (iZ 0)] 3 rfl dX2_callOffLast_70 (fun l => m_X2_dropFixtures l G ca ad _ μ b hb d hd k ((d (6 + k) 6) - 1) 0 1 hN9 (by omega) (by omega) (by omega) (by omega) (by omega) (fun x hx => hF k (by omega) x (by omega))) qM_X2_141 qI_X2_dropFixtures qS_X2_dropFixtures qi_X2 qC_X2_dropFixtures (by decide +kernel) (by decide) (by decide) (cl_desk hb) (cd_desk hb) rfl (Nat.le_of_ble_eq_true rfl) (zk_void (fun μ6 hμ6 => ?_)) rfl
        obtain ⟨hμ6v, hμ6f⟩ := id hμ6
        obtain ⟨d8, hd8⟩ : ∃ q9 : zM, q9 = zup (sDrop k 0 1 ((d (6 + k) 6) - 1) d) (6 + k) 6 ((d (6 + k) 6) - 1) := ⟨_, rfl⟩
        have hd7 : vw μ6 b = d8 := by rw [hd8]; exact hμ6v
        refine z_aload_n hC dX2_callOffLast_73 rfl ?_
        refine z_dup hC dX2_callOffLast_74 rfl ?_
        refine z_get hC iA_X6 rfl 5 (by decide) qF_X2_152 rfl dX2_callOffLast_75 (cl_ship hb (by omega)) (cd_ship hb (by omega)) rfl ?_
        refine z_top (b := d8 (6 + k) 5) ((vw_ship (by omega) (by omega)).symm.trans (congrFun (congrFun hd7 _) _)) ?_
        refine z_top (b := (sDrop k 0 1 ((d (6 + k) 6) - 1) d) (6 + k) 5) (by rw [hd8, zup_n (by omega)]) ?_
        refine z_top (b := d (6 + k) 5) (by rw [sDrop_o _ _ _ _ _ (by omega) (fun j hj => (hF k (by omega) j (by omega)).1) (by omega)]) ?_
        refine z_iload hC dX2_callOffLast_78 rfl ?_
        refine z_isub hC dX2_callOffLast_80 ?_
        refine z_put hC iA_X6 rfl tyX6 tyX6_ok nmX6 5 (by decide) rfl rfl 5 rfl qF_X2_152 rfl dX2_callOffLast_81 (cl_ship hb (by omega)) (cd_ship hb (by omega)) (fun _ => rfl) (fun _ => Nat.le_of_ble_eq_true rfl) ?_
        refine z_nm (fun μ9 hμ9 => ?_)
        obtain ⟨d11, hd11⟩ : ∃ q9 : zM, q9 = zup d8 (6 + k) 5 ((d (6 + k) 5) - (sPay d (d (11 + k) (d (6 + k) 6 - 1)))) := ⟨_, rfl⟩
        have hd10 : vw μ9 b = d11 := by rw [hμ9, vw_upk (by unfold zrel; omega), hd7, hd11]
        refine z_aload_n hC dX2_callOffLast_84 rfl ?_
        refine z_dup hC dX2_callOffLast_85 rfl ?_
        refine z_get hC iA_X2 rfl 7 (by decide) qF_X2_62 rfl dX2_callOffLast_86 (cl_desk hb) (cd_desk hb) rfl ?_
        refine z_top (b := d11 0 7) ((vw_off).symm.trans (congrFun (congrFun hd10 _) _)) ?_
        refine z_top (b := (sDrop k 0 1 ((d (6 + k) 6) - 1) d) 0 7) (by rw [hd11, zup_n (by omega), hd8, zup_n (by omega)]) ?_
        refine z_top (b := d 0 7) (by rw [sDrop_o _ _ _ _ _ (by omega) (fun j hj => (hF k (by omega) j (by omega)).1) (by omega)]) ?_
        refine z_iconst hC dX2_callOffLast_89 ?_
        refine z_iadd hC dX2_callOffLast_90 ?_
        refine z_put hC iA_X2 rfl tyX2 tyX2_ok nmX2 7 (by decide) rfl rfl 7 rfl qF_X2_62 rfl dX2_callOffLast_91 (cl_desk hb) (cd_desk hb) (fun _ => rfl) (fun _ => Nat.le_of_ble_eq_true rfl) ?_
        refine z_nm (fun μ12 hμ12 => ?_)
        obtain ⟨d14, hd14⟩ : ∃ q9 : zM, q9 = zup d11 0 7 ((d 0 7) + 1) := ⟨_, rfl⟩
        have hd13 : vw μ12 b = d14 := by rw [hμ12, vw_up0 (by unfold zrel; omega), hd10, hd14]
        refine z_iload hC dX2_callOffLast_94 rfl ?_
        have e9 : opOff d k = (sPay d (d (11 + k) (d (6 + k) 6 - 1)), zup (zup (zup (sDrop k 0 1 ((d (6 + k) 6) - 1) d) (6 + k) 6 ((d (6 + k) 6) - 1)) (6 + k) 5 ((d (6 + k) 5) - (sPay d (d (11 + k) (d (6 + k) 6 - 1))))) 0 7 ((d 0 7) + 1)) := by
          unfold opOff
          rw [if_neg (by omega), if_neg (by omega)]
        exact z_iret hC dX2_callOffLast_96 ⟨by rw [e9], by rw [e9, hd13, hd14, hd11, hd8], fun c9 hc9 => by rw [hμ12, zup_o (by omega), hμ9, zup_o (by omega), hμ6f c9 (by omega)]⟩
      · exfalso; omega
  · refine z_ldc hC (-1000001) qc_X2_73 rfl dX2_callOffLast_8 ?_
    have e9 : opOff d k = ((-1000001), d) := by
      unfold opOff
      rw [if_pos (by omega)]
    exact z_iret hC dX2_callOffLast_10 ⟨by rw [e9], by rw [e9, hd], fun c9 hc9 => rfl⟩

set_option maxHeartbeats 4000000 in
set_option maxRecDepth 100000 in
/-- opSettle d k -/
theorem m_X2_settleShip (l : Launch) (G : va_G) (ca : Nat → ClassId) (ad : Int → Nat) (A : Nat → Prop) (μ : zM) (b : Int) (hb : zb b) (d : zM) (hd : vw μ b = d) (k : Int) (hk : -2147483648 ≤ k ∧ k ≤ 2147483647) (hB : bD d) (hG : ∀ k, 0 ≤ k ∧ k < d 0 4 → zGo d k (sNum d k)) (hF : ∀ k, 0 ≤ k ∧ k < d 0 4 → ∀ x, 0 ≤ x ∧ x < d (6 + k) 6 → 0 ≤ d (11 + k) x ∧ d (11 + k) x < d 0 5) : zMet l (cω G ca ad) A yX2_settleShip cX2_settleShip 3 (some .int) 4 111 [.ref (ad b), .int (iZ k)] μ (zpI (.int (iZ (opSettle d k).1)) (fun μ' => vw μ' b = (opSettle d k).2 ∧ zFd μ b μ')) := by
  refine zMet_of (by decide) (Nat.le_of_ble_eq_true rfl) (fun Γ hC => ?_)
  show Z Γ _ μ 0 [(0, .ref (ad b)), (1, .int (iZ k))] []
  obtain ⟨hN, hP, hB3, hB4⟩ := id hB
  obtain ⟨hN1, hN2⟩ := id hN
  refine z_aload_n hC dX2_settleShip_0 rfl ?_
  refine z_iload_n hC dX2_settleShip_1 rfl ?_
  have hN1 : μ b 4 = d 0 4 := by rw [← hd, vw_S]
  refine z_callV hC [.int (iZ k)] 1 rfl dX2_settleShip_2 (fun l => m_X2_isShip l G ca ad _ μ b hb k (by omega) (by omega)) qM_X2_113 qI_X2_isShip qS_X2_isShip qi_X2 qC_X2_isShip (by decide +kernel) (by decide) (by decide) (cl_desk hb) (cd_desk hb) rfl (Nat.le_of_ble_eq_true rfl) (zk_pure ?_) rfl
  rw [hN1]
  refine z_ifb_ne hC 11 dX2_settleShip_5 (by decide) (fun c_2 => ?_) (fun c_2 => ?_)
  · obtain ⟨hs0, hs1, hs2, hs3, hs4, hs6⟩ := hB3 k (by omega)
    refine z_aload_n hC dX2_settleShip_11 rfl ?_
    refine z_get hC iA_X2 rfl 2 (by decide) qF_X2_20 rfl dX2_settleShip_12 (cl_desk hb) (cd_desk hb) rfl ?_
    refine z_iload_n hC dX2_settleShip_15 rfl ?_
    refine z_aald hC dX2_settleShip_16 2 rfl (cl_ships hb) (fun _ i => b + 6 + i) (cd_ships hb) (by omega) (by omega) (by decide) ?_
    refine z_astore_n hC dX2_settleShip_17 (by decide) rfl ?_
    refine z_aload_n hC dX2_settleShip_18 rfl ?_
    refine z_get hC iA_X6 rfl 6 (by decide) qF_X2_126 rfl dX2_settleShip_19 (cl_ship hb (by omega)) (cd_ship hb (by omega)) rfl ?_
    refine z_top (b := d (6 + k) 6) ((vw_ship (by omega) (by omega)).symm.trans (congrFun (congrFun hd _) _)) ?_
    refine z_if_ne hC 28 dX2_settleShip_22 (by decide) (by omega) (fun c_3 => ?_) (fun c_3 => ?_)
    · refine z_aload_n hC dX2_settleShip_28 rfl ?_
      refine z_iload_n hC dX2_settleShip_29 rfl ?_
      refine z_callV hC [.int (iZ k)] 1 rfl dX2_settleShip_30 (fun l => m_X2_followAll l G ca ad _ μ b hb d hd k hB (by omega) (hG _ (by omega))) qM_X2_155 qI_X2_followAll qS_X2_followAll qi_X2 qC_X2_followAll (by decide +kernel) (by decide) (by decide) (cl_desk hb) (cd_desk hb) rfl (Nat.le_of_ble_eq_true rfl) (zk_int (fun μ4 hμ4 => ?_)) rfl
      obtain ⟨hμ4f, hμ40, hμ41, hμ46, hμ4m⟩ := id hμ4
      have hμ40 : μ4 (b + 5) 0 = (sEnd d k).1 := hμ40
      have hμ41 : μ4 (b + 5) 1 = (sEnd d k).2.1 := hμ41
      have hμ46 : μ4 (b + 5) 6 = (sEnd d k).2.2 := hμ46
      have hd5 : vw μ4 b = d := by rw [vw_fr5 hμ4f]; exact hd
      refine z_pop hC dX2_settleShip_33 rfl ?_
      refine z_aload_n hC dX2_settleShip_34 rfl ?_
      refine z_dup hC dX2_settleShip_35 rfl ?_
      refine z_get hC iA_X6 rfl 5 (by decide) qF_X2_152 rfl dX2_settleShip_36 (cl_ship hb (by omega)) (cd_ship hb (by omega)) rfl ?_
      refine z_top (b := d (6 + k) 5) ((vw_ship (by omega) (by omega)).symm.trans (congrFun (congrFun hd5 _) _)) ?_
      refine z_aload_n hC dX2_settleShip_39 rfl ?_
      refine z_get hC iA_X2 rfl 8 (by decide) qF_X2_33 rfl dX2_settleShip_40 (cl_desk hb) (cd_desk hb) rfl ?_
      refine z_get hC iA_X1 rfl 6 (by decide) qF_X2_159 rfl dX2_settleShip_43 (cl_course hb) (cd_course hb) rfl ?_
      refine z_top (b := (sEnd d k).2.2) (by rw [hμ46]) ?_
      refine z_iadd hC dX2_settleShip_46 ?_
      refine z_put hC iA_X6 rfl tyX6 tyX6_ok nmX6 5 (by decide) rfl rfl 5 rfl qF_X2_152 rfl dX2_settleShip_47 (cl_ship hb (by omega)) (cd_ship hb (by omega)) (fun _ => rfl) (fun _ => Nat.le_of_ble_eq_true rfl) ?_
      refine z_nm (fun μ6 hμ6 => ?_)
      obtain ⟨d8, hd8⟩ : ∃ q9 : zM, q9 = zup d (6 + k) 5 ((d (6 + k) 5) + ((sEnd d k).2.2)) := ⟨_, rfl⟩
      have hd7 : vw μ6 b = d8 := by rw [hμ6, vw_upk (by unfold zrel; omega), hd5, hd8]
      refine z_aload_n hC dX2_settleShip_50 rfl ?_
      refine z_aload_n hC dX2_settleShip_51 rfl ?_
      refine z_get hC iA_X2 rfl 8 (by decide) qF_X2_33 rfl dX2_settleShip_52 (cl_desk hb) (cd_desk hb) rfl ?_
      refine z_get hC iA_X1 rfl 0 (by decide) qF_X2_162 rfl dX2_settleShip_55 (cl_course hb) (cd_course hb) rfl ?_
      refine z_top (b := (sEnd d k).1) (by rw [hμ6, zup_n (by omega), hμ40]) ?_
      refine z_put hC iA_X6 rfl tyX6 tyX6_ok nmX6 3 (by decide) rfl rfl 3 rfl qF_X2_89 rfl dX2_settleShip_58 (cl_ship hb (by omega)) (cd_ship hb (by omega)) (fun _ => rfl) (fun _ => Nat.le_of_ble_eq_true rfl) ?_
      refine z_nm (fun μ9 hμ9 => ?_)
      obtain ⟨d11, hd11⟩ : ∃ q9 : zM, q9 = zup d8 (6 + k) 3 ((sEnd d k).1) := ⟨_, rfl⟩
      have hd10 : vw μ9 b = d11 := by rw [hμ9, vw_upk (by unfold zrel; omega), hd7, hd11]
      refine z_aload_n hC dX2_settleShip_61 rfl ?_
      refine z_aload_n hC dX2_settleShip_62 rfl ?_
      refine z_get hC iA_X2 rfl 8 (by decide) qF_X2_33 rfl dX2_settleShip_63 (cl_desk hb) (cd_desk hb) rfl ?_
      refine z_get hC iA_X1 rfl 1 (by decide) qF_X2_135 rfl dX2_settleShip_66 (cl_course hb) (cd_course hb) rfl ?_
      refine z_top (b := (sEnd d k).2.1) (by rw [hμ9, zup_n (by omega), hμ6, zup_n (by omega), hμ41]) ?_
      refine z_put hC iA_X6 rfl tyX6 tyX6_ok nmX6 4 (by decide) rfl rfl 4 rfl qF_X2_92 rfl dX2_settleShip_69 (cl_ship hb (by omega)) (cd_ship hb (by omega)) (fun _ => rfl) (fun _ => Nat.le_of_ble_eq_true rfl) ?_
      refine z_nm (fun μ12 hμ12 => ?_)
      obtain ⟨d14, hd14⟩ : ∃ q9 : zM, q9 = zup d11 (6 + k) 4 ((sEnd d k).2.1) := ⟨_, rfl⟩
      have hd13 : vw μ12 b = d14 := by rw [hμ12, vw_upk (by unfold zrel; omega), hd10, hd14]
      have eo : ∀ o i, (o ≠ 6 + k ∨ (i ≠ 3 ∧ i ≠ 4 ∧ i ≠ 5)) → d14 o i = d o i := fun o i q => by rw [hd14, zup_n (by omega), hd11, zup_n (by omega), hd8, zup_n (by omega)]
      have hN9 : bN d14 := by unfold bN; rw [eo 0 4 (by omega), eo 0 5 (by omega)]; exact hN
      have hf6 : d14 (6 + k) 6 = d (6 + k) 6 := eo _ _ (by omega)
      have hNe := sNum_e (d := d) (k := k) (by omega)
      refine z_aload_n hC dX2_settleShip_72 rfl ?_
      refine z_aload_n hC dX2_settleShip_73 rfl ?_
      refine z_iconst hC dX2_settleShip_74 ?_
      refine z_iconst hC dX2_settleShip_75 ?_
      refine z_callV hC [.ref (ad (b + 6 + k)), .int (iZ 0), .int (iZ 2)] 3 rfl dX2_settleShip_76 (fun l => m_X2_dropFixtures l G ca ad _ μ12 b hb d14 hd13 k 0 2 (sNum d k) hN9 (by omega) (by omega) (by omega) (by omega) (by omega) (fun x hx => by rw [eo (11 + k) x (by omega), eo 0 5 (by omega)]; exact hF k (by omega) x (by omega))) qM_X2_141 qI_X2_dropFixtures qS_X2_dropFixtures qi_X2 qC_X2_dropFixtures (by decide +kernel) (by decide) (by decide) (cl_desk hb) (cd_desk hb) rfl (Nat.le_of_ble_eq_true rfl) (zk_void (fun μ15 hμ15 => ?_)) rfl
      obtain ⟨hμ15v, hμ15f⟩ := id hμ15
      obtain ⟨d17, hd17⟩ : ∃ q9 : zM, q9 = zup (sDrop k 2 (sNum d k) 0 d14) (6 + k) 6 0 := ⟨_, rfl⟩
      have hd16 : vw μ15 b = d17 := by rw [hd17]; exact hμ15v
      refine z_aload_n hC dX2_settleShip_79 rfl ?_
      refine z_get hC iA_X2 rfl 8 (by decide) qF_X2_33 rfl dX2_settleShip_80 (cl_desk hb) (cd_desk hb) rfl ?_
      refine z_get hC iA_X1 rfl 6 (by decide) qF_X2_159 rfl dX2_settleShip_83 (cl_course hb) (cd_course hb) rfl ?_
      refine z_top (b := (sEnd d k).2.2) (by rw [hμ15f (b + 5) (by omega), hμ12, zup_n (by omega), hμ9, zup_n (by omega), hμ6, zup_n (by omega), hμ46]) ?_
      refine z_ldc hC (1000000) qc_X2_165 rfl dX2_settleShip_86 ?_
      refine z_iadd hC dX2_settleShip_88 ?_
      have e9 : opSettle d k = (((sEnd d k).2.2) + (1000000), zup (sDrop k 2 (sNum d k) 0 d14) (6 + k) 6 0) := by
        unfold opSettle
        rw [if_neg (by omega), if_neg (by omega)]
        rw [hd14, hd11, hd8]
      exact z_iret hC dX2_settleShip_89 ⟨by rw [e9], by rw [e9, hd16, hd17, hd14, hd11, hd8], fun c9 hc9 => by rw [hμ15f c9 (by omega), hμ12, zup_o (by omega), hμ9, zup_o (by omega), hμ6, zup_o (by omega), hμ4f c9 (by omega)]⟩
    · refine z_ldc hC (-1000002) qc_X2_78 rfl dX2_settleShip_25 ?_
      have e9 : opSettle d k = ((-1000002), d) := by
        unfold opSettle
        rw [if_neg (by omega), if_pos (by omega)]
      exact z_iret hC dX2_settleShip_27 ⟨by rw [e9], by rw [e9, hd], fun c9 hc9 => rfl⟩
  · refine z_ldc hC (-1000001) qc_X2_73 rfl dX2_settleShip_8 ?_
    have e9 : opSettle d k = ((-1000001), d) := by
      unfold opSettle
      rw [if_pos (by omega)]
    exact z_iret hC dX2_settleShip_10 ⟨by rw [e9], by rw [e9, hd], fun c9 hc9 => rfl⟩

set_option maxHeartbeats 4000000 in
set_option maxRecDepth 100000 in
/-- opDelay d k n -/
theorem m_X2_delayShip (l : Launch) (G : va_G) (ca : Nat → ClassId) (ad : Int → Nat) (A : Nat → Prop) (μ : zM) (b : Int) (hb : zb b) (d : zM) (hd : vw μ b = d) (k n : Int) (hk : -2147483648 ≤ k ∧ k ≤ 2147483647) (hn : -2147483648 ≤ n ∧ n ≤ 2147483647) (hB : bD d) (hF : ∀ k, 0 ≤ k ∧ k < d 0 4 → ∀ x, 0 ≤ x ∧ x < d (6 + k) 6 → 0 ≤ d (11 + k) x ∧ d (11 + k) x < d 0 5) : zMet l (cω G ca ad) A yX2_delayShip cX2_delayShip 6 (some .int) 3 89 [.ref (ad b), .int (iZ k), .int (iZ n)] μ (zpI (.int (iZ (opDelay d k n).1)) (fun μ' => vw μ' b = (opDelay d k n).2 ∧ zFd μ b μ')) := by
  refine zMet_of (by decide) (Nat.le_of_ble_eq_true rfl) (fun Γ hC => ?_)
  show Z Γ _ μ 0 [(0, .ref (ad b)), (1, .int (iZ k)), (2, .int (iZ n))] []
  obtain ⟨hN, hP, hB3, hB4⟩ := id hB
  obtain ⟨hN1, hN2⟩ := id hN
  refine z_aload_n hC dX2_delayShip_0 rfl ?_
  refine z_iload_n hC dX2_delayShip_1 rfl ?_
  have hN1 : μ b 4 = d 0 4 := by rw [← hd, vw_S]
  refine z_callV hC [.int (iZ k)] 1 rfl dX2_delayShip_2 (fun l => m_X2_isShip l G ca ad _ μ b hb k (by omega) (by omega)) qM_X2_113 qI_X2_isShip qS_X2_isShip qi_X2 qC_X2_isShip (by decide +kernel) (by decide) (by decide) (cl_desk hb) (cd_desk hb) rfl (Nat.le_of_ble_eq_true rfl) (zk_pure ?_) rfl
  rw [hN1]
  refine z_ifb_eq hC 18 dX2_delayShip_5 (by decide) (fun c_2 => ?_) (fun c_2 => ?_)
  · refine z_ldc hC (-1000001) qc_X2_73 rfl dX2_delayShip_18 ?_
    have e9 : opDelay d k n = ((-1000001), d) := by
      unfold opDelay
      rw [if_pos (by omega)]
    exact z_iret hC dX2_delayShip_20 ⟨by rw [e9], by rw [e9, hd], fun c9 hc9 => rfl⟩
  · refine z_iload_n hC dX2_delayShip_8 rfl ?_
    refine z_iconst hC dX2_delayShip_9 ?_
    refine z_bipush hC dX2_delayShip_10 (by decide) ?_
    refine z_callSN hC [.int (iZ n), .int (iZ 1), .int (iZ 99)] 3 rfl dX2_delayShip_12 (fun l => m_X7_isIn l _ _ _ n 1 99 (by omega) (by omega) (by omega)) (by decide +kernel) qT_X7_isIn qi_X7 qC_X7_isIn (by decide +kernel) (by decide) (by decide) (Nat.le_of_ble_eq_true rfl) (zk_pure ?_) rfl
    refine z_ifb_ne hC 21 dX2_delayShip_15 (by decide) (fun c_3 => ?_) (fun c_3 => ?_)
    · obtain ⟨hs0, hs1, hs2, hs3, hs4, hs6⟩ := hB3 k (by omega)
      refine z_aload_n hC dX2_delayShip_21 rfl ?_
      refine z_get hC iA_X2 rfl 2 (by decide) qF_X2_20 rfl dX2_delayShip_22 (cl_desk hb) (cd_desk hb) rfl ?_
      refine z_iload_n hC dX2_delayShip_25 rfl ?_
      refine z_aald hC dX2_delayShip_26 2 rfl (cl_ships hb) (fun _ i => b + 6 + i) (cd_ships hb) (by omega) (by omega) (by decide) ?_
      refine z_astore_n hC dX2_delayShip_27 (by decide) rfl ?_
      refine z_aload_n hC dX2_delayShip_28 rfl ?_
      refine z_get hC iA_X6 rfl 4 (by decide) qF_X2_92 rfl dX2_delayShip_29 (cl_ship hb (by omega)) (cd_ship hb (by omega)) rfl ?_
      refine z_top (b := d (6 + k) 4) ((vw_ship (by omega) (by omega)).symm.trans (congrFun (congrFun hd _) _)) ?_
      refine z_iload_n hC dX2_delayShip_32 rfl ?_
      refine z_iadd hC dX2_delayShip_33 ?_
      refine z_sipush hC dX2_delayShip_34 (by decide) ?_
      refine z_icmp_le hC 43 dX2_delayShip_37 (by decide) (by omega) (by omega) (fun c_4 => ?_) (fun c_4 => ?_)
      · refine z_aload_n hC dX2_delayShip_43 rfl ?_
        refine z_dup hC dX2_delayShip_44 rfl ?_
        refine z_get hC iA_X6 rfl 4 (by decide) qF_X2_92 rfl dX2_delayShip_45 (cl_ship hb (by omega)) (cd_ship hb (by omega)) rfl ?_
        refine z_top (b := d (6 + k) 4) ((vw_ship (by omega) (by omega)).symm.trans (congrFun (congrFun hd _) _)) ?_
        refine z_iload_n hC dX2_delayShip_48 rfl ?_
        refine z_iadd hC dX2_delayShip_49 ?_
        refine z_put hC iA_X6 rfl tyX6 tyX6_ok nmX6 4 (by decide) rfl rfl 4 rfl qF_X2_92 rfl dX2_delayShip_50 (cl_ship hb (by omega)) (cd_ship hb (by omega)) (fun _ => rfl) (fun _ => Nat.le_of_ble_eq_true rfl) ?_
        refine z_nm (fun μ5 hμ5 => ?_)
        obtain ⟨d7, hd7⟩ : ∃ q9 : zM, q9 = zup d (6 + k) 4 ((d (6 + k) 4) + n) := ⟨_, rfl⟩
        have hd6 : vw μ5 b = d7 := by rw [hμ5, vw_upk (by unfold zrel; omega), hd, hd7]
        have hL : d7 = sLater d k n := hd7
        refine z_aload_n hC dX2_delayShip_53 rfl ?_
        refine z_get hC iA_X6 rfl 6 (by decide) qF_X2_126 rfl dX2_delayShip_54 (cl_ship hb (by omega)) (cd_ship hb (by omega)) rfl ?_
        refine z_top (b := d7 (6 + k) 6) ((vw_ship (by omega) (by omega)).symm.trans (congrFun (congrFun hd6 _) _)) ?_
        refine z_top (b := d (6 + k) 6) (by rw [hd7, zup_n (by omega)]) ?_
        refine z_istore hC dX2_delayShip_57 (by decide) rfl ?_
        refine z_aload_n hC dX2_delayShip_59 rfl ?_
        refine z_aload_n hC dX2_delayShip_60 rfl ?_
        refine z_aload_n hC dX2_delayShip_61 rfl ?_
        refine z_iload_n hC dX2_delayShip_62 rfl ?_
        have hB9 : bD d7 := by rw [hd7]; exact bD_later hB (by omega) (by omega) (by omega)
        have eo : ∀ o i, (o ≠ 6 + k ∨ i ≠ 4) → d7 o i = d o i := fun o i q => by rw [hd7, zup_n (by omega)]
        have hS9 : d7 0 4 = d 0 4 := eo _ _ (by omega)
        have hC9 : d7 0 5 = d 0 5 := eo _ _ (by omega)
        have hf6 : d7 (6 + k) 6 = d (6 + k) 6 := eo _ _ (by omega)
        have hNn : sNum d7 k = sNum d k := by unfold sNum; rw [hf6]
        have hNe := sNum_e (d := d) (k := k) (by omega)
        have hI9 := sInT_b d7 k
        have hN9 := hB9.1
        refine z_callV hC [.int (iZ k)] 1 rfl dX2_delayShip_63 (fun l => m_X2_fixturesInTime l G ca ad _ μ5 b hb d7 hd6 k hB9 (by omega) (fun n hn => by rw [eo (11 + k) _ (by omega), hC9]; exact hF k (by omega) _ (by omega))) qM_X2_138 qI_X2_fixturesInTime qS_X2_fixturesInTime qi_X2 qC_X2_fixturesInTime (by decide +kernel) (by decide) (by decide) (cl_desk hb) (cd_desk hb) rfl (Nat.le_of_ble_eq_true rfl) (zk_int (fun μ8 hμ8 => ?_)) rfl
        have hd9 : vw μ8 b = d7 := by rw [vw_fr5 hμ8]; exact hd6
        refine z_iconst hC dX2_delayShip_66 ?_
        refine z_callV hC [.ref (ad (b + 6 + k)), .int (iZ ((sInT d7 k : Nat) : Int)), .int (iZ 2)] 3 rfl dX2_delayShip_67 (fun l => m_X2_dropFixtures l G ca ad _ μ8 b hb d7 hd9 k ((sInT d7 k : Nat) : Int) 2 (sNum d k - sInT d7 k) hN9 (by omega) (by omega) (by omega) (by omega) (by omega) (fun x hx => by rw [eo (11 + k) x (by omega), hC9]; exact hF k (by omega) x (by omega))) qM_X2_141 qI_X2_dropFixtures qS_X2_dropFixtures qi_X2 qC_X2_dropFixtures (by decide +kernel) (by decide) (by decide) (cl_desk hb) (cd_desk hb) rfl (Nat.le_of_ble_eq_true rfl) (zk_void (fun μ10 hμ10 => ?_)) rfl
        obtain ⟨hμ10v, hμ10f⟩ := id hμ10
        obtain ⟨d12, hd12⟩ : ∃ q9 : zM, q9 = zup (sDrop k 2 (sNum d k - sInT d7 k) ((sInT d7 k : Nat) : Int) d7) (6 + k) 6 ((sInT d7 k : Nat) : Int) := ⟨_, rfl⟩
        have hd11 : vw μ10 b = d12 := by rw [hd12]; exact hμ10v
        refine z_iload hC dX2_delayShip_70 rfl ?_
        refine z_aload_n hC dX2_delayShip_72 rfl ?_
        refine z_get hC iA_X6 rfl 6 (by decide) qF_X2_126 rfl dX2_delayShip_73 (cl_ship hb (by omega)) (cd_ship hb (by omega)) rfl ?_
        refine z_top (b := d12 (6 + k) 6) ((vw_ship (by omega) (by omega)).symm.trans (congrFun (congrFun hd11 _) _)) ?_
        refine z_top (b := ((sInT d7 k : Nat) : Int)) (by rw [hd12, zup_s]) ?_
        refine z_isub hC dX2_delayShip_76 ?_
        refine z_istore hC dX2_delayShip_77 (by decide) rfl ?_
        refine z_aload_n hC dX2_delayShip_79 rfl ?_
        refine z_dup hC dX2_delayShip_80 rfl ?_
        refine z_get hC iA_X2 rfl 6 (by decide) qF_X2_59 rfl dX2_delayShip_81 (cl_desk hb) (cd_desk hb) rfl ?_
        refine z_top (b := d12 0 6) ((vw_can).symm.trans (congrFun (congrFun hd11 _) _)) ?_
        refine z_top (b := (sDrop k 2 (sNum d k - sInT d7 k) ((sInT d7 k : Nat) : Int) d7) 0 6) (by rw [hd12, zup_n (by omega)]) ?_
        refine z_top (b := d 0 6) (by rw [sDrop_o _ _ _ _ _ (by omega) (fun j hj => by rw [eo (11 + k) _ (by omega)]; exact (hF k (by omega) j (by omega)).1) (by omega), eo 0 6 (by omega)]) ?_
        refine z_iload hC dX2_delayShip_84 rfl ?_
        refine z_iadd hC dX2_delayShip_86 ?_
        refine z_put hC iA_X2 rfl tyX2 tyX2_ok nmX2 6 (by decide) rfl rfl 6 rfl qF_X2_59 rfl dX2_delayShip_87 (cl_desk hb) (cd_desk hb) (fun _ => rfl) (fun _ => Nat.le_of_ble_eq_true rfl) ?_
        refine z_nm (fun μ13 hμ13 => ?_)
        obtain ⟨d15, hd15⟩ : ∃ q9 : zM, q9 = zup d12 0 6 ((d 0 6) + ((d (6 + k) 6) - ((sInT d7 k : Nat) : Int))) := ⟨_, rfl⟩
        have hd14 : vw μ13 b = d15 := by rw [hμ13, vw_up0 (by unfold zrel; omega), hd11, hd15]
        refine z_iload hC dX2_delayShip_90 rfl ?_
        have e9 : opDelay d k n = ((d (6 + k) 6) - ((sInT d7 k : Nat) : Int), zup (zup (sDrop k 2 (sNum d k - sInT d7 k) ((sInT d7 k : Nat) : Int) d7) (6 + k) 6 ((sInT d7 k : Nat) : Int)) 0 6 ((d 0 6) + ((d (6 + k) 6) - ((sInT d7 k : Nat) : Int)))) := by
          unfold opDelay
          rw [if_neg (by omega), if_neg (by omega), ← hL]
        exact z_iret hC dX2_delayShip_92 ⟨by rw [e9], by rw [e9, hd14, hd15, hd12], fun c9 hc9 => by rw [hμ13, zup_o (by omega), hμ10f c9 (by omega), hμ8 c9 (by omega), hμ5, zup_o (by omega)]⟩
      · refine z_ldc hC (-1000003) qc_X2_79 rfl dX2_delayShip_40 ?_
        have e9 : opDelay d k n = ((-1000003), d) := by
          unfold opDelay
          rw [if_neg (by omega), if_pos (by omega)]
        exact z_iret hC dX2_delayShip_42 ⟨by rw [e9], by rw [e9, hd], fun c9 hc9 => rfl⟩
    · refine z_ldc hC (-1000001) qc_X2_73 rfl dX2_delayShip_18 ?_
      have e9 : opDelay d k n = ((-1000001), d) := by
        unfold opDelay
        rw [if_pos (by omega)]
      exact z_iret hC dX2_delayShip_20 ⟨by rw [e9], by rw [e9, hd], fun c9 hc9 => rfl⟩
