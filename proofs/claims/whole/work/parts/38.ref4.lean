set_option maxHeartbeats 4000000 in
set_option maxRecDepth 100000 in
/-- opShip d z v u p w -/
theorem m_X8_doShip (l : Launch) (G : va_G) (ca : Nat → ClassId) (ad : Int → Nat) (A : Nat → Prop) (μ : zM) (d : zM) (hd : rv μ 0 = d) (z v u p w : Int) (hz : -2147483648 ≤ z ∧ z ≤ 2147483647) (hv : -2147483648 ≤ v ∧ v ≤ 2147483647) (hu : -2147483648 ≤ u ∧ u ≤ 2147483647) (hp : -2147483648 ≤ p ∧ p ≤ 2147483647) (hw : -2147483648 ≤ w ∧ w ≤ 2147483647) (hI : zInv d) : zMet l (rω G ca ad) A yX8_doShip cX8_doShip 7 (some .int) 1 22 [.ref (ad 0), .int (iZ z), .int (iZ v), .int (iZ u), .int (iZ p), .int (iZ w)] μ (zpI (.int (iZ (opShip d z v u p w).1)) (fun μ' => rv μ' 0 = (opShip d z v u p w).2 ∧ rSl μ μ')) := by
  refine zMet_of (by decide) (Nat.le_of_ble_eq_true rfl) (fun Γ hC => ?_)
  show Z Γ _ μ 0 [(0, .ref (ad 0)), (1, .int (iZ z)), (2, .int (iZ v)), (3, .int (iZ u)), (4, .int (iZ p)), (5, .int (iZ w))] []
  obtain ⟨hB, hf5, hf6, hIF, hIS, hII, hIL⟩ := id hI
  obtain ⟨hN0, hP, hB3, hB4⟩ := id hB
  obtain ⟨hN1, hN2⟩ := id hN0
  refine z_iload_n hC dX8_doShip_0 rfl ?_
  refine z_iconst hC dX8_doShip_1 ?_
  refine z_bipush hC dX8_doShip_2 (by decide) ?_
  refine z_callS hC [.int (iZ z), .int (iZ 1), .int (iZ 99)] 3 rfl dX8_doShip_4 (fun l => m_X8_in l _ _ _ z 1 99 (by omega) (by omega) (by omega)) qM_X8_29 qT_X8_in qi_X8 qC_X8_in (by decide +kernel) (by decide) (by decide) (Nat.le_of_ble_eq_true rfl) (zk_pure ?_) rfl
  refine z_ifb_eq hC 53 dX8_doShip_7 (by decide) (fun c_1 => ?_) (fun c_1 => ?_)
  · refine z_ldc hC (-1000001) qc_X8_24 rfl dX8_doShip_53 ?_
    have e9 : opShip d z v u p w = ((-1000001), d) := by
      unfold opShip
      rw [if_pos (by omega)]
    exact z_iret hC dX8_doShip_55 ⟨by rw [e9], by rw [e9, hd], ⟨fun _ _ => rfl, fun _ _ => rfl, fun _ _ => rfl⟩⟩
  · refine z_iload_n hC dX8_doShip_10 rfl ?_
    refine z_iconst hC dX8_doShip_11 ?_
    refine z_bipush hC dX8_doShip_12 (by decide) ?_
    refine z_callS hC [.int (iZ v), .int (iZ 1), .int (iZ 20)] 3 rfl dX8_doShip_14 (fun l => m_X8_in l _ _ _ v 1 20 (by omega) (by omega) (by omega)) qM_X8_29 qT_X8_in qi_X8 qC_X8_in (by decide +kernel) (by decide) (by decide) (Nat.le_of_ble_eq_true rfl) (zk_pure ?_) rfl
    refine z_ifb_eq hC 53 dX8_doShip_17 (by decide) (fun c_2 => ?_) (fun c_2 => ?_)
    · refine z_ldc hC (-1000001) qc_X8_24 rfl dX8_doShip_53 ?_
      have e9 : opShip d z v u p w = ((-1000001), d) := by
        unfold opShip
        rw [if_pos (by omega)]
      exact z_iret hC dX8_doShip_55 ⟨by rw [e9], by rw [e9, hd], ⟨fun _ _ => rfl, fun _ _ => rfl, fun _ _ => rfl⟩⟩
    · refine z_iload_n hC dX8_doShip_20 rfl ?_
      refine z_iconst hC dX8_doShip_21 ?_
      refine z_bipush hC dX8_doShip_22 (by decide) ?_
      refine z_callS hC [.int (iZ u), .int (iZ 1), .int (iZ 99)] 3 rfl dX8_doShip_24 (fun l => m_X8_in l _ _ _ u 1 99 (by omega) (by omega) (by omega)) qM_X8_29 qT_X8_in qi_X8 qC_X8_in (by decide +kernel) (by decide) (by decide) (Nat.le_of_ble_eq_true rfl) (zk_pure ?_) rfl
      refine z_ifb_eq hC 53 dX8_doShip_27 (by decide) (fun c_3 => ?_) (fun c_3 => ?_)
      · refine z_ldc hC (-1000001) qc_X8_24 rfl dX8_doShip_53 ?_
        have e9 : opShip d z v u p w = ((-1000001), d) := by
          unfold opShip
          rw [if_pos (by omega)]
        exact z_iret hC dX8_doShip_55 ⟨by rw [e9], by rw [e9, hd], ⟨fun _ _ => rfl, fun _ _ => rfl, fun _ _ => rfl⟩⟩
      · refine z_iload hC dX8_doShip_30 rfl ?_
        refine z_iconst hC dX8_doShip_32 ?_
        refine z_bipush hC dX8_doShip_33 (by decide) ?_
        refine z_callS hC [.int (iZ p), .int (iZ 0), .int (iZ 7)] 3 rfl dX8_doShip_35 (fun l => m_X8_in l _ _ _ p 0 7 (by omega) (by omega) (by omega)) qM_X8_29 qT_X8_in qi_X8 qC_X8_in (by decide +kernel) (by decide) (by decide) (Nat.le_of_ble_eq_true rfl) (zk_pure ?_) rfl
        refine z_ifb_eq hC 53 dX8_doShip_38 (by decide) (fun c_4 => ?_) (fun c_4 => ?_)
        · refine z_ldc hC (-1000001) qc_X8_24 rfl dX8_doShip_53 ?_
          have e9 : opShip d z v u p w = ((-1000001), d) := by
            unfold opShip
            rw [if_pos (by omega)]
          exact z_iret hC dX8_doShip_55 ⟨by rw [e9], by rw [e9, hd], ⟨fun _ _ => rfl, fun _ _ => rfl, fun _ _ => rfl⟩⟩
        · refine z_iload hC dX8_doShip_41 rfl ?_
          refine z_iconst hC dX8_doShip_43 ?_
          refine z_sipush hC dX8_doShip_44 (by decide) ?_
          refine z_callS hC [.int (iZ w), .int (iZ 0), .int (iZ 999)] 3 rfl dX8_doShip_47 (fun l => m_X8_in l _ _ _ w 0 999 (by omega) (by omega) (by omega)) qM_X8_29 qT_X8_in qi_X8 qC_X8_in (by decide +kernel) (by decide) (by decide) (Nat.le_of_ble_eq_true rfl) (zk_pure ?_) rfl
          refine z_ifb_ne hC 56 dX8_doShip_50 (by decide) (fun c_5 => ?_) (fun c_5 => ?_)
          · refine z_aload_n hC dX8_doShip_56 rfl ?_
            refine z_get hC iA_X8 rfl 0 (by decide) qF_X8_7 rfl dX8_doShip_57 rl_0 (rd_0 (ca := ca) (ad := ad)) rfl ?_
            refine z_bipush hC dX8_doShip_60 (by decide) ?_
            refine z_iald hC dX8_doShip_62 rl_1 (rd_1 (ca := ca) (ad := ad)) (by omega) (by omega) (by decide) ?_
            refine z_top (b := d 0 4) ((rv_S).symm.trans (congrFun (congrFun hd _) _)) ?_
            refine z_iconst hC dX8_doShip_63 ?_
            refine z_icmp_ne hC 70 dX8_doShip_64 (by decide) (by omega) (by omega) (fun c_6 => ?_) (fun c_6 => ?_)
            · refine z_aload_n hC dX8_doShip_70 rfl ?_
              refine z_get hC iA_X8 rfl 0 (by decide) qF_X8_7 rfl dX8_doShip_71 rl_0 (rd_0 (ca := ca) (ad := ad)) rfl ?_
              refine z_bipush hC dX8_doShip_74 (by decide) ?_
              refine z_iald hC dX8_doShip_76 rl_1 (rd_1 (ca := ca) (ad := ad)) (by omega) (by omega) (by decide) ?_
              refine z_top (b := d 0 4) ((rv_S).symm.trans (congrFun (congrFun hd _) _)) ?_
              refine z_istore hC dX8_doShip_77 (by decide) rfl ?_
              refine z_aload_n hC dX8_doShip_79 rfl ?_
              refine z_get hC iA_X8 rfl 0 (by decide) qF_X8_7 rfl dX8_doShip_80 rl_0 (rd_0 (ca := ca) (ad := ad)) rfl ?_
              refine z_iconst hC dX8_doShip_83 ?_
              refine z_iload hC dX8_doShip_84 rfl ?_
              refine z_iconst hC dX8_doShip_86 ?_
              refine z_callS hC [.int (iZ 0), .int (iZ (d 0 4)), .int (iZ 0)] 3 rfl dX8_doShip_87 (fun l => m_X8_shipAt l _ _ _ 0 (d 0 4) 0) qM_X8_37 qT_X8_shipAt qi_X8 qC_X8_shipAt (by decide +kernel) (by decide) (by decide) (Nat.le_of_ble_eq_true rfl) (zk_pure ?_) rfl
              refine z_iload_n hC dX8_doShip_90 rfl ?_
              refine z_iast hC dX8_doShip_91 rl_1 (rd_1 (ca := ca) (ad := ad)) (by omega) (by omega) (by decide) ?_
              refine z_nm (fun μ7 hμ7 => ?_)
              obtain ⟨d9, hd9⟩ : ∃ q9 : zM, q9 = zup d (6 + (d 0 4)) 0 z := ⟨_, rfl⟩
              have hd8 : rv μ7 0 = d9 := by rw [hμ7, rv_up (t := 0) (o := (6 + (d 0 4))) (i := 0) (x := (190 * 0 + 17 + 18 * (d 0 4) + 0)) (by unfold zrel; omega) (by rw [rp_ship (by omega)]; omega), hd, hd9]
              refine z_aload_n hC dX8_doShip_92 rfl ?_
              refine z_get hC iA_X8 rfl 0 (by decide) qF_X8_7 rfl dX8_doShip_93 rl_0 (rd_0 (ca := ca) (ad := ad)) rfl ?_
              refine z_iconst hC dX8_doShip_96 ?_
              refine z_iload hC dX8_doShip_97 rfl ?_
              refine z_iconst hC dX8_doShip_99 ?_
              refine z_callS hC [.int (iZ 0), .int (iZ (d 0 4)), .int (iZ 1)] 3 rfl dX8_doShip_100 (fun l => m_X8_shipAt l _ _ _ 0 (d 0 4) 1) qM_X8_37 qT_X8_shipAt qi_X8 qC_X8_shipAt (by decide +kernel) (by decide) (by decide) (Nat.le_of_ble_eq_true rfl) (zk_pure ?_) rfl
              refine z_iload_n hC dX8_doShip_103 rfl ?_
              refine z_iast hC dX8_doShip_104 rl_1 (rd_1 (ca := ca) (ad := ad)) (by omega) (by omega) (by decide) ?_
              refine z_nm (fun μ10 hμ10 => ?_)
              obtain ⟨d12, hd12⟩ : ∃ q9 : zM, q9 = zup d9 (6 + (d 0 4)) 1 v := ⟨_, rfl⟩
              have hd11 : rv μ10 0 = d12 := by rw [hμ10, rv_up (t := 0) (o := (6 + (d 0 4))) (i := 1) (x := (190 * 0 + 17 + 18 * (d 0 4) + 1)) (by unfold zrel; omega) (by rw [rp_ship (by omega)]; omega), hd8, hd12]
              refine z_aload_n hC dX8_doShip_105 rfl ?_
              refine z_get hC iA_X8 rfl 0 (by decide) qF_X8_7 rfl dX8_doShip_106 rl_0 (rd_0 (ca := ca) (ad := ad)) rfl ?_
              refine z_iconst hC dX8_doShip_109 ?_
              refine z_iload hC dX8_doShip_110 rfl ?_
              refine z_iconst hC dX8_doShip_112 ?_
              refine z_callS hC [.int (iZ 0), .int (iZ (d 0 4)), .int (iZ 2)] 3 rfl dX8_doShip_113 (fun l => m_X8_shipAt l _ _ _ 0 (d 0 4) 2) qM_X8_37 qT_X8_shipAt qi_X8 qC_X8_shipAt (by decide +kernel) (by decide) (by decide) (Nat.le_of_ble_eq_true rfl) (zk_pure ?_) rfl
              refine z_iload_n hC dX8_doShip_116 rfl ?_
              refine z_iast hC dX8_doShip_117 rl_1 (rd_1 (ca := ca) (ad := ad)) (by omega) (by omega) (by decide) ?_
              refine z_nm (fun μ13 hμ13 => ?_)
              obtain ⟨d15, hd15⟩ : ∃ q9 : zM, q9 = zup d12 (6 + (d 0 4)) 2 u := ⟨_, rfl⟩
              have hd14 : rv μ13 0 = d15 := by rw [hμ13, rv_up (t := 0) (o := (6 + (d 0 4))) (i := 2) (x := (190 * 0 + 17 + 18 * (d 0 4) + 2)) (by unfold zrel; omega) (by rw [rp_ship (by omega)]; omega), hd11, hd15]
              refine z_aload_n hC dX8_doShip_118 rfl ?_
              refine z_get hC iA_X8 rfl 0 (by decide) qF_X8_7 rfl dX8_doShip_119 rl_0 (rd_0 (ca := ca) (ad := ad)) rfl ?_
              refine z_iconst hC dX8_doShip_122 ?_
              refine z_iload hC dX8_doShip_123 rfl ?_
              refine z_iconst hC dX8_doShip_125 ?_
              refine z_callS hC [.int (iZ 0), .int (iZ (d 0 4)), .int (iZ 3)] 3 rfl dX8_doShip_126 (fun l => m_X8_shipAt l _ _ _ 0 (d 0 4) 3) qM_X8_37 qT_X8_shipAt qi_X8 qC_X8_shipAt (by decide +kernel) (by decide) (by decide) (Nat.le_of_ble_eq_true rfl) (zk_pure ?_) rfl
              refine z_iload hC dX8_doShip_129 rfl ?_
              refine z_iast hC dX8_doShip_131 rl_1 (rd_1 (ca := ca) (ad := ad)) (by omega) (by omega) (by decide) ?_
              refine z_nm (fun μ16 hμ16 => ?_)
              obtain ⟨d18, hd18⟩ : ∃ q9 : zM, q9 = zup d15 (6 + (d 0 4)) 3 p := ⟨_, rfl⟩
              have hd17 : rv μ16 0 = d18 := by rw [hμ16, rv_up (t := 0) (o := (6 + (d 0 4))) (i := 3) (x := (190 * 0 + 17 + 18 * (d 0 4) + 3)) (by unfold zrel; omega) (by rw [rp_ship (by omega)]; omega), hd14, hd18]
              refine z_aload_n hC dX8_doShip_132 rfl ?_
              refine z_get hC iA_X8 rfl 0 (by decide) qF_X8_7 rfl dX8_doShip_133 rl_0 (rd_0 (ca := ca) (ad := ad)) rfl ?_
              refine z_iconst hC dX8_doShip_136 ?_
              refine z_iload hC dX8_doShip_137 rfl ?_
              refine z_iconst hC dX8_doShip_139 ?_
              refine z_callS hC [.int (iZ 0), .int (iZ (d 0 4)), .int (iZ 4)] 3 rfl dX8_doShip_140 (fun l => m_X8_shipAt l _ _ _ 0 (d 0 4) 4) qM_X8_37 qT_X8_shipAt qi_X8 qC_X8_shipAt (by decide +kernel) (by decide) (by decide) (Nat.le_of_ble_eq_true rfl) (zk_pure ?_) rfl
              refine z_iload hC dX8_doShip_143 rfl ?_
              refine z_iast hC dX8_doShip_145 rl_1 (rd_1 (ca := ca) (ad := ad)) (by omega) (by omega) (by decide) ?_
              refine z_nm (fun μ19 hμ19 => ?_)
              obtain ⟨d21, hd21⟩ : ∃ q9 : zM, q9 = zup d18 (6 + (d 0 4)) 4 w := ⟨_, rfl⟩
              have hd20 : rv μ19 0 = d21 := by rw [hμ19, rv_up (t := 0) (o := (6 + (d 0 4))) (i := 4) (x := (190 * 0 + 17 + 18 * (d 0 4) + 4)) (by unfold zrel; omega) (by rw [rp_ship (by omega)]; omega), hd17, hd21]
              refine z_aload_n hC dX8_doShip_146 rfl ?_
              refine z_get hC iA_X8 rfl 0 (by decide) qF_X8_7 rfl dX8_doShip_147 rl_0 (rd_0 (ca := ca) (ad := ad)) rfl ?_
              refine z_iconst hC dX8_doShip_150 ?_
              refine z_iload hC dX8_doShip_151 rfl ?_
              refine z_iconst hC dX8_doShip_153 ?_
              refine z_callS hC [.int (iZ 0), .int (iZ (d 0 4)), .int (iZ 5)] 3 rfl dX8_doShip_154 (fun l => m_X8_shipAt l _ _ _ 0 (d 0 4) 5) qM_X8_37 qT_X8_shipAt qi_X8 qC_X8_shipAt (by decide +kernel) (by decide) (by decide) (Nat.le_of_ble_eq_true rfl) (zk_pure ?_) rfl
              refine z_iconst hC dX8_doShip_157 ?_
              refine z_iast hC dX8_doShip_158 rl_1 (rd_1 (ca := ca) (ad := ad)) (by omega) (by omega) (by decide) ?_
              refine z_nm (fun μ22 hμ22 => ?_)
              obtain ⟨d24, hd24⟩ : ∃ q9 : zM, q9 = zup d21 (6 + (d 0 4)) 5 0 := ⟨_, rfl⟩
              have hd23 : rv μ22 0 = d24 := by rw [hμ22, rv_up (t := 0) (o := (6 + (d 0 4))) (i := 5) (x := (190 * 0 + 17 + 18 * (d 0 4) + 5)) (by unfold zrel; omega) (by rw [rp_ship (by omega)]; omega), hd20, hd24]
              refine z_aload_n hC dX8_doShip_159 rfl ?_
              refine z_get hC iA_X8 rfl 0 (by decide) qF_X8_7 rfl dX8_doShip_160 rl_0 (rd_0 (ca := ca) (ad := ad)) rfl ?_
              refine z_iconst hC dX8_doShip_163 ?_
              refine z_iload hC dX8_doShip_164 rfl ?_
              refine z_bipush hC dX8_doShip_166 (by decide) ?_
              refine z_callS hC [.int (iZ 0), .int (iZ (d 0 4)), .int (iZ 6)] 3 rfl dX8_doShip_168 (fun l => m_X8_shipAt l _ _ _ 0 (d 0 4) 6) qM_X8_37 qT_X8_shipAt qi_X8 qC_X8_shipAt (by decide +kernel) (by decide) (by decide) (Nat.le_of_ble_eq_true rfl) (zk_pure ?_) rfl
              refine z_iconst hC dX8_doShip_171 ?_
              refine z_iast hC dX8_doShip_172 rl_1 (rd_1 (ca := ca) (ad := ad)) (by omega) (by omega) (by decide) ?_
              refine z_nm (fun μ25 hμ25 => ?_)
              obtain ⟨d27, hd27⟩ : ∃ q9 : zM, q9 = zup d24 (6 + (d 0 4)) 6 0 := ⟨_, rfl⟩
              have hd26 : rv μ25 0 = d27 := by rw [hμ25, rv_up (t := 0) (o := (6 + (d 0 4))) (i := 6) (x := (190 * 0 + 17 + 18 * (d 0 4) + 6)) (by unfold zrel; omega) (by rw [rp_ship (by omega)]; omega), hd23, hd27]
              refine z_aload_n hC dX8_doShip_173 rfl ?_
              refine z_get hC iA_X8 rfl 0 (by decide) qF_X8_7 rfl dX8_doShip_174 rl_0 (rd_0 (ca := ca) (ad := ad)) rfl ?_
              refine z_bipush hC dX8_doShip_177 (by decide) ?_
              refine z_dup2 hC dX8_doShip_179 rfl rfl ?_
              refine z_iald hC dX8_doShip_180 rl_1 (rd_1 (ca := ca) (ad := ad)) (by omega) (by omega) (by decide) ?_
              refine z_top (b := d27 0 4) ((rv_S).symm.trans (congrFun (congrFun hd26 _) _)) ?_
              refine z_top (b := d 0 4) (by rw [hd27, zup_n (by omega), hd24, zup_n (by omega), hd21, zup_n (by omega), hd18, zup_n (by omega), hd15, zup_n (by omega), hd12, zup_n (by omega), hd9, zup_n (by omega)]) ?_
              refine z_iconst hC dX8_doShip_181 ?_
              refine z_iadd hC dX8_doShip_182 ?_
              refine z_iast hC dX8_doShip_183 rl_1 (rd_1 (ca := ca) (ad := ad)) (by omega) (by omega) (by decide) ?_
              refine z_nm (fun μ28 hμ28 => ?_)
              obtain ⟨d30, hd30⟩ : ∃ q9 : zM, q9 = zup d27 0 4 ((d 0 4) + 1) := ⟨_, rfl⟩
              have hd29 : rv μ28 0 = d30 := by rw [hμ28, rv_up (t := 0) (o := 0) (i := 4) (x := 16) (by unfold zrel; omega) (rfl), hd26, hd30]
              refine z_iload hC dX8_doShip_184 rfl ?_
              have ed24 : d24 = d21 := by rw [hd24]; exact zup_id (by rw [hd21, zup_n (by omega), hd18, zup_n (by omega), hd15, zup_n (by omega), hd12, zup_n (by omega), hd9, zup_n (by omega)]; exact (hf5 _ (by omega)).1)
              have ed27 : d27 = d24 := by rw [hd27]; exact zup_id (by rw [ed24, hd21, zup_n (by omega), hd18, zup_n (by omega), hd15, zup_n (by omega), hd12, zup_n (by omega), hd9, zup_n (by omega)]; exact (hf5 _ (by omega)).2)
              have e9 : opShip d z v u p w = (d 0 4, zup (zup (zup (zup (zup (zup d (6 + (d 0 4)) 0 z) (6 + (d 0 4)) 1 v) (6 + (d 0 4)) 2 u) (6 + (d 0 4)) 3 p) (6 + (d 0 4)) 4 w) 0 4 ((d 0 4) + 1)) := by
                unfold opShip
                rw [if_neg (by omega), if_neg (by omega)]
              exact z_iret hC dX8_doShip_186 ⟨by rw [e9], by rw [e9, hd29, hd30, ed27, ed24, hd21, hd18, hd15, hd12, hd9], ⟨fun c9 hc9 => by rw [hμ28, zup_o (by omega), hμ25, zup_o (by omega), hμ22, zup_o (by omega), hμ19, zup_o (by omega), hμ16, zup_o (by omega), hμ13, zup_o (by omega), hμ10, zup_o (by omega), hμ7, zup_o (by omega)], fun i9 hi9 => by rw [hμ28, zup_n (by omega), hμ25, zup_n (by omega), hμ22, zup_n (by omega), hμ19, zup_n (by omega), hμ16, zup_n (by omega), hμ13, zup_n (by omega), hμ10, zup_n (by omega), hμ7, zup_n (by omega)], fun x9 hx9 => by rw [hμ28, zup_n (by omega), hμ25, zup_n (by omega), hμ22, zup_n (by omega), hμ19, zup_n (by omega), hμ16, zup_n (by omega), hμ13, zup_n (by omega), hμ10, zup_n (by omega), hμ7, zup_n (by omega)]⟩⟩
            · refine z_ldc hC (-1000003) qc_X8_90 rfl dX8_doShip_67 ?_
              have e9 : opShip d z v u p w = ((-1000003), d) := by
                unfold opShip
                rw [if_neg (by omega), if_pos (by omega)]
              exact z_iret hC dX8_doShip_69 ⟨by rw [e9], by rw [e9, hd], ⟨fun _ _ => rfl, fun _ _ => rfl, fun _ _ => rfl⟩⟩
          · refine z_ldc hC (-1000001) qc_X8_24 rfl dX8_doShip_53 ?_
            have e9 : opShip d z v u p w = ((-1000001), d) := by
              unfold opShip
              rw [if_pos (by omega)]
            exact z_iret hC dX8_doShip_55 ⟨by rw [e9], by rw [e9, hd], ⟨fun _ _ => rfl, fun _ _ => rfl, fun _ _ => rfl⟩⟩

set_option maxHeartbeats 4000000 in
set_option maxRecDepth 100000 in
/-- opCargo d a g u f v w -/
theorem m_X8_doCargo (l : Launch) (G : va_G) (ca : Nat → ClassId) (ad : Int → Nat) (A : Nat → Prop) (μ : zM) (d : zM) (hd : rv μ 0 = d) (a g u f v w : Int) (ha : -2147483648 ≤ a ∧ a ≤ 2147483647) (hg : -2147483648 ≤ g ∧ g ≤ 2147483647) (hu : -2147483648 ≤ u ∧ u ≤ 2147483647) (hf : -2147483648 ≤ f ∧ f ≤ 2147483647) (hv : -2147483648 ≤ v ∧ v ≤ 2147483647) (hw : -2147483648 ≤ w ∧ w ≤ 2147483647) (hI : zInv d) : zMet l (rω G ca ad) A yX8_doCargo cX8_doCargo 8 (some .int) 1 22 [.ref (ad 0), .int (iZ a), .int (iZ g), .int (iZ u), .int (iZ f), .int (iZ v), .int (iZ w)] μ (zpI (.int (iZ (opCargo d a g u f v w).1)) (fun μ' => rv μ' 0 = (opCargo d a g u f v w).2 ∧ rSl μ μ')) := by
  refine zMet_of (by decide) (Nat.le_of_ble_eq_true rfl) (fun Γ hC => ?_)
  show Z Γ _ μ 0 [(0, .ref (ad 0)), (1, .int (iZ a)), (2, .int (iZ g)), (3, .int (iZ u)), (4, .int (iZ f)), (5, .int (iZ v)), (6, .int (iZ w))] []
  obtain ⟨hB, hf5, hf6, hIF, hIS, hII, hIL⟩ := id hI
  obtain ⟨hN0, hP, hB3, hB4⟩ := id hB
  obtain ⟨hN1, hN2⟩ := id hN0
  refine z_iload_n hC dX8_doCargo_0 rfl ?_
  refine z_iconst hC dX8_doCargo_1 ?_
  refine z_bipush hC dX8_doCargo_2 (by decide) ?_
  refine z_callS hC [.int (iZ a), .int (iZ 1), .int (iZ 99)] 3 rfl dX8_doCargo_4 (fun l => m_X8_in l _ _ _ a 1 99 (by omega) (by omega) (by omega)) qM_X8_29 qT_X8_in qi_X8 qC_X8_in (by decide +kernel) (by decide) (by decide) (Nat.le_of_ble_eq_true rfl) (zk_pure ?_) rfl
  refine z_ifb_eq hC 71 dX8_doCargo_7 (by decide) (fun c_1 => ?_) (fun c_1 => ?_)
  · refine z_ldc hC (-1000001) qc_X8_24 rfl dX8_doCargo_71 ?_
    have e9 : opCargo d a g u f v w = ((-1000001), d) := by
      unfold opCargo
      rw [if_pos (by omega)]
    exact z_iret hC dX8_doCargo_73 ⟨by rw [e9], by rw [e9, hd], ⟨fun _ _ => rfl, fun _ _ => rfl, fun _ _ => rfl⟩⟩
  · refine z_iload_n hC dX8_doCargo_10 rfl ?_
    refine z_iconst hC dX8_doCargo_11 ?_
    refine z_bipush hC dX8_doCargo_12 (by decide) ?_
    refine z_callS hC [.int (iZ g), .int (iZ 0), .int (iZ 7)] 3 rfl dX8_doCargo_14 (fun l => m_X8_in l _ _ _ g 0 7 (by omega) (by omega) (by omega)) qM_X8_29 qT_X8_in qi_X8 qC_X8_in (by decide +kernel) (by decide) (by decide) (Nat.le_of_ble_eq_true rfl) (zk_pure ?_) rfl
    refine z_ifb_eq hC 71 dX8_doCargo_17 (by decide) (fun c_2 => ?_) (fun c_2 => ?_)
    · refine z_ldc hC (-1000001) qc_X8_24 rfl dX8_doCargo_71 ?_
      have e9 : opCargo d a g u f v w = ((-1000001), d) := by
        unfold opCargo
        rw [if_pos (by omega)]
      exact z_iret hC dX8_doCargo_73 ⟨by rw [e9], by rw [e9, hd], ⟨fun _ _ => rfl, fun _ _ => rfl, fun _ _ => rfl⟩⟩
    · refine z_iload_n hC dX8_doCargo_20 rfl ?_
      refine z_iconst hC dX8_doCargo_21 ?_
      refine z_bipush hC dX8_doCargo_22 (by decide) ?_
      refine z_callS hC [.int (iZ u), .int (iZ 0), .int (iZ 7)] 3 rfl dX8_doCargo_24 (fun l => m_X8_in l _ _ _ u 0 7 (by omega) (by omega) (by omega)) qM_X8_29 qT_X8_in qi_X8 qC_X8_in (by decide +kernel) (by decide) (by decide) (Nat.le_of_ble_eq_true rfl) (zk_pure ?_) rfl
      refine z_ifb_eq hC 71 dX8_doCargo_27 (by decide) (fun c_3 => ?_) (fun c_3 => ?_)
      · refine z_ldc hC (-1000001) qc_X8_24 rfl dX8_doCargo_71 ?_
        have e9 : opCargo d a g u f v w = ((-1000001), d) := by
          unfold opCargo
          rw [if_pos (by omega)]
        exact z_iret hC dX8_doCargo_73 ⟨by rw [e9], by rw [e9, hd], ⟨fun _ _ => rfl, fun _ _ => rfl, fun _ _ => rfl⟩⟩
      · refine z_iload_n hC dX8_doCargo_30 rfl ?_
        refine z_iload_n hC dX8_doCargo_31 rfl ?_
        refine z_icmp_eq hC 71 dX8_doCargo_32 (by decide) (by omega) (by omega) (fun c_4 => ?_) (fun c_4 => ?_)
        · refine z_ldc hC (-1000001) qc_X8_24 rfl dX8_doCargo_71 ?_
          have e9 : opCargo d a g u f v w = ((-1000001), d) := by
            unfold opCargo
            rw [if_pos (by omega)]
          exact z_iret hC dX8_doCargo_73 ⟨by rw [e9], by rw [e9, hd], ⟨fun _ _ => rfl, fun _ _ => rfl, fun _ _ => rfl⟩⟩
        · refine z_iload hC dX8_doCargo_35 rfl ?_
          refine z_iconst hC dX8_doCargo_37 ?_
          refine z_sipush hC dX8_doCargo_38 (by decide) ?_
          refine z_callS hC [.int (iZ f), .int (iZ 0), .int (iZ 999)] 3 rfl dX8_doCargo_41 (fun l => m_X8_in l _ _ _ f 0 999 (by omega) (by omega) (by omega)) qM_X8_29 qT_X8_in qi_X8 qC_X8_in (by decide +kernel) (by decide) (by decide) (Nat.le_of_ble_eq_true rfl) (zk_pure ?_) rfl
          refine z_ifb_eq hC 71 dX8_doCargo_44 (by decide) (fun c_5 => ?_) (fun c_5 => ?_)
          · refine z_ldc hC (-1000001) qc_X8_24 rfl dX8_doCargo_71 ?_
            have e9 : opCargo d a g u f v w = ((-1000001), d) := by
              unfold opCargo
              rw [if_pos (by omega)]
            exact z_iret hC dX8_doCargo_73 ⟨by rw [e9], by rw [e9, hd], ⟨fun _ _ => rfl, fun _ _ => rfl, fun _ _ => rfl⟩⟩
          · refine z_iload hC dX8_doCargo_47 rfl ?_
            refine z_iload hC dX8_doCargo_49 rfl ?_
            refine z_sipush hC dX8_doCargo_51 (by decide) ?_
            refine z_callS hC [.int (iZ v), .int (iZ f), .int (iZ 999)] 3 rfl dX8_doCargo_54 (fun l => m_X8_in l _ _ _ v f 999 (by omega) (by omega) (by omega)) qM_X8_29 qT_X8_in qi_X8 qC_X8_in (by decide +kernel) (by decide) (by decide) (Nat.le_of_ble_eq_true rfl) (zk_pure ?_) rfl
            refine z_ifb_eq hC 71 dX8_doCargo_57 (by decide) (fun c_6 => ?_) (fun c_6 => ?_)
            · refine z_ldc hC (-1000001) qc_X8_24 rfl dX8_doCargo_71 ?_
              have e9 : opCargo d a g u f v w = ((-1000001), d) := by
                unfold opCargo
                rw [if_pos (by omega)]
              exact z_iret hC dX8_doCargo_73 ⟨by rw [e9], by rw [e9, hd], ⟨fun _ _ => rfl, fun _ _ => rfl, fun _ _ => rfl⟩⟩
            · refine z_iload hC dX8_doCargo_60 rfl ?_
              refine z_iconst hC dX8_doCargo_62 ?_
              refine z_bipush hC dX8_doCargo_63 (by decide) ?_
              refine z_callS hC [.int (iZ w), .int (iZ 1), .int (iZ 99)] 3 rfl dX8_doCargo_65 (fun l => m_X8_in l _ _ _ w 1 99 (by omega) (by omega) (by omega)) qM_X8_29 qT_X8_in qi_X8 qC_X8_in (by decide +kernel) (by decide) (by decide) (Nat.le_of_ble_eq_true rfl) (zk_pure ?_) rfl
              refine z_ifb_ne hC 74 dX8_doCargo_68 (by decide) (fun c_7 => ?_) (fun c_7 => ?_)
              · refine z_aload_n hC dX8_doCargo_74 rfl ?_
                refine z_get hC iA_X8 rfl 0 (by decide) qF_X8_7 rfl dX8_doCargo_75 rl_0 (rd_0 (ca := ca) (ad := ad)) rfl ?_
                refine z_bipush hC dX8_doCargo_78 (by decide) ?_
                refine z_iald hC dX8_doCargo_80 rl_1 (rd_1 (ca := ca) (ad := ad)) (by omega) (by omega) (by decide) ?_
                refine z_top (b := d 0 5) ((rv_C).symm.trans (congrFun (congrFun hd _) _)) ?_
                refine z_bipush hC dX8_doCargo_81 (by decide) ?_
                refine z_icmp_ne hC 89 dX8_doCargo_83 (by decide) (by omega) (by omega) (fun c_8 => ?_) (fun c_8 => ?_)
                · refine z_aload_n hC dX8_doCargo_89 rfl ?_
                  refine z_get hC iA_X8 rfl 0 (by decide) qF_X8_7 rfl dX8_doCargo_90 rl_0 (rd_0 (ca := ca) (ad := ad)) rfl ?_
                  refine z_bipush hC dX8_doCargo_93 (by decide) ?_
                  refine z_iald hC dX8_doCargo_95 rl_1 (rd_1 (ca := ca) (ad := ad)) (by omega) (by omega) (by decide) ?_
                  refine z_top (b := d 0 5) ((rv_C).symm.trans (congrFun (congrFun hd _) _)) ?_
                  refine z_istore hC dX8_doCargo_96 (by decide) rfl ?_
                  refine z_aload_n hC dX8_doCargo_98 rfl ?_
                  refine z_get hC iA_X8 rfl 0 (by decide) qF_X8_7 rfl dX8_doCargo_99 rl_0 (rd_0 (ca := ca) (ad := ad)) rfl ?_
                  refine z_iconst hC dX8_doCargo_102 ?_
                  refine z_iload hC dX8_doCargo_103 rfl ?_
                  refine z_iconst hC dX8_doCargo_105 ?_
                  refine z_callS hC [.int (iZ 0), .int (iZ (d 0 5)), .int (iZ 0)] 3 rfl dX8_doCargo_106 (fun l => m_X8_cargoAt l _ _ _ 0 (d 0 5) 0) qM_X8_44 qT_X8_cargoAt qi_X8 qC_X8_cargoAt (by decide +kernel) (by decide) (by decide) (Nat.le_of_ble_eq_true rfl) (zk_pure ?_) rfl
                  refine z_iload_n hC dX8_doCargo_109 rfl ?_
                  refine z_iast hC dX8_doCargo_110 rl_1 (rd_1 (ca := ca) (ad := ad)) (by omega) (by omega) (by decide) ?_
                  refine z_nm (fun μ9 hμ9 => ?_)
                  obtain ⟨d11, hd11⟩ : ∃ q9 : zM, q9 = zup d (16 + (d 0 5)) 0 a := ⟨_, rfl⟩
                  have hd10 : rv μ9 0 = d11 := by rw [hμ9, rv_up (t := 0) (o := (16 + (d 0 5))) (i := 0) (x := (190 * 0 + 108 + 8 * (d 0 5) + 0)) (by unfold zrel; omega) (by rw [rp_cargo (by omega)]; omega), hd, hd11]
                  refine z_aload_n hC dX8_doCargo_111 rfl ?_
                  refine z_get hC iA_X8 rfl 0 (by decide) qF_X8_7 rfl dX8_doCargo_112 rl_0 (rd_0 (ca := ca) (ad := ad)) rfl ?_
                  refine z_iconst hC dX8_doCargo_115 ?_
                  refine z_iload hC dX8_doCargo_116 rfl ?_
                  refine z_iconst hC dX8_doCargo_118 ?_
                  refine z_callS hC [.int (iZ 0), .int (iZ (d 0 5)), .int (iZ 1)] 3 rfl dX8_doCargo_119 (fun l => m_X8_cargoAt l _ _ _ 0 (d 0 5) 1) qM_X8_44 qT_X8_cargoAt qi_X8 qC_X8_cargoAt (by decide +kernel) (by decide) (by decide) (Nat.le_of_ble_eq_true rfl) (zk_pure ?_) rfl
                  refine z_iload_n hC dX8_doCargo_122 rfl ?_
                  refine z_iast hC dX8_doCargo_123 rl_1 (rd_1 (ca := ca) (ad := ad)) (by omega) (by omega) (by decide) ?_
                  refine z_nm (fun μ12 hμ12 => ?_)
                  obtain ⟨d14, hd14⟩ : ∃ q9 : zM, q9 = zup d11 (16 + (d 0 5)) 1 g := ⟨_, rfl⟩
                  have hd13 : rv μ12 0 = d14 := by rw [hμ12, rv_up (t := 0) (o := (16 + (d 0 5))) (i := 1) (x := (190 * 0 + 108 + 8 * (d 0 5) + 1)) (by unfold zrel; omega) (by rw [rp_cargo (by omega)]; omega), hd10, hd14]
                  refine z_aload_n hC dX8_doCargo_124 rfl ?_
                  refine z_get hC iA_X8 rfl 0 (by decide) qF_X8_7 rfl dX8_doCargo_125 rl_0 (rd_0 (ca := ca) (ad := ad)) rfl ?_
                  refine z_iconst hC dX8_doCargo_128 ?_
                  refine z_iload hC dX8_doCargo_129 rfl ?_
                  refine z_iconst hC dX8_doCargo_131 ?_
                  refine z_callS hC [.int (iZ 0), .int (iZ (d 0 5)), .int (iZ 2)] 3 rfl dX8_doCargo_132 (fun l => m_X8_cargoAt l _ _ _ 0 (d 0 5) 2) qM_X8_44 qT_X8_cargoAt qi_X8 qC_X8_cargoAt (by decide +kernel) (by decide) (by decide) (Nat.le_of_ble_eq_true rfl) (zk_pure ?_) rfl
                  refine z_iload_n hC dX8_doCargo_135 rfl ?_
                  refine z_iast hC dX8_doCargo_136 rl_1 (rd_1 (ca := ca) (ad := ad)) (by omega) (by omega) (by decide) ?_
                  refine z_nm (fun μ15 hμ15 => ?_)
                  obtain ⟨d17, hd17⟩ : ∃ q9 : zM, q9 = zup d14 (16 + (d 0 5)) 2 u := ⟨_, rfl⟩
                  have hd16 : rv μ15 0 = d17 := by rw [hμ15, rv_up (t := 0) (o := (16 + (d 0 5))) (i := 2) (x := (190 * 0 + 108 + 8 * (d 0 5) + 2)) (by unfold zrel; omega) (by rw [rp_cargo (by omega)]; omega), hd13, hd17]
                  refine z_aload_n hC dX8_doCargo_137 rfl ?_
                  refine z_get hC iA_X8 rfl 0 (by decide) qF_X8_7 rfl dX8_doCargo_138 rl_0 (rd_0 (ca := ca) (ad := ad)) rfl ?_
                  refine z_iconst hC dX8_doCargo_141 ?_
                  refine z_iload hC dX8_doCargo_142 rfl ?_
                  refine z_iconst hC dX8_doCargo_144 ?_
                  refine z_callS hC [.int (iZ 0), .int (iZ (d 0 5)), .int (iZ 3)] 3 rfl dX8_doCargo_145 (fun l => m_X8_cargoAt l _ _ _ 0 (d 0 5) 3) qM_X8_44 qT_X8_cargoAt qi_X8 qC_X8_cargoAt (by decide +kernel) (by decide) (by decide) (Nat.le_of_ble_eq_true rfl) (zk_pure ?_) rfl
                  refine z_iload hC dX8_doCargo_148 rfl ?_
                  refine z_iast hC dX8_doCargo_150 rl_1 (rd_1 (ca := ca) (ad := ad)) (by omega) (by omega) (by decide) ?_
                  refine z_nm (fun μ18 hμ18 => ?_)
                  obtain ⟨d20, hd20⟩ : ∃ q9 : zM, q9 = zup d17 (16 + (d 0 5)) 3 f := ⟨_, rfl⟩
                  have hd19 : rv μ18 0 = d20 := by rw [hμ18, rv_up (t := 0) (o := (16 + (d 0 5))) (i := 3) (x := (190 * 0 + 108 + 8 * (d 0 5) + 3)) (by unfold zrel; omega) (by rw [rp_cargo (by omega)]; omega), hd16, hd20]
                  refine z_aload_n hC dX8_doCargo_151 rfl ?_
                  refine z_get hC iA_X8 rfl 0 (by decide) qF_X8_7 rfl dX8_doCargo_152 rl_0 (rd_0 (ca := ca) (ad := ad)) rfl ?_
                  refine z_iconst hC dX8_doCargo_155 ?_
                  refine z_iload hC dX8_doCargo_156 rfl ?_
                  refine z_iconst hC dX8_doCargo_158 ?_
                  refine z_callS hC [.int (iZ 0), .int (iZ (d 0 5)), .int (iZ 4)] 3 rfl dX8_doCargo_159 (fun l => m_X8_cargoAt l _ _ _ 0 (d 0 5) 4) qM_X8_44 qT_X8_cargoAt qi_X8 qC_X8_cargoAt (by decide +kernel) (by decide) (by decide) (Nat.le_of_ble_eq_true rfl) (zk_pure ?_) rfl
                  refine z_iload hC dX8_doCargo_162 rfl ?_
                  refine z_iast hC dX8_doCargo_164 rl_1 (rd_1 (ca := ca) (ad := ad)) (by omega) (by omega) (by decide) ?_
                  refine z_nm (fun μ21 hμ21 => ?_)
                  obtain ⟨d23, hd23⟩ : ∃ q9 : zM, q9 = zup d20 (16 + (d 0 5)) 4 v := ⟨_, rfl⟩
                  have hd22 : rv μ21 0 = d23 := by rw [hμ21, rv_up (t := 0) (o := (16 + (d 0 5))) (i := 4) (x := (190 * 0 + 108 + 8 * (d 0 5) + 4)) (by unfold zrel; omega) (by rw [rp_cargo (by omega)]; omega), hd19, hd23]
                  refine z_aload_n hC dX8_doCargo_165 rfl ?_
                  refine z_get hC iA_X8 rfl 0 (by decide) qF_X8_7 rfl dX8_doCargo_166 rl_0 (rd_0 (ca := ca) (ad := ad)) rfl ?_
                  refine z_iconst hC dX8_doCargo_169 ?_
                  refine z_iload hC dX8_doCargo_170 rfl ?_
                  refine z_iconst hC dX8_doCargo_172 ?_
                  refine z_callS hC [.int (iZ 0), .int (iZ (d 0 5)), .int (iZ 5)] 3 rfl dX8_doCargo_173 (fun l => m_X8_cargoAt l _ _ _ 0 (d 0 5) 5) qM_X8_44 qT_X8_cargoAt qi_X8 qC_X8_cargoAt (by decide +kernel) (by decide) (by decide) (Nat.le_of_ble_eq_true rfl) (zk_pure ?_) rfl
                  refine z_iload hC dX8_doCargo_176 rfl ?_
                  refine z_iast hC dX8_doCargo_178 rl_1 (rd_1 (ca := ca) (ad := ad)) (by omega) (by omega) (by decide) ?_
                  refine z_nm (fun μ24 hμ24 => ?_)
                  obtain ⟨d26, hd26⟩ : ∃ q9 : zM, q9 = zup d23 (16 + (d 0 5)) 5 w := ⟨_, rfl⟩
                  have hd25 : rv μ24 0 = d26 := by rw [hμ24, rv_up (t := 0) (o := (16 + (d 0 5))) (i := 5) (x := (190 * 0 + 108 + 8 * (d 0 5) + 5)) (by unfold zrel; omega) (by rw [rp_cargo (by omega)]; omega), hd22, hd26]
                  refine z_aload_n hC dX8_doCargo_179 rfl ?_
                  refine z_get hC iA_X8 rfl 0 (by decide) qF_X8_7 rfl dX8_doCargo_180 rl_0 (rd_0 (ca := ca) (ad := ad)) rfl ?_
                  refine z_iconst hC dX8_doCargo_183 ?_
                  refine z_iload hC dX8_doCargo_184 rfl ?_
                  refine z_bipush hC dX8_doCargo_186 (by decide) ?_
                  refine z_callS hC [.int (iZ 0), .int (iZ (d 0 5)), .int (iZ 6)] 3 rfl dX8_doCargo_188 (fun l => m_X8_cargoAt l _ _ _ 0 (d 0 5) 6) qM_X8_44 qT_X8_cargoAt qi_X8 qC_X8_cargoAt (by decide +kernel) (by decide) (by decide) (Nat.le_of_ble_eq_true rfl) (zk_pure ?_) rfl
                  refine z_iconst hC dX8_doCargo_191 ?_
                  refine z_iast hC dX8_doCargo_192 rl_1 (rd_1 (ca := ca) (ad := ad)) (by omega) (by omega) (by decide) ?_
                  refine z_nm (fun μ27 hμ27 => ?_)
                  obtain ⟨d29, hd29⟩ : ∃ q9 : zM, q9 = zup d26 (16 + (d 0 5)) 6 0 := ⟨_, rfl⟩
                  have hd28 : rv μ27 0 = d29 := by rw [hμ27, rv_up (t := 0) (o := (16 + (d 0 5))) (i := 6) (x := (190 * 0 + 108 + 8 * (d 0 5) + 6)) (by unfold zrel; omega) (by rw [rp_cargo (by omega)]; omega), hd25, hd29]
                  refine z_aload_n hC dX8_doCargo_193 rfl ?_
                  refine z_get hC iA_X8 rfl 0 (by decide) qF_X8_7 rfl dX8_doCargo_194 rl_0 (rd_0 (ca := ca) (ad := ad)) rfl ?_
                  refine z_bipush hC dX8_doCargo_197 (by decide) ?_
                  refine z_dup2 hC dX8_doCargo_199 rfl rfl ?_
                  refine z_iald hC dX8_doCargo_200 rl_1 (rd_1 (ca := ca) (ad := ad)) (by omega) (by omega) (by decide) ?_
                  refine z_top (b := d29 0 5) ((rv_C).symm.trans (congrFun (congrFun hd28 _) _)) ?_
                  refine z_top (b := d 0 5) (by rw [hd29, zup_n (by omega), hd26, zup_n (by omega), hd23, zup_n (by omega), hd20, zup_n (by omega), hd17, zup_n (by omega), hd14, zup_n (by omega), hd11, zup_n (by omega)]) ?_
                  refine z_iconst hC dX8_doCargo_201 ?_
                  refine z_iadd hC dX8_doCargo_202 ?_
                  refine z_iast hC dX8_doCargo_203 rl_1 (rd_1 (ca := ca) (ad := ad)) (by omega) (by omega) (by decide) ?_
                  refine z_nm (fun μ30 hμ30 => ?_)
                  obtain ⟨d32, hd32⟩ : ∃ q9 : zM, q9 = zup d29 0 5 ((d 0 5) + 1) := ⟨_, rfl⟩
                  have hd31 : rv μ30 0 = d32 := by rw [hμ30, rv_up (t := 0) (o := 0) (i := 5) (x := 107) (by unfold zrel; omega) (rfl), hd28, hd32]
                  refine z_iload hC dX8_doCargo_204 rfl ?_
                  have ed29 : d29 = d26 := by rw [hd29]; exact zup_id (by rw [hd26, zup_n (by omega), hd23, zup_n (by omega), hd20, zup_n (by omega), hd17, zup_n (by omega), hd14, zup_n (by omega), hd11, zup_n (by omega)]; exact hf6 _ (by omega))
                  have e9 : opCargo d a g u f v w = (d 0 5, zup (zup (zup (zup (zup (zup (zup d (16 + (d 0 5)) 0 a) (16 + (d 0 5)) 1 g) (16 + (d 0 5)) 2 u) (16 + (d 0 5)) 3 f) (16 + (d 0 5)) 4 v) (16 + (d 0 5)) 5 w) 0 5 ((d 0 5) + 1)) := by
                    unfold opCargo
                    rw [if_neg (by omega), if_neg (by omega)]
                  exact z_iret hC dX8_doCargo_206 ⟨by rw [e9], by rw [e9, hd31, hd32, ed29, hd26, hd23, hd20, hd17, hd14, hd11], ⟨fun c9 hc9 => by rw [hμ30, zup_o (by omega), hμ27, zup_o (by omega), hμ24, zup_o (by omega), hμ21, zup_o (by omega), hμ18, zup_o (by omega), hμ15, zup_o (by omega), hμ12, zup_o (by omega), hμ9, zup_o (by omega)], fun i9 hi9 => by rw [hμ30, zup_n (by omega), hμ27, zup_n (by omega), hμ24, zup_n (by omega), hμ21, zup_n (by omega), hμ18, zup_n (by omega), hμ15, zup_n (by omega), hμ12, zup_n (by omega), hμ9, zup_n (by omega)], fun x9 hx9 => by rw [hμ30, zup_n (by omega), hμ27, zup_n (by omega), hμ24, zup_n (by omega), hμ21, zup_n (by omega), hμ18, zup_n (by omega), hμ15, zup_n (by omega), hμ12, zup_n (by omega), hμ9, zup_n (by omega)]⟩⟩
                · refine z_ldc hC (-1000003) qc_X8_90 rfl dX8_doCargo_86 ?_
                  have e9 : opCargo d a g u f v w = ((-1000003), d) := by
                    unfold opCargo
                    rw [if_neg (by omega), if_pos (by omega)]
                  exact z_iret hC dX8_doCargo_88 ⟨by rw [e9], by rw [e9, hd], ⟨fun _ _ => rfl, fun _ _ => rfl, fun _ _ => rfl⟩⟩
              · refine z_ldc hC (-1000001) qc_X8_24 rfl dX8_doCargo_71 ?_
                have e9 : opCargo d a g u f v w = ((-1000001), d) := by
                  unfold opCargo
                  rw [if_pos (by omega)]
                exact z_iret hC dX8_doCargo_73 ⟨by rw [e9], by rw [e9, hd], ⟨fun _ _ => rfl, fun _ _ => rfl, fun _ _ => rfl⟩⟩

set_option maxHeartbeats 4000000 in
set_option maxRecDepth 100000 in
/-- doFix(k, c) -/
theorem m_X8_doFix (l : Launch) (G : va_G) (ca : Nat → ClassId) (ad : Int → Nat) (A : Nat → Prop) (μ : zM) (d : zM) (hd : rv μ 0 = d) (k c : Int) (hk : -2147483648 ≤ k ∧ k ≤ 2147483647) (hc : -2147483648 ≤ c ∧ c ≤ 2147483647) (hI : zInv d) : zMet l (rω G ca ad) A yX8_doFix cX8_doFix 3 (some .int) 7 166 [.ref (ad 0), .int (iZ k), .int (iZ c)] μ (zpI (.int (iZ (opFix d k c).1)) (fun μ' => rv μ' 0 = (opFix d k c).2 ∧ rSl μ μ')) := by
  refine zMet_of (by decide) (Nat.le_of_ble_eq_true rfl) (fun Γ hC => ?_)
  show Z Γ _ μ 0 [(0, .ref (ad 0)), (1, .int (iZ k)), (2, .int (iZ c))] []
  obtain ⟨hB, hf5, hf6, hIF, hIS, hII, hIL⟩ := id hI
  obtain ⟨hN0, hP, hB3, hB4⟩ := id hB
  obtain ⟨hN1, hN2⟩ := id hN0
  have hcb := sCould_b d k c
  refine z_aload_n hC dX8_doFix_0 rfl ?_
  refine z_iload_n hC dX8_doFix_1 rfl ?_
  refine z_callV hC [.int (iZ k)] 1 rfl dX8_doFix_2 (fun l => m_X8_isShip l G ca ad _ μ d hd k (by omega) (by omega)) qM_X8_91 qI_X8_isShip qS_X8_isShip qi_X8 qC_X8_isShip (by decide +kernel) (by decide) (by decide) rl_0 (rd_0 (ca := ca) (ad := ad)) rfl (Nat.le_of_ble_eq_true rfl) (zk_pure ?_) rfl
  refine z_ifb_eq hC 16 dX8_doFix_5 (by decide) (fun c_1 => ?_) (fun c_1 => ?_)
  · refine z_ldc hC (-1000001) qc_X8_24 rfl dX8_doFix_16 ?_
    exact z_iret hC dX8_doFix_18 ⟨by unfold opFix; rw [if_pos (by omega)], by unfold opFix; rw [if_pos (by omega)]; exact ⟨hd, rSl_fr (rFr_rf μ)⟩⟩
  · refine z_aload_n hC dX8_doFix_8 rfl ?_
    refine z_iload_n hC dX8_doFix_9 rfl ?_
    refine z_callV hC [.int (iZ c)] 1 rfl dX8_doFix_10 (fun l => m_X8_isCargo l G ca ad _ μ d hd c (by omega) (by omega)) qM_X8_95 qI_X8_isCargo qS_X8_isCargo qi_X8 qC_X8_isCargo (by decide +kernel) (by decide) (by decide) rl_0 (rd_0 (ca := ca) (ad := ad)) rfl (Nat.le_of_ble_eq_true rfl) (zk_pure ?_) rfl
    refine z_ifb_ne hC 19 dX8_doFix_13 (by decide) (fun c_2 => ?_) (fun c_2 => ?_)
    · obtain ⟨hs0, hs1, hs2, hs3, hs4, hs6⟩ := hB3 k (by omega)
      obtain ⟨hq0, hq1, hq2, hq3, hq4, hq5, hq6⟩ := hB4 c (by omega)
      refine z_aload_n hC dX8_doFix_19 rfl ?_
      refine z_get hC iA_X8 rfl 0 (by decide) qF_X8_7 rfl dX8_doFix_20 rl_0 (rd_0 (ca := ca) (ad := ad)) rfl ?_
      refine z_iconst hC dX8_doFix_23 ?_
      refine z_iload_n hC dX8_doFix_24 rfl ?_
      refine z_bipush hC dX8_doFix_25 (by decide) ?_
      refine z_callS hC [.int (iZ 0), .int (iZ c), .int (iZ 6)] 3 rfl dX8_doFix_27 (fun l => m_X8_cargoAt l _ _ _ 0 c 6) qM_X8_44 qT_X8_cargoAt qi_X8 qC_X8_cargoAt (by decide +kernel) (by decide) (by decide) (Nat.le_of_ble_eq_true rfl) (zk_pure ?_) rfl
      refine z_iald hC dX8_doFix_30 rl_1 (rd_1 (ca := ca) (ad := ad)) (by omega) (by omega) (by decide) ?_
      refine z_top (b := d (16 + c) 6) ((rv_cargo (by omega) (by omega)).symm.trans (congrFun (congrFun hd _) _)) ?_
      refine z_if_ne hC 44 dX8_doFix_31 (by decide) (by omega) (fun c_3 => ?_) (fun c_3 => ?_)
      · refine z_ldc hC (-1000002) qc_X8_101 rfl dX8_doFix_44 ?_
        have e9 : opFix d k c = (-1000002, d) := by unfold opFix; rw [if_neg (by omega), if_pos (by omega)]
        exact z_iret hC dX8_doFix_46 ⟨by rw [e9], by rw [e9]; exact ⟨hd, rSl_fr (rFr_rf μ)⟩⟩
      · refine z_aload_n hC dX8_doFix_34 rfl ?_
        refine z_iconst hC dX8_doFix_35 ?_
        refine z_iload_n hC dX8_doFix_36 rfl ?_
        refine z_iload_n hC dX8_doFix_37 rfl ?_
        refine z_callV hC [.int (iZ 0), .int (iZ k), .int (iZ c)] 3 rfl dX8_doFix_38 (fun l => m_X8_could l G ca ad _ μ d hd 0 (by omega) d hd (fun _ => ⟨rfl, rfl⟩) hP k c hB (by omega) (by omega) (fOk_of hI (by omega)) (late_of hI (by omega))) qM_X8_98 qI_X8_could qS_X8_could qi_X8 qC_X8_could (by decide +kernel) (by decide) (by decide) rl_0 (rd_0 (ca := ca) (ad := ad)) rfl (Nat.le_of_ble_eq_true rfl) (zk_int (fun μ4 hμ4 => ?_)) rfl
        obtain ⟨hμ4f, ⟨hμ48, hμ49, hμ4a, hμ4b⟩, hμ413⟩ := id hμ4
        have hd5 : rv μ4 0 = d := by rw [rv_fr hμ4f]; exact hd
        refine z_if_le hC 47 dX8_doFix_41 (by decide) (by omega) (fun c_6 => ?_) (fun c_6 => ?_)
        · have hf9 := zInv_full hI k c (by omega) (by omega) (by omega)
          refine z_aload_n hC dX8_doFix_47 rfl ?_
          refine z_iconst hC dX8_doFix_48 ?_
          refine z_iload_n hC dX8_doFix_49 rfl ?_
          refine z_iload_n hC dX8_doFix_50 rfl ?_
          refine z_callV hC [.int (iZ 0), .int (iZ k), .int (iZ c)] 3 rfl dX8_doFix_51 (fun l => m_X8_fixes l G ca ad _ μ4 0 (by omega) d hd5 k c (by omega) (by omega) (by omega)) qM_X8_102 qI_X8_fixes qS_X8_fixes qi_X8 qC_X8_fixes (by decide +kernel) (by decide) (by decide) rl_0 (rd_0 (ca := ca) (ad := ad)) rfl (Nat.le_of_ble_eq_true rfl) (zk_void (fun μ7 hμ7 => ?_)) rfl
          obtain ⟨hμ7v, hμ7f⟩ := id hμ7
          refine z_aload_n hC dX8_doFix_54 rfl ?_
          refine z_get hC iA_X8 rfl 10 (by decide) qF_X8_57 rfl dX8_doFix_55 rl_0 (rd_0 (ca := ca) (ad := ad)) rfl ?_
          refine z_top (b := sFree d k c (sEnd d k).1 (sEnd d k).2.1) (by rw [hμ7f.1 0 (by omega), hμ4a]) ?_
          have e9 : opFix d k c = (sFree d k c (sEnd d k).1 (sEnd d k).2.1, zup (zup (zup (zup d (11 + k) (d (6 + k) 6) c) (6 + k) 6 (d (6 + k) 6 + 1)) (16 + c) 6 1) (16 + c) 7 k) := by unfold opFix; rw [if_neg (by omega), if_neg (by omega)]
          exact z_iret hC dX8_doFix_58 ⟨by rw [e9], by rw [e9]; exact ⟨hμ7v, rSl_tr (rSl_fr hμ4f) (rSl_f1 hμ7f)⟩⟩
        · refine z_ldc hC (-1000002) qc_X8_101 rfl dX8_doFix_44 ?_
          have e9 : opFix d k c = (-1000002, d) := by unfold opFix; rw [if_neg (by omega), if_pos (by omega)]
          exact z_iret hC dX8_doFix_46 ⟨by rw [e9], by rw [e9]; exact ⟨hd5, rSl_fr hμ4f⟩⟩
    · refine z_ldc hC (-1000001) qc_X8_24 rfl dX8_doFix_16 ?_
      exact z_iret hC dX8_doFix_18 ⟨by unfold opFix; rw [if_pos (by omega)], by unfold opFix; rw [if_pos (by omega)]; exact ⟨hd, rSl_fr (rFr_rf μ)⟩⟩

set_option maxHeartbeats 4000000 in
set_option maxRecDepth 100000 in
/-- copies(a, b) -/
theorem m_X8_copies (l : Launch) (G : va_G) (ca : Nat → ClassId) (ad : Int → Nat) (A : Nat → Prop) (μ : zM) (a b : Int) (ha : 0 ≤ a ∧ a ≤ 6) (hb : 0 ≤ b ∧ b ≤ 6) (hab : a ≠ b) : zMet l (rω G ca ad) A yX8_copies cX8_copies 4 none 0 0 [.ref (ad 0), .int (iZ a), .int (iZ b)] μ (zpV (fun μ' => rv μ' b = rv μ a ∧ rF1 b μ μ')) := by
  refine zMet_of (by decide) (Nat.le_of_ble_eq_true rfl) (fun Γ hC => ?_)
  show Z Γ _ μ 0 [(0, .ref (ad 0)), (1, .int (iZ a)), (2, .int (iZ b))] []
  refine z_iconst hC dX8_copies_0 ?_
  refine z_istore_n hC dX8_copies_1 (by decide) rfl ?_
  have LOOP : ∀ (r n : Nat), n + r = 190 → ∀ μ1 : zM, (∀ c, c ≠ 1 → μ1 c = μ c) → (∀ x, x < 190 * b ∨ 190 * b + (n : Int) ≤ x → μ1 1 x = μ 1 x) → (∀ j, 0 ≤ j ∧ j < (n : Int) → μ1 1 (190 * b + j) = μ 1 (190 * a + j)) → Z Γ (rω G ca ad) μ1 2 [(3, .int (iZ (n : Int))), (0, .ref (ad 0)), (1, .int (iZ a)), (2, .int (iZ b))] [] := by
    intro r
    induction r with
    | zero =>
      intro n hn μ1 hf hg hj9
      refine z_iload_n hC dX8_copies_2 rfl ?_
      refine z_sipush hC dX8_copies_3 (by decide) ?_
      refine z_icmp_ge hC 39 dX8_copies_6 (by decide) (by omega) (by omega) (fun c_1 => ?_) (fun c_1 => ?_)
      · obtain rfl : n = 190 := by omega
        exact z_vret hC dX8_copies_39 ⟨rfl, rv_cp (fun j hj => hj9 j (by omega)), hf, fun x hx => hg x (by omega)⟩
      · exfalso; omega
    | succ r ih =>
      intro n hn μ1 hf hg hj9
      refine z_iload_n hC dX8_copies_2 rfl ?_
      refine z_sipush hC dX8_copies_3 (by decide) ?_
      refine z_icmp_ge hC 39 dX8_copies_6 (by decide) (by omega) (by omega) (fun c_2 => ?_) (fun c_2 => ?_)
      · exfalso; omega
      · refine z_aload_n hC dX8_copies_9 rfl ?_
        refine z_get hC iA_X8 rfl 0 (by decide) qF_X8_7 rfl dX8_copies_10 rl_0 (rd_0 (ca := ca) (ad := ad)) rfl ?_
        refine z_sipush hC dX8_copies_13 (by decide) ?_
        refine z_iload_n hC dX8_copies_16 rfl ?_
        refine z_imul hC dX8_copies_17 ?_
        refine z_iload_n hC dX8_copies_18 rfl ?_
        refine z_iadd hC dX8_copies_19 ?_
        refine z_aload_n hC dX8_copies_20 rfl ?_
        refine z_get hC iA_X8 rfl 0 (by decide) qF_X8_7 rfl dX8_copies_21 rl_0 (rd_0 (ca := ca) (ad := ad)) rfl ?_
        refine z_sipush hC dX8_copies_24 (by decide) ?_
        refine z_iload_n hC dX8_copies_27 rfl ?_
        refine z_imul hC dX8_copies_28 ?_
        refine z_iload_n hC dX8_copies_29 rfl ?_
        refine z_iadd hC dX8_copies_30 ?_
        refine z_iald hC dX8_copies_31 rl_1 (rd_1 (ca := ca) (ad := ad)) (by omega) (by omega) (by decide) ?_
        refine z_iast hC dX8_copies_32 rl_1 (rd_1 (ca := ca) (ad := ad)) (by omega) (by omega) (by decide) ?_
        refine z_nm (fun μ3 hμ3 => ?_)
        refine z_iinc hC dX8_copies_33 rfl (by decide) rfl ?_
        refine z_goto hC 2 dX8_copies_36 (by decide) ?_
        refine z_weak (L' := [(3, .int (iZ ((n + 1 : Nat) : Int))), (0, .ref (ad 0)), (1, .int (iZ a)), (2, .int (iZ b))]) ⟨rfl, rfl, rfl, rfl, trivial⟩ ?_
        exact ih (n + 1) (by omega) μ3 (fun c hc => by rw [hμ3, zup_o hc]; exact hf c hc) (fun x hx => by rw [hμ3, zup_n (by omega)]; exact hg x (by omega)) (fun j hj => by
          by_cases q : j = (n : Int)
          · rw [hμ3, q, zup_v (by omega), hg _ (by omega)]
          · rw [hμ3, zup_n (by omega)]; exact hj9 j (by omega))
  refine z_weak (L' := [(3, .int (iZ ((0 : Nat) : Int))), (0, .ref (ad 0)), (1, .int (iZ a)), (2, .int (iZ b))]) ⟨rfl, rfl, rfl, rfl, trivial⟩ ?_
  exact LOOP 190 0 (by omega) μ (fun _ _ => rfl) (fun _ _ => rfl) (fun j hj => absurd hj (by omega))

set_option maxHeartbeats 4000000 in
set_option maxRecDepth 100000 in
/-- keeps() -/
theorem m_X8_keeps (l : Launch) (G : va_G) (ca : Nat → ClassId) (ad : Int → Nat) (A : Nat → Prop) (μ : zM) : zMet l (rω G ca ad) A yX8_keeps cX8_keeps 1 none 1 23 [.ref (ad 0)] μ (zpV (fun μ' => rv μ' 6 = rv μ 0 ∧ rF1 6 μ μ')) := by
  refine zMet_of (by decide) (Nat.le_of_ble_eq_true rfl) (fun Γ hC => ?_)
  show Z Γ _ μ 0 [(0, .ref (ad 0))] []
  refine z_aload_n hC dX8_keeps_0 rfl ?_
  refine z_iconst hC dX8_keeps_1 ?_
  refine z_bipush hC dX8_keeps_2 (by decide) ?_
  refine z_callV hC [.int (iZ 0), .int (iZ 6)] 2 rfl dX8_keeps_4 (fun l => m_X8_copies l G ca ad _ μ 0 6 (by omega) (by omega) (by omega)) qM_X8_20 qI_X8_copies qS_X8_copies qi_X8 qC_X8_copies (by decide +kernel) (by decide) (by decide) rl_0 (rd_0 (ca := ca) (ad := ad)) rfl (Nat.le_of_ble_eq_true rfl) (zk_void (fun μ1 hμ1 => ?_)) rfl
  obtain ⟨hμ1v, hμ1f⟩ := id hμ1
  exact z_vret hC dX8_keeps_7 ⟨rfl, hμ1v, hμ1f⟩
