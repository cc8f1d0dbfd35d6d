set_option maxHeartbeats 4000000 in
set_option maxRecDepth 100000 in
/-- opPort d p x y -/
theorem m_X2_movePort (l : Launch) (G : va_G) (ca : Nat → ClassId) (ad : Int → Nat) (A : Nat → Prop) (μ : zM) (b : Int) (hb : zb b) (d : zM) (hd : vw μ b = d) (p x y : Int) (hp : -2147483648 ≤ p ∧ p ≤ 2147483647) (hx : -2147483648 ≤ x ∧ x ≤ 2147483647) (hy : -2147483648 ≤ y ∧ y ≤ 2147483647) (hB : bD d) : zMet l (cω G ca ad) A yX2_movePort cX2_movePort 5 (some .int) 2 42 [.ref (ad b), .int (iZ p), .int (iZ x), .int (iZ y)] μ (zpI (.int (iZ (opPort d p x y).1)) (fun μ' => vw μ' b = (opPort d p x y).2 ∧ zFd μ b μ')) := by
  refine zMet_of (by decide) (Nat.le_of_ble_eq_true rfl) (fun Γ hC => ?_)
  show Z Γ _ μ 0 [(0, .ref (ad b)), (1, .int (iZ p)), (2, .int (iZ x)), (3, .int (iZ y))] []
  obtain ⟨hN, hP, hB3, hB4⟩ := id hB
  obtain ⟨hN1, hN2⟩ := id hN
  have hcn := sCnt_b d 1 (d 0 5).toNat
  refine z_iload_n hC dX2_movePort_0 rfl ?_
  refine z_callSN hC [.int (iZ p)] 1 rfl dX2_movePort_1 (fun l => m_X7_isPort l _ _ _ p (by omega)) (by decide +kernel) qT_X7_isPort qi_X7 qC_X7_isPort (by decide +kernel) (by decide) (by decide) (Nat.le_of_ble_eq_true rfl) (zk_pure ?_) rfl
  refine z_ifb_eq hC 27 dX2_movePort_4 (by decide) (fun c_1 => ?_) (fun c_1 => ?_)
  · refine z_ldc hC (-1000001) qc_X2_73 rfl dX2_movePort_27 ?_
    have e9 : opPort d p x y = ((-1000001), d) := by
      unfold opPort
      rw [if_pos (by omega)]
    exact z_iret hC dX2_movePort_29 ⟨by rw [e9], by rw [e9, hd], fun c9 hc9 => rfl⟩
  · refine z_iload_n hC dX2_movePort_7 rfl ?_
    refine z_iconst hC dX2_movePort_8 ?_
    refine z_bipush hC dX2_movePort_9 (by decide) ?_
    refine z_callSN hC [.int (iZ x), .int (iZ 0), .int (iZ 99)] 3 rfl dX2_movePort_11 (fun l => m_X7_isIn l _ _ _ x 0 99 (by omega) (by omega) (by omega)) (by decide +kernel) qT_X7_isIn qi_X7 qC_X7_isIn (by decide +kernel) (by decide) (by decide) (Nat.le_of_ble_eq_true rfl) (zk_pure ?_) rfl
    refine z_ifb_eq hC 27 dX2_movePort_14 (by decide) (fun c_2 => ?_) (fun c_2 => ?_)
    · refine z_ldc hC (-1000001) qc_X2_73 rfl dX2_movePort_27 ?_
      have e9 : opPort d p x y = ((-1000001), d) := by
        unfold opPort
        rw [if_pos (by omega)]
      exact z_iret hC dX2_movePort_29 ⟨by rw [e9], by rw [e9, hd], fun c9 hc9 => rfl⟩
    · refine z_iload_n hC dX2_movePort_17 rfl ?_
      refine z_iconst hC dX2_movePort_18 ?_
      refine z_bipush hC dX2_movePort_19 (by decide) ?_
      refine z_callSN hC [.int (iZ y), .int (iZ 0), .int (iZ 99)] 3 rfl dX2_movePort_21 (fun l => m_X7_isIn l _ _ _ y 0 99 (by omega) (by omega) (by omega)) (by decide +kernel) qT_X7_isIn qi_X7 qC_X7_isIn (by decide +kernel) (by decide) (by decide) (Nat.le_of_ble_eq_true rfl) (zk_pure ?_) rfl
      refine z_ifb_ne hC 30 dX2_movePort_24 (by decide) (fun c_3 => ?_) (fun c_3 => ?_)
      · refine z_aload_n hC dX2_movePort_30 rfl ?_
        refine z_iconst hC dX2_movePort_31 ?_
        refine z_callV hC [.int (iZ 1)] 1 rfl dX2_movePort_32 (fun l => m_X2_cargoesThatAre l G ca ad _ μ b hb d hd 1 (by omega) (d 0 5).toNat (by omega) hB) qM_X2_74 qI_X2_cargoesThatAre qS_X2_cargoesThatAre qi_X2 qC_X2_cargoesThatAre (by decide +kernel) (by decide) (by decide) (cl_desk hb) (cd_desk hb) rfl (Nat.le_of_ble_eq_true rfl) (zk_pure ?_) rfl
        refine z_if_le hC 41 dX2_movePort_35 (by decide) (by omega) (fun c_4 => ?_) (fun c_4 => ?_)
        · refine z_bipush hC dX2_movePort_41 (by decide) ?_
          refine z_aload_n hC dX2_movePort_43 rfl ?_
          refine z_get hC iA_X2 rfl 0 (by decide) qF_X2_9 rfl dX2_movePort_44 (cl_desk hb) (cd_desk hb) rfl ?_
          refine z_iload_n hC dX2_movePort_47 rfl ?_
          refine z_iald hC dX2_movePort_48 (cl_x hb) (cd_x hb) (by omega) (by omega) (by decide) ?_
          refine z_top (b := d 1 p) ((vw_x (by omega)).symm.trans (congrFun (congrFun hd _) _)) ?_
          refine z_imul hC dX2_movePort_49 ?_
          refine z_aload_n hC dX2_movePort_50 rfl ?_
          refine z_get hC iA_X2 rfl 1 (by decide) qF_X2_15 rfl dX2_movePort_51 (cl_desk hb) (cd_desk hb) rfl ?_
          refine z_iload_n hC dX2_movePort_54 rfl ?_
          refine z_iald hC dX2_movePort_55 (cl_y hb) (cd_y hb) (by omega) (by omega) (by decide) ?_
          refine z_top (b := d 2 p) ((vw_y (by omega)).symm.trans (congrFun (congrFun hd _) _)) ?_
          refine z_iadd hC dX2_movePort_56 ?_
          refine z_istore hC dX2_movePort_57 (by decide) rfl ?_
          refine z_aload_n hC dX2_movePort_59 rfl ?_
          refine z_get hC iA_X2 rfl 0 (by decide) qF_X2_9 rfl dX2_movePort_60 (cl_desk hb) (cd_desk hb) rfl ?_
          refine z_iload_n hC dX2_movePort_63 rfl ?_
          refine z_iload_n hC dX2_movePort_64 rfl ?_
          refine z_iast hC dX2_movePort_65 (cl_x hb) (cd_x hb) (by omega) (by omega) (by decide) ?_
          refine z_nm (fun μ5 hμ5 => ?_)
          obtain ⟨d7, hd7⟩ : ∃ q9 : zM, q9 = zup d 1 p x := ⟨_, rfl⟩
          have hd6 : vw μ5 b = d7 := by rw [hμ5, vw_up (by unfold zrel; omega), hd, hd7]
          refine z_aload_n hC dX2_movePort_66 rfl ?_
          refine z_get hC iA_X2 rfl 1 (by decide) qF_X2_15 rfl dX2_movePort_67 (cl_desk hb) (cd_desk hb) rfl ?_
          refine z_iload_n hC dX2_movePort_70 rfl ?_
          refine z_iload_n hC dX2_movePort_71 rfl ?_
          refine z_iast hC dX2_movePort_72 (cl_y hb) (cd_y hb) (by omega) (by omega) (by decide) ?_
          refine z_nm (fun μ8 hμ8 => ?_)
          obtain ⟨d10, hd10⟩ : ∃ q9 : zM, q9 = zup d7 2 p y := ⟨_, rfl⟩
          have hd9 : vw μ8 b = d10 := by rw [hμ8, vw_up (by unfold zrel; omega), hd6, hd10]
          refine z_iload hC dX2_movePort_73 rfl ?_
          have e9 : opPort d p x y = ((100 * (d 1 p)) + (d 2 p), zup (zup d 1 p x) 2 p y) := by
            unfold opPort
            rw [if_neg (by omega), if_neg (by omega)]
          exact z_iret hC dX2_movePort_75 ⟨by rw [e9], by rw [e9, hd9, hd10, hd7], fun c9 hc9 => by rw [hμ8, zup_o (by omega), hμ5, zup_o (by omega)]⟩
        · refine z_ldc hC (-1000002) qc_X2_78 rfl dX2_movePort_38 ?_
          have e9 : opPort d p x y = ((-1000002), d) := by
            unfold opPort
            rw [if_neg (by omega), if_pos (by omega)]
          exact z_iret hC dX2_movePort_40 ⟨by rw [e9], by rw [e9, hd], fun c9 hc9 => rfl⟩
      · refine z_ldc hC (-1000001) qc_X2_73 rfl dX2_movePort_27 ?_
        have e9 : opPort d p x y = ((-1000001), d) := by
          unfold opPort
          rw [if_pos (by omega)]
        exact z_iret hC dX2_movePort_29 ⟨by rw [e9], by rw [e9, hd], fun c9 hc9 => rfl⟩

set_option maxHeartbeats 4000000 in
set_option maxRecDepth 100000 in
/-- opShip d z v u p t -/
theorem m_X2_addShip (l : Launch) (G : va_G) (ca : Nat → ClassId) (ad : Int → Nat) (A : Nat → Prop) (μ : zM) (b : Int) (hb : zb b) (d : zM) (hd : vw μ b = d) (z v u p t : Int) (hz : -2147483648 ≤ z ∧ z ≤ 2147483647) (hv : -2147483648 ≤ v ∧ v ≤ 2147483647) (hu : -2147483648 ≤ u ∧ u ≤ 2147483647) (hp : -2147483648 ≤ p ∧ p ≤ 2147483647) (ht : -2147483648 ≤ t ∧ t ≤ 2147483647) (hN : bN d) : zMet l (cω G ca ad) A yX2_addShip cX2_addShip 7 (some .int) 2 42 [.ref (ad b), .int (iZ z), .int (iZ v), .int (iZ u), .int (iZ p), .int (iZ t)] μ (zpI (.int (iZ (opShip d z v u p t).1)) (fun μ' => vw μ' b = (opShip d z v u p t).2 ∧ zFd μ b μ')) := by
  refine zMet_of (by decide) (Nat.le_of_ble_eq_true rfl) (fun Γ hC => ?_)
  show Z Γ _ μ 0 [(0, .ref (ad b)), (1, .int (iZ z)), (2, .int (iZ v)), (3, .int (iZ u)), (4, .int (iZ p)), (5, .int (iZ t))] []
  obtain ⟨hN1, hN2⟩ := id hN
  refine z_iload_n hC dX2_addShip_0 rfl ?_
  refine z_iconst hC dX2_addShip_1 ?_
  refine z_bipush hC dX2_addShip_2 (by decide) ?_
  refine z_callSN hC [.int (iZ z), .int (iZ 1), .int (iZ 99)] 3 rfl dX2_addShip_4 (fun l => m_X7_isIn l _ _ _ z 1 99 (by omega) (by omega) (by omega)) (by decide +kernel) qT_X7_isIn qi_X7 qC_X7_isIn (by decide +kernel) (by decide) (by decide) (Nat.le_of_ble_eq_true rfl) (zk_pure ?_) rfl
  refine z_ifb_eq hC 50 dX2_addShip_7 (by decide) (fun c_1 => ?_) (fun c_1 => ?_)
  · refine z_ldc hC (-1000001) qc_X2_73 rfl dX2_addShip_50 ?_
    have e9 : opShip d z v u p t = ((-1000001), d) := by
      unfold opShip
      rw [if_pos (by omega)]
    exact z_iret hC dX2_addShip_52 ⟨by rw [e9], by rw [e9, hd], fun c9 hc9 => rfl⟩
  · refine z_iload_n hC dX2_addShip_10 rfl ?_
    refine z_iconst hC dX2_addShip_11 ?_
    refine z_bipush hC dX2_addShip_12 (by decide) ?_
    refine z_callSN hC [.int (iZ v), .int (iZ 1), .int (iZ 20)] 3 rfl dX2_addShip_14 (fun l => m_X7_isIn l _ _ _ v 1 20 (by omega) (by omega) (by omega)) (by decide +kernel) qT_X7_isIn qi_X7 qC_X7_isIn (by decide +kernel) (by decide) (by decide) (Nat.le_of_ble_eq_true rfl) (zk_pure ?_) rfl
    refine z_ifb_eq hC 50 dX2_addShip_17 (by decide) (fun c_2 => ?_) (fun c_2 => ?_)
    · refine z_ldc hC (-1000001) qc_X2_73 rfl dX2_addShip_50 ?_
      have e9 : opShip d z v u p t = ((-1000001), d) := by
        unfold opShip
        rw [if_pos (by omega)]
      exact z_iret hC dX2_addShip_52 ⟨by rw [e9], by rw [e9, hd], fun c9 hc9 => rfl⟩
    · refine z_iload_n hC dX2_addShip_20 rfl ?_
      refine z_iconst hC dX2_addShip_21 ?_
      refine z_bipush hC dX2_addShip_22 (by decide) ?_
      refine z_callSN hC [.int (iZ u), .int (iZ 1), .int (iZ 99)] 3 rfl dX2_addShip_24 (fun l => m_X7_isIn l _ _ _ u 1 99 (by omega) (by omega) (by omega)) (by decide +kernel) qT_X7_isIn qi_X7 qC_X7_isIn (by decide +kernel) (by decide) (by decide) (Nat.le_of_ble_eq_true rfl) (zk_pure ?_) rfl
      refine z_ifb_eq hC 50 dX2_addShip_27 (by decide) (fun c_3 => ?_) (fun c_3 => ?_)
      · refine z_ldc hC (-1000001) qc_X2_73 rfl dX2_addShip_50 ?_
        have e9 : opShip d z v u p t = ((-1000001), d) := by
          unfold opShip
          rw [if_pos (by omega)]
        exact z_iret hC dX2_addShip_52 ⟨by rw [e9], by rw [e9, hd], fun c9 hc9 => rfl⟩
      · refine z_iload hC dX2_addShip_30 rfl ?_
        refine z_callSN hC [.int (iZ p)] 1 rfl dX2_addShip_32 (fun l => m_X7_isPort l _ _ _ p (by omega)) (by decide +kernel) qT_X7_isPort qi_X7 qC_X7_isPort (by decide +kernel) (by decide) (by decide) (Nat.le_of_ble_eq_true rfl) (zk_pure ?_) rfl
        refine z_ifb_eq hC 50 dX2_addShip_35 (by decide) (fun c_4 => ?_) (fun c_4 => ?_)
        · refine z_ldc hC (-1000001) qc_X2_73 rfl dX2_addShip_50 ?_
          have e9 : opShip d z v u p t = ((-1000001), d) := by
            unfold opShip
            rw [if_pos (by omega)]
          exact z_iret hC dX2_addShip_52 ⟨by rw [e9], by rw [e9, hd], fun c9 hc9 => rfl⟩
        · refine z_iload hC dX2_addShip_38 rfl ?_
          refine z_iconst hC dX2_addShip_40 ?_
          refine z_sipush hC dX2_addShip_41 (by decide) ?_
          refine z_callSN hC [.int (iZ t), .int (iZ 0), .int (iZ 999)] 3 rfl dX2_addShip_44 (fun l => m_X7_isIn l _ _ _ t 0 999 (by omega) (by omega) (by omega)) (by decide +kernel) qT_X7_isIn qi_X7 qC_X7_isIn (by decide +kernel) (by decide) (by decide) (Nat.le_of_ble_eq_true rfl) (zk_pure ?_) rfl
          refine z_ifb_ne hC 53 dX2_addShip_47 (by decide) (fun c_5 => ?_) (fun c_5 => ?_)
          · refine z_aload_n hC dX2_addShip_53 rfl ?_
            refine z_get hC iA_X2 rfl 4 (by decide) qF_X2_52 rfl dX2_addShip_54 (cl_desk hb) (cd_desk hb) rfl ?_
            refine z_top (b := d 0 4) ((vw_S).symm.trans (congrFun (congrFun hd _) _)) ?_
            refine z_iconst hC dX2_addShip_57 ?_
            refine z_icmp_lt hC 64 dX2_addShip_58 (by decide) (by omega) (by omega) (fun c_6 => ?_) (fun c_6 => ?_)
            · refine z_aload_n hC dX2_addShip_64 rfl ?_
              refine z_get hC iA_X2 rfl 2 (by decide) qF_X2_20 rfl dX2_addShip_65 (cl_desk hb) (cd_desk hb) rfl ?_
              refine z_aload_n hC dX2_addShip_68 rfl ?_
              refine z_get hC iA_X2 rfl 4 (by decide) qF_X2_52 rfl dX2_addShip_69 (cl_desk hb) (cd_desk hb) rfl ?_
              refine z_top (b := d 0 4) ((vw_S).symm.trans (congrFun (congrFun hd _) _)) ?_
              refine z_aald hC dX2_addShip_72 2 rfl (cl_ships hb) (fun _ i => b + 6 + i) (cd_ships hb) (by omega) (by omega) (by decide) ?_
              refine z_astore hC dX2_addShip_73 (by decide) rfl ?_
              refine z_aload hC dX2_addShip_75 rfl ?_
              refine z_iload_n hC dX2_addShip_77 rfl ?_
              refine z_put hC iA_X6 rfl tyX6 tyX6_ok nmX6 0 (by decide) rfl rfl 0 rfl qF_X2_80 rfl dX2_addShip_78 (cl_ship hb (by omega)) (cd_ship hb (by omega)) (fun _ => rfl) (fun _ => Nat.le_of_ble_eq_true rfl) ?_
              refine z_nm (fun μ7 hμ7 => ?_)
              obtain ⟨d9, hd9⟩ : ∃ q9 : zM, q9 = zup d (6 + (d 0 4)) 0 z := ⟨_, rfl⟩
              have hd8 : vw μ7 b = d9 := by rw [hμ7, vw_upk (by unfold zrel; omega), hd, hd9]
              refine z_aload hC dX2_addShip_81 rfl ?_
              refine z_iload_n hC dX2_addShip_83 rfl ?_
              refine z_put hC iA_X6 rfl tyX6 tyX6_ok nmX6 1 (by decide) rfl rfl 1 rfl qF_X2_83 rfl dX2_addShip_84 (cl_ship hb (by omega)) (cd_ship hb (by omega)) (fun _ => rfl) (fun _ => Nat.le_of_ble_eq_true rfl) ?_
              refine z_nm (fun μ10 hμ10 => ?_)
              obtain ⟨d12, hd12⟩ : ∃ q9 : zM, q9 = zup d9 (6 + (d 0 4)) 1 v := ⟨_, rfl⟩
              have hd11 : vw μ10 b = d12 := by rw [hμ10, vw_upk (by unfold zrel; omega), hd8, hd12]
              refine z_aload hC dX2_addShip_87 rfl ?_
              refine z_iload_n hC dX2_addShip_89 rfl ?_
              refine z_put hC iA_X6 rfl tyX6 tyX6_ok nmX6 2 (by decide) rfl rfl 2 rfl qF_X2_86 rfl dX2_addShip_90 (cl_ship hb (by omega)) (cd_ship hb (by omega)) (fun _ => rfl) (fun _ => Nat.le_of_ble_eq_true rfl) ?_
              refine z_nm (fun μ13 hμ13 => ?_)
              obtain ⟨d15, hd15⟩ : ∃ q9 : zM, q9 = zup d12 (6 + (d 0 4)) 2 u := ⟨_, rfl⟩
              have hd14 : vw μ13 b = d15 := by rw [hμ13, vw_upk (by unfold zrel; omega), hd11, hd15]
              refine z_aload hC dX2_addShip_93 rfl ?_
              refine z_iload hC dX2_addShip_95 rfl ?_
              refine z_put hC iA_X6 rfl tyX6 tyX6_ok nmX6 3 (by decide) rfl rfl 3 rfl qF_X2_89 rfl dX2_addShip_97 (cl_ship hb (by omega)) (cd_ship hb (by omega)) (fun _ => rfl) (fun _ => Nat.le_of_ble_eq_true rfl) ?_
              refine z_nm (fun μ16 hμ16 => ?_)
              obtain ⟨d18, hd18⟩ : ∃ q9 : zM, q9 = zup d15 (6 + (d 0 4)) 3 p := ⟨_, rfl⟩
              have hd17 : vw μ16 b = d18 := by rw [hμ16, vw_upk (by unfold zrel; omega), hd14, hd18]
              refine z_aload hC dX2_addShip_100 rfl ?_
              refine z_iload hC dX2_addShip_102 rfl ?_
              refine z_put hC iA_X6 rfl tyX6 tyX6_ok nmX6 4 (by decide) rfl rfl 4 rfl qF_X2_92 rfl dX2_addShip_104 (cl_ship hb (by omega)) (cd_ship hb (by omega)) (fun _ => rfl) (fun _ => Nat.le_of_ble_eq_true rfl) ?_
              refine z_nm (fun μ19 hμ19 => ?_)
              obtain ⟨d21, hd21⟩ : ∃ q9 : zM, q9 = zup d18 (6 + (d 0 4)) 4 t := ⟨_, rfl⟩
              have hd20 : vw μ19 b = d21 := by rw [hμ19, vw_upk (by unfold zrel; omega), hd17, hd21]
              refine z_aload_n hC dX2_addShip_107 rfl ?_
              refine z_dup hC dX2_addShip_108 rfl ?_
              refine z_get hC iA_X2 rfl 4 (by decide) qF_X2_52 rfl dX2_addShip_109 (cl_desk hb) (cd_desk hb) rfl ?_
              refine z_top (b := d21 0 4) ((vw_S).symm.trans (congrFun (congrFun hd20 _) _)) ?_
              refine z_top (b := d 0 4) (by rw [hd21, zup_n (by omega), hd18, zup_n (by omega), hd15, zup_n (by omega), hd12, zup_n (by omega), hd9, zup_n (by omega)]) ?_
              refine z_dup_x1 hC dX2_addShip_112 rfl rfl ?_
              refine z_iconst hC dX2_addShip_113 ?_
              refine z_iadd hC dX2_addShip_114 ?_
              refine z_put hC iA_X2 rfl tyX2 tyX2_ok nmX2 4 (by decide) rfl rfl 4 rfl qF_X2_52 rfl dX2_addShip_115 (cl_desk hb) (cd_desk hb) (fun _ => rfl) (fun _ => Nat.le_of_ble_eq_true rfl) ?_
              refine z_nm (fun μ22 hμ22 => ?_)
              obtain ⟨d24, hd24⟩ : ∃ q9 : zM, q9 = zup d21 0 4 ((d 0 4) + 1) := ⟨_, rfl⟩
              have hd23 : vw μ22 b = d24 := by rw [hμ22, vw_up0 (by unfold zrel; omega), hd20, hd24]
              have e9 : opShip d z v u p t = (d 0 4, zup (zup (zup (zup (zup (zup d (6 + (d 0 4)) 0 z) (6 + (d 0 4)) 1 v) (6 + (d 0 4)) 2 u) (6 + (d 0 4)) 3 p) (6 + (d 0 4)) 4 t) 0 4 ((d 0 4) + 1)) := by
                unfold opShip
                rw [if_neg (by omega), if_neg (by omega)]
              exact z_iret hC dX2_addShip_118 ⟨by rw [e9], by rw [e9, hd23, hd24, hd21, hd18, hd15, hd12, hd9], fun c9 hc9 => by rw [hμ22, zup_o (by omega), hμ19, zup_o (by omega), hμ16, zup_o (by omega), hμ13, zup_o (by omega), hμ10, zup_o (by omega), hμ7, zup_o (by omega)]⟩
            · refine z_ldc hC (-1000003) qc_X2_79 rfl dX2_addShip_61 ?_
              have e9 : opShip d z v u p t = ((-1000003), d) := by
                unfold opShip
                rw [if_neg (by omega), if_pos (by omega)]
              exact z_iret hC dX2_addShip_63 ⟨by rw [e9], by rw [e9, hd], fun c9 hc9 => rfl⟩
          · refine z_ldc hC (-1000001) qc_X2_73 rfl dX2_addShip_50 ?_
            have e9 : opShip d z v u p t = ((-1000001), d) := by
              unfold opShip
              rw [if_pos (by omega)]
            exact z_iret hC dX2_addShip_52 ⟨by rw [e9], by rw [e9, hd], fun c9 hc9 => rfl⟩

set_option maxHeartbeats 4000000 in
set_option maxRecDepth 100000 in
/-- opCargo d a g u f t w -/
theorem m_X2_addCargo (l : Launch) (G : va_G) (ca : Nat → ClassId) (ad : Int → Nat) (A : Nat → Prop) (μ : zM) (b : Int) (hb : zb b) (d : zM) (hd : vw μ b = d) (a g u f t w : Int) (ha : -2147483648 ≤ a ∧ a ≤ 2147483647) (hg : -2147483648 ≤ g ∧ g ≤ 2147483647) (hu : -2147483648 ≤ u ∧ u ≤ 2147483647) (hf : -2147483648 ≤ f ∧ f ≤ 2147483647) (ht : -2147483648 ≤ t ∧ t ≤ 2147483647) (hw : -2147483648 ≤ w ∧ w ≤ 2147483647) (hN : bN d) : zMet l (cω G ca ad) A yX2_addCargo cX2_addCargo 8 (some .int) 2 42 [.ref (ad b), .int (iZ a), .int (iZ g), .int (iZ u), .int (iZ f), .int (iZ t), .int (iZ w)] μ (zpI (.int (iZ (opCargo d a g u f t w).1)) (fun μ' => vw μ' b = (opCargo d a g u f t w).2 ∧ zFd μ b μ')) := by
  refine zMet_of (by decide) (Nat.le_of_ble_eq_true rfl) (fun Γ hC => ?_)
  show Z Γ _ μ 0 [(0, .ref (ad b)), (1, .int (iZ a)), (2, .int (iZ g)), (3, .int (iZ u)), (4, .int (iZ f)), (5, .int (iZ t)), (6, .int (iZ w))] []
  obtain ⟨hN1, hN2⟩ := id hN
  refine z_iload_n hC dX2_addCargo_0 rfl ?_
  refine z_iconst hC dX2_addCargo_1 ?_
  refine z_bipush hC dX2_addCargo_2 (by decide) ?_
  refine z_callSN hC [.int (iZ a), .int (iZ 1), .int (iZ 99)] 3 rfl dX2_addCargo_4 (fun l => m_X7_isIn l _ _ _ a 1 99 (by omega) (by omega) (by omega)) (by decide +kernel) qT_X7_isIn qi_X7 qC_X7_isIn (by decide +kernel) (by decide) (by decide) (Nat.le_of_ble_eq_true rfl) (zk_pure ?_) rfl
  refine z_ifb_eq hC 65 dX2_addCargo_7 (by decide) (fun c_1 => ?_) (fun c_1 => ?_)
  · refine z_ldc hC (-1000001) qc_X2_73 rfl dX2_addCargo_65 ?_
    have e9 : opCargo d a g u f t w = ((-1000001), d) := by
      unfold opCargo
      rw [if_pos (by omega)]
    exact z_iret hC dX2_addCargo_67 ⟨by rw [e9], by rw [e9, hd], fun c9 hc9 => rfl⟩
  · refine z_iload_n hC dX2_addCargo_10 rfl ?_
    refine z_callSN hC [.int (iZ g)] 1 rfl dX2_addCargo_11 (fun l => m_X7_isPort l _ _ _ g (by omega)) (by decide +kernel) qT_X7_isPort qi_X7 qC_X7_isPort (by decide +kernel) (by decide) (by decide) (Nat.le_of_ble_eq_true rfl) (zk_pure ?_) rfl
    refine z_ifb_eq hC 65 dX2_addCargo_14 (by decide) (fun c_2 => ?_) (fun c_2 => ?_)
    · refine z_ldc hC (-1000001) qc_X2_73 rfl dX2_addCargo_65 ?_
      have e9 : opCargo d a g u f t w = ((-1000001), d) := by
        unfold opCargo
        rw [if_pos (by omega)]
      exact z_iret hC dX2_addCargo_67 ⟨by rw [e9], by rw [e9, hd], fun c9 hc9 => rfl⟩
    · refine z_iload_n hC dX2_addCargo_17 rfl ?_
      refine z_callSN hC [.int (iZ u)] 1 rfl dX2_addCargo_18 (fun l => m_X7_isPort l _ _ _ u (by omega)) (by decide +kernel) qT_X7_isPort qi_X7 qC_X7_isPort (by decide +kernel) (by decide) (by decide) (Nat.le_of_ble_eq_true rfl) (zk_pure ?_) rfl
      refine z_ifb_eq hC 65 dX2_addCargo_21 (by decide) (fun c_3 => ?_) (fun c_3 => ?_)
      · refine z_ldc hC (-1000001) qc_X2_73 rfl dX2_addCargo_65 ?_
        have e9 : opCargo d a g u f t w = ((-1000001), d) := by
          unfold opCargo
          rw [if_pos (by omega)]
        exact z_iret hC dX2_addCargo_67 ⟨by rw [e9], by rw [e9, hd], fun c9 hc9 => rfl⟩
      · refine z_iload_n hC dX2_addCargo_24 rfl ?_
        refine z_iload_n hC dX2_addCargo_25 rfl ?_
        refine z_icmp_eq hC 65 dX2_addCargo_26 (by decide) (by omega) (by omega) (fun c_4 => ?_) (fun c_4 => ?_)
        · refine z_ldc hC (-1000001) qc_X2_73 rfl dX2_addCargo_65 ?_
          have e9 : opCargo d a g u f t w = ((-1000001), d) := by
            unfold opCargo
            rw [if_pos (by omega)]
          exact z_iret hC dX2_addCargo_67 ⟨by rw [e9], by rw [e9, hd], fun c9 hc9 => rfl⟩
        · refine z_iload hC dX2_addCargo_29 rfl ?_
          refine z_iconst hC dX2_addCargo_31 ?_
          refine z_sipush hC dX2_addCargo_32 (by decide) ?_
          refine z_callSN hC [.int (iZ f), .int (iZ 0), .int (iZ 999)] 3 rfl dX2_addCargo_35 (fun l => m_X7_isIn l _ _ _ f 0 999 (by omega) (by omega) (by omega)) (by decide +kernel) qT_X7_isIn qi_X7 qC_X7_isIn (by decide +kernel) (by decide) (by decide) (Nat.le_of_ble_eq_true rfl) (zk_pure ?_) rfl
          refine z_ifb_eq hC 65 dX2_addCargo_38 (by decide) (fun c_5 => ?_) (fun c_5 => ?_)
          · refine z_ldc hC (-1000001) qc_X2_73 rfl dX2_addCargo_65 ?_
            have e9 : opCargo d a g u f t w = ((-1000001), d) := by
              unfold opCargo
              rw [if_pos (by omega)]
            exact z_iret hC dX2_addCargo_67 ⟨by rw [e9], by rw [e9, hd], fun c9 hc9 => rfl⟩
          · refine z_iload hC dX2_addCargo_41 rfl ?_
            refine z_iload hC dX2_addCargo_43 rfl ?_
            refine z_sipush hC dX2_addCargo_45 (by decide) ?_
            refine z_callSN hC [.int (iZ t), .int (iZ f), .int (iZ 999)] 3 rfl dX2_addCargo_48 (fun l => m_X7_isIn l _ _ _ t f 999 (by omega) (by omega) (by omega)) (by decide +kernel) qT_X7_isIn qi_X7 qC_X7_isIn (by decide +kernel) (by decide) (by decide) (Nat.le_of_ble_eq_true rfl) (zk_pure ?_) rfl
            refine z_ifb_eq hC 65 dX2_addCargo_51 (by decide) (fun c_6 => ?_) (fun c_6 => ?_)
            · refine z_ldc hC (-1000001) qc_X2_73 rfl dX2_addCargo_65 ?_
              have e9 : opCargo d a g u f t w = ((-1000001), d) := by
                unfold opCargo
                rw [if_pos (by omega)]
              exact z_iret hC dX2_addCargo_67 ⟨by rw [e9], by rw [e9, hd], fun c9 hc9 => rfl⟩
            · refine z_iload hC dX2_addCargo_54 rfl ?_
              refine z_iconst hC dX2_addCargo_56 ?_
              refine z_bipush hC dX2_addCargo_57 (by decide) ?_
              refine z_callSN hC [.int (iZ w), .int (iZ 1), .int (iZ 99)] 3 rfl dX2_addCargo_59 (fun l => m_X7_isIn l _ _ _ w 1 99 (by omega) (by omega) (by omega)) (by decide +kernel) qT_X7_isIn qi_X7 qC_X7_isIn (by decide +kernel) (by decide) (by decide) (Nat.le_of_ble_eq_true rfl) (zk_pure ?_) rfl
              refine z_ifb_ne hC 68 dX2_addCargo_62 (by decide) (fun c_7 => ?_) (fun c_7 => ?_)
              · refine z_aload_n hC dX2_addCargo_68 rfl ?_
                refine z_get hC iA_X2 rfl 5 (by decide) qF_X2_56 rfl dX2_addCargo_69 (cl_desk hb) (cd_desk hb) rfl ?_
                refine z_top (b := d 0 5) ((vw_Cn).symm.trans (congrFun (congrFun hd _) _)) ?_
                refine z_bipush hC dX2_addCargo_72 (by decide) ?_
                refine z_icmp_lt hC 80 dX2_addCargo_74 (by decide) (by omega) (by omega) (fun c_8 => ?_) (fun c_8 => ?_)
                · refine z_aload_n hC dX2_addCargo_80 rfl ?_
                  refine z_get hC iA_X2 rfl 3 (by decide) qF_X2_26 rfl dX2_addCargo_81 (cl_desk hb) (cd_desk hb) rfl ?_
                  refine z_aload_n hC dX2_addCargo_84 rfl ?_
                  refine z_get hC iA_X2 rfl 5 (by decide) qF_X2_56 rfl dX2_addCargo_85 (cl_desk hb) (cd_desk hb) rfl ?_
                  refine z_top (b := d 0 5) ((vw_Cn).symm.trans (congrFun (congrFun hd _) _)) ?_
                  refine z_aald hC dX2_addCargo_88 3 rfl (cl_cargoes hb) (fun _ i => b + 16 + i) (cd_cargoes hb) (by omega) (by omega) (by decide) ?_
                  refine z_astore hC dX2_addCargo_89 (by decide) rfl ?_
                  refine z_aload hC dX2_addCargo_91 rfl ?_
                  refine z_iload_n hC dX2_addCargo_93 rfl ?_
                  refine z_put hC iA_X0 rfl tyX0 tyX0_ok nmX0 0 (by decide) rfl rfl 0 rfl qF_X2_95 rfl dX2_addCargo_94 (cl_cargo hb (by omega)) (cd_cargo hb (by omega)) (fun _ => rfl) (fun _ => Nat.le_of_ble_eq_true rfl) ?_
                  refine z_nm (fun μ9 hμ9 => ?_)
                  obtain ⟨d11, hd11⟩ : ∃ q9 : zM, q9 = zup d (16 + (d 0 5)) 0 a := ⟨_, rfl⟩
                  have hd10 : vw μ9 b = d11 := by rw [hμ9, vw_upk (by unfold zrel; omega), hd, hd11]
                  refine z_aload hC dX2_addCargo_97 rfl ?_
                  refine z_iload_n hC dX2_addCargo_99 rfl ?_
                  refine z_put hC iA_X0 rfl tyX0 tyX0_ok nmX0 1 (by decide) rfl rfl 1 rfl qF_X2_98 rfl dX2_addCargo_100 (cl_cargo hb (by omega)) (cd_cargo hb (by omega)) (fun _ => rfl) (fun _ => Nat.le_of_ble_eq_true rfl) ?_
                  refine z_nm (fun μ12 hμ12 => ?_)
                  obtain ⟨d14, hd14⟩ : ∃ q9 : zM, q9 = zup d11 (16 + (d 0 5)) 1 g := ⟨_, rfl⟩
                  have hd13 : vw μ12 b = d14 := by rw [hμ12, vw_upk (by unfold zrel; omega), hd10, hd14]
                  refine z_aload hC dX2_addCargo_103 rfl ?_
                  refine z_iload_n hC dX2_addCargo_105 rfl ?_
                  refine z_put hC iA_X0 rfl tyX0 tyX0_ok nmX0 2 (by decide) rfl rfl 2 rfl qF_X2_101 rfl dX2_addCargo_106 (cl_cargo hb (by omega)) (cd_cargo hb (by omega)) (fun _ => rfl) (fun _ => Nat.le_of_ble_eq_true rfl) ?_
                  refine z_nm (fun μ15 hμ15 => ?_)
                  obtain ⟨d17, hd17⟩ : ∃ q9 : zM, q9 = zup d14 (16 + (d 0 5)) 2 u := ⟨_, rfl⟩
                  have hd16 : vw μ15 b = d17 := by rw [hμ15, vw_upk (by unfold zrel; omega), hd13, hd17]
                  refine z_aload hC dX2_addCargo_109 rfl ?_
                  refine z_iload hC dX2_addCargo_111 rfl ?_
                  refine z_put hC iA_X0 rfl tyX0 tyX0_ok nmX0 3 (by decide) rfl rfl 3 rfl qF_X2_104 rfl dX2_addCargo_113 (cl_cargo hb (by omega)) (cd_cargo hb (by omega)) (fun _ => rfl) (fun _ => Nat.le_of_ble_eq_true rfl) ?_
                  refine z_nm (fun μ18 hμ18 => ?_)
                  obtain ⟨d20, hd20⟩ : ∃ q9 : zM, q9 = zup d17 (16 + (d 0 5)) 3 f := ⟨_, rfl⟩
                  have hd19 : vw μ18 b = d20 := by rw [hμ18, vw_upk (by unfold zrel; omega), hd16, hd20]
                  refine z_aload hC dX2_addCargo_116 rfl ?_
                  refine z_iload hC dX2_addCargo_118 rfl ?_
                  refine z_put hC iA_X0 rfl tyX0 tyX0_ok nmX0 4 (by decide) rfl rfl 4 rfl qF_X2_107 rfl dX2_addCargo_120 (cl_cargo hb (by omega)) (cd_cargo hb (by omega)) (fun _ => rfl) (fun _ => Nat.le_of_ble_eq_true rfl) ?_
                  refine z_nm (fun μ21 hμ21 => ?_)
                  obtain ⟨d23, hd23⟩ : ∃ q9 : zM, q9 = zup d20 (16 + (d 0 5)) 4 t := ⟨_, rfl⟩
                  have hd22 : vw μ21 b = d23 := by rw [hμ21, vw_upk (by unfold zrel; omega), hd19, hd23]
                  refine z_aload hC dX2_addCargo_123 rfl ?_
                  refine z_iload hC dX2_addCargo_125 rfl ?_
                  refine z_put hC iA_X0 rfl tyX0 tyX0_ok nmX0 5 (by decide) rfl rfl 5 rfl qF_X2_110 rfl dX2_addCargo_127 (cl_cargo hb (by omega)) (cd_cargo hb (by omega)) (fun _ => rfl) (fun _ => Nat.le_of_ble_eq_true rfl) ?_
                  refine z_nm (fun μ24 hμ24 => ?_)
                  obtain ⟨d26, hd26⟩ : ∃ q9 : zM, q9 = zup d23 (16 + (d 0 5)) 5 w := ⟨_, rfl⟩
                  have hd25 : vw μ24 b = d26 := by rw [hμ24, vw_upk (by unfold zrel; omega), hd22, hd26]
                  refine z_aload_n hC dX2_addCargo_130 rfl ?_
                  refine z_dup hC dX2_addCargo_131 rfl ?_
                  refine z_get hC iA_X2 rfl 5 (by decide) qF_X2_56 rfl dX2_addCargo_132 (cl_desk hb) (cd_desk hb) rfl ?_
                  refine z_top (b := d26 0 5) ((vw_Cn).symm.trans (congrFun (congrFun hd25 _) _)) ?_
                  refine z_top (b := d 0 5) (by rw [hd26, zup_n (by omega), hd23, zup_n (by omega), hd20, zup_n (by omega), hd17, zup_n (by omega), hd14, zup_n (by omega), hd11, zup_n (by omega)]) ?_
                  refine z_dup_x1 hC dX2_addCargo_135 rfl rfl ?_
                  refine z_iconst hC dX2_addCargo_136 ?_
                  refine z_iadd hC dX2_addCargo_137 ?_
                  refine z_put hC iA_X2 rfl tyX2 tyX2_ok nmX2 5 (by decide) rfl rfl 5 rfl qF_X2_56 rfl dX2_addCargo_138 (cl_desk hb) (cd_desk hb) (fun _ => rfl) (fun _ => Nat.le_of_ble_eq_true rfl) ?_
                  refine z_nm (fun μ27 hμ27 => ?_)
                  obtain ⟨d29, hd29⟩ : ∃ q9 : zM, q9 = zup d26 0 5 ((d 0 5) + 1) := ⟨_, rfl⟩
                  have hd28 : vw μ27 b = d29 := by rw [hμ27, vw_up0 (by unfold zrel; omega), hd25, hd29]
                  have e9 : opCargo d a g u f t w = (d 0 5, zup (zup (zup (zup (zup (zup (zup d (16 + (d 0 5)) 0 a) (16 + (d 0 5)) 1 g) (16 + (d 0 5)) 2 u) (16 + (d 0 5)) 3 f) (16 + (d 0 5)) 4 t) (16 + (d 0 5)) 5 w) 0 5 ((d 0 5) + 1)) := by
                    unfold opCargo
                    rw [if_neg (by omega), if_neg (by omega)]
                  exact z_iret hC dX2_addCargo_141 ⟨by rw [e9], by rw [e9, hd28, hd29, hd26, hd23, hd20, hd17, hd14, hd11], fun c9 hc9 => by rw [hμ27, zup_o (by omega), hμ24, zup_o (by omega), hμ21, zup_o (by omega), hμ18, zup_o (by omega), hμ15, zup_o (by omega), hμ12, zup_o (by omega), hμ9, zup_o (by omega)]⟩
                · refine z_ldc hC (-1000003) qc_X2_79 rfl dX2_addCargo_77 ?_
                  have e9 : opCargo d a g u f t w = ((-1000003), d) := by
                    unfold opCargo
                    rw [if_neg (by omega), if_pos (by omega)]
                  exact z_iret hC dX2_addCargo_79 ⟨by rw [e9], by rw [e9, hd], fun c9 hc9 => rfl⟩
              · refine z_ldc hC (-1000001) qc_X2_73 rfl dX2_addCargo_65 ?_
                have e9 : opCargo d a g u f t w = ((-1000001), d) := by
                  unfold opCargo
                  rw [if_pos (by omega)]
                exact z_iret hC dX2_addCargo_67 ⟨by rw [e9], by rw [e9, hd], fun c9 hc9 => rfl⟩

set_option maxHeartbeats 4000000 in
set_option maxRecDepth 100000 in
/-- dropFixtures(ship k, f, t) -/
theorem m_X2_dropFixtures (l : Launch) (G : va_G) (ca : Nat → ClassId) (ad : Int → Nat) (A : Nat → Prop) (μ : zM) (b : Int) (hb : zb b) (d : zM) (hd : vw μ b = d) (k f t : Int) (N : Nat) (hN : bN d) (hk : 0 ≤ k ∧ k < 5) (hf : 0 ≤ f) (hfN : f + (N : Int) = d (6 + k) 6) (hfc : d (6 + k) 6 ≤ 10) (ht : 0 ≤ t ∧ t ≤ 2) (hF : ∀ x, f ≤ x ∧ x < d (6 + k) 6 → 0 ≤ d (11 + k) x ∧ d (11 + k) x < d 0 5) : zMet l (cω G ca ad) A yX2_dropFixtures cX2_dropFixtures 5 none 1 21 [.ref (ad b), .ref (ad (b + 6 + k)), .int (iZ f), .int (iZ t)] μ (zpV (fun μ' => vw μ' b = zup (sDrop k t N f d) (6 + k) 6 f ∧ (∀ c, c < b + 6 ∨ b + 26 ≤ c → μ' c = μ c))) := by
  refine zMet_of (by decide) (Nat.le_of_ble_eq_true rfl) (fun Γ hC => ?_)
  show Z Γ _ μ 0 [(0, .ref (ad b)), (1, .ref (ad (b + 6 + k))), (2, .int (iZ f)), (3, .int (iZ t))] []
  obtain ⟨hN1, hN2⟩ := id hN
  refine z_iload_n hC dX2_dropFixtures_0 rfl ?_
  refine z_istore hC dX2_dropFixtures_1 (by decide) rfl ?_
  have LOOP : ∀ (r n : Nat), n + r = N → ∀ (μ1 d1 : zM) (x : Int), x = f + (n : Int) → vw μ1 b = d1 → sDrop k t r x d1 = sDrop k t N f d → (∀ o i, o < 16 → d1 o i = d o i) → (∀ c, c < b + 6 ∨ b + 26 ≤ c → μ1 c = μ c) → Z Γ (cω G ca ad) μ1 3 [(4, .int (iZ x)), (0, .ref (ad b)), (1, .ref (ad (b + 6 + k))), (2, .int (iZ f)), (3, .int (iZ t))] [] := by
    intro r
    induction r with
    | zero =>
      intro n hn μ1 d1 x hx hd1 hD ho1 hfr
      have hfc : d1 (6 + k) 6 = d (6 + k) 6 := ho1 _ _ (by omega)
      refine z_iload hC dX2_dropFixtures_3 rfl ?_
      refine z_aload_n hC dX2_dropFixtures_5 rfl ?_
      refine z_get hC iA_X6 rfl 6 (by decide) qF_X2_126 rfl dX2_dropFixtures_6 (cl_ship hb (by omega)) (cd_ship hb (by omega)) rfl ?_
      refine z_top (b := d1 (6 + k) 6) ((vw_ship (by omega) (by omega)).symm.trans (congrFun (congrFun hd1 _) _)) ?_
      refine z_icmp_ge hC 48 dX2_dropFixtures_9 (by decide) (by omega) (by omega) (fun c_1 => ?_) (fun c_1 => ?_)
      · refine z_aload_n hC dX2_dropFixtures_48 rfl ?_
        refine z_iload_n hC dX2_dropFixtures_49 rfl ?_
        refine z_put hC iA_X6 rfl tyX6 tyX6_ok nmX6 6 (by decide) rfl rfl 6 rfl qF_X2_126 rfl dX2_dropFixtures_50 (cl_ship hb (by omega)) (cd_ship hb (by omega)) (fun _ => rfl) (fun _ => Nat.le_of_ble_eq_true rfl) ?_
        refine z_nm (fun μ2 hμ2 => ?_)
        obtain ⟨d4, hd4⟩ : ∃ q9 : zM, q9 = zup d1 (6 + k) 6 f := ⟨_, rfl⟩
        have hd3 : vw μ2 b = d4 := by rw [hμ2, vw_upk (by unfold zrel; omega), hd1, hd4]
        obtain rfl : n = N := by omega
        exact z_vret hC dX2_dropFixtures_53 ⟨rfl, by rw [hd3, hd4]; exact congrArg (fun q => zup q (6 + k) 6 f) hD, fun c9 hc9 => by rw [hμ2, zup_o (by omega)]; exact hfr c9 hc9⟩
      · exfalso; omega
    | succ r ih =>
      intro n hn μ1 d1 x hx hd1 hD ho1 hfr
      have hfc : d1 (6 + k) 6 = d (6 + k) 6 := ho1 _ _ (by omega)
      have hcc : d1 0 5 = d 0 5 := ho1 _ _ (by omega)
      have hfx : d1 (11 + k) x = d (11 + k) x := ho1 _ _ (by omega)
      have hF1 := hF x (by omega)
      refine z_iload hC dX2_dropFixtures_3 rfl ?_
      refine z_aload_n hC dX2_dropFixtures_5 rfl ?_
      refine z_get hC iA_X6 rfl 6 (by decide) qF_X2_126 rfl dX2_dropFixtures_6 (cl_ship hb (by omega)) (cd_ship hb (by omega)) rfl ?_
      refine z_top (b := d1 (6 + k) 6) ((vw_ship (by omega) (by omega)).symm.trans (congrFun (congrFun hd1 _) _)) ?_
      refine z_icmp_ge hC 48 dX2_dropFixtures_9 (by decide) (by omega) (by omega) (fun c_5 => ?_) (fun c_5 => ?_)
      · exfalso; omega
      · refine z_aload_n hC dX2_dropFixtures_12 rfl ?_
        refine z_aload_n hC dX2_dropFixtures_13 rfl ?_
        refine z_get hC iA_X6 rfl 7 (by decide) qF_X2_129 rfl dX2_dropFixtures_14 (cl_ship hb (by omega)) (cd_ship hb (by omega)) rfl ?_
        refine z_iload hC dX2_dropFixtures_17 rfl ?_
        refine z_iald hC dX2_dropFixtures_19 (cl_fx hb (by omega)) (cd_fx hb (by omega)) (by omega) (by omega) (by decide) ?_
        refine z_top (b := d1 (11 + k) x) ((vw_fx (by omega) (by omega)).symm.trans (congrFun (congrFun hd1 _) _)) ?_
        have hN6 : μ1 b 5 = d1 0 5 := by rw [← hd1, vw_Cn]
        refine z_callV hC [.int (iZ (d1 (11 + k) x))] 1 rfl dX2_dropFixtures_20 (fun l => m_X2_isCargo l G ca ad _ μ1 b hb (d1 (11 + k) x) (by omega) (by omega)) qM_X2_116 qI_X2_isCargo qS_X2_isCargo qi_X2 qC_X2_isCargo (by decide +kernel) (by decide) (by decide) (cl_desk hb) (cd_desk hb) rfl (Nat.le_of_ble_eq_true rfl) (zk_pure ?_) rfl
        rw [hN6]
        refine z_ifb_eq hC 42 dX2_dropFixtures_23 (by decide) (fun c_7 => ?_) (fun c_7 => ?_)
        · exfalso; omega
        · refine z_aload_n hC dX2_dropFixtures_26 rfl ?_
          refine z_get hC iA_X2 rfl 3 (by decide) qF_X2_26 rfl dX2_dropFixtures_27 (cl_desk hb) (cd_desk hb) rfl ?_
          refine z_aload_n hC dX2_dropFixtures_30 rfl ?_
          refine z_get hC iA_X6 rfl 7 (by decide) qF_X2_129 rfl dX2_dropFixtures_31 (cl_ship hb (by omega)) (cd_ship hb (by omega)) rfl ?_
          refine z_iload hC dX2_dropFixtures_34 rfl ?_
          refine z_iald hC dX2_dropFixtures_36 (cl_fx hb (by omega)) (cd_fx hb (by omega)) (by omega) (by omega) (by decide) ?_
          refine z_top (b := d1 (11 + k) x) ((vw_fx (by omega) (by omega)).symm.trans (congrFun (congrFun hd1 _) _)) ?_
          refine z_aald hC dX2_dropFixtures_37 3 rfl (cl_cargoes hb) (fun _ i => b + 16 + i) (cd_cargoes hb) (by omega) (by omega) (by decide) ?_
          refine z_iload_n hC dX2_dropFixtures_38 rfl ?_
          refine z_put hC iA_X0 rfl tyX0 tyX0_ok nmX0 6 (by decide) rfl rfl 6 rfl qF_X2_119 rfl dX2_dropFixtures_39 (cl_cargo hb (by omega)) (cd_cargo hb (by omega)) (fun _ => rfl) (fun _ => Nat.le_of_ble_eq_true rfl) ?_
          refine z_nm (fun μ8 hμ8 => ?_)
          obtain ⟨d10, hd10⟩ : ∃ q9 : zM, q9 = zup d1 (16 + (d1 (11 + k) x)) 6 t := ⟨_, rfl⟩
          have hd9 : vw μ8 b = d10 := by rw [hμ8, vw_upk (by unfold zrel; omega), hd1, hd10]
          refine z_iinc hC dX2_dropFixtures_42 rfl (by decide) rfl ?_
          refine z_goto hC 3 dX2_dropFixtures_45 (by decide) ?_
          refine z_weak (L' := [(4, .int (iZ (x + 1))), (0, .ref (ad b)), (1, .ref (ad (b + 6 + k))), (2, .int (iZ f)), (3, .int (iZ t))]) ⟨rfl, rfl, rfl, rfl, rfl, trivial⟩ ?_
          exact ih (n + 1) (by omega) _ _ (x + 1) (by omega) hd9 (by rw [← hD, hd10]; rfl) (fun o i ho => by rw [hd10, zup_n (by omega)]; exact ho1 o i ho) (fun c9 hc9 => by rw [hμ8, zup_o (by omega)]; exact hfr c9 hc9)
  refine z_weak (L' := [(4, .int (iZ f)), (0, .ref (ad b)), (1, .ref (ad (b + 6 + k))), (2, .int (iZ f)), (3, .int (iZ t))]) ⟨rfl, rfl, rfl, rfl, rfl, trivial⟩ ?_
  exact LOOP N 0 (by omega) _ _ f (by omega) hd rfl (fun _ _ _ => rfl) (fun _ _ => rfl)
