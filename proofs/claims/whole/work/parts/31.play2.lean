set_option maxHeartbeats 4000000 in
set_option maxRecDepth 100000 in
/-- fault(w) -/
theorem m_X7_fault (l : Launch) (G : va_G) (ca : Nat → ClassId) (ad : Int → Nat) (A : Nat → Prop) (μ : zM) (d : zM) (n : Int) (h : Int → zM) (L : Int) (t : Int → Int) (hX : zSt μ d n h L t) (hI : zInv d) (hOb : zObOK) (w : Int) (hw : -2147483648 ≤ w ∧ w ≤ 2147483647) : zMet l (cω G ca ad) A yX7_fault cX7_fault 2 (some .int) 7 180 [.ref (ad 156), .int (iZ w)] μ (zpI (.int (iZ (qFault d L t w))) (fun μ' => zSt μ' d n h L t)) := by
  refine zMet_of (by decide) (Nat.le_of_ble_eq_true rfl) (fun Γ hC => ?_)
  show Z Γ _ μ 0 [(0, .ref (ad 156)), (1, .int (iZ w))] []
  refine z_iload_n hC dX7_fault_0 rfl ?_
  refine z_iconst hC dX7_fault_1 ?_
  refine z_iconst hC dX7_fault_2 ?_
  refine z_callS hC [.int (iZ w), .int (iZ 0), .int (iZ 2)] 3 rfl dX7_fault_3 (fun l => m_X7_isIn l _ _ _ w 0 2 (by omega) (by omega) (by omega)) qM_X7_156 qT_X7_isIn qi_X7 qC_X7_isIn (by decide +kernel) (by decide) (by decide) (Nat.le_of_ble_eq_true rfl) (zk_pure ?_) rfl
  refine z_ifb_ne hC 12 dX7_fault_6 (by decide) (fun c_1 => ?_) (fun c_1 => ?_)
  · refine z_aload_n hC dX7_fault_12 rfl ?_
    refine z_callV hC [] 0 rfl dX7_fault_13 (fun l => m_X7_tryOrders l G ca ad _ μ d n h L t hX hI hOb) qM_X7_265 qI_X7_tryOrders qS_X7_tryOrders qi_X7 qC_X7_tryOrders (by decide +kernel) (by decide) (by decide) cl_main (cd_main (ca := ca) (ad := ad)) rfl (Nat.le_of_ble_eq_true rfl) (zk_int (fun μ2 hμ2 => ?_)) rfl
    obtain ⟨hμ2x, hμ2q⟩ := id hμ2
    refine z_ifb_eq hC 22 dX7_fault_16 (by decide) (fun c_3 => ?_) (fun c_3 => ?_)
    · unfold zTry at hμ2q
      rw [if_neg (by omega)] at hμ2q
      obtain ⟨hq1, hq2, hq3⟩ := hμ2q
      refine z_iload_n hC dX7_fault_22 rfl ?_
      rcases (show w = 0 ∨ w = 1 ∨ (w ≠ 0 ∧ w ≠ 1) by omega) with w_4 | w_4 | w_4
      · refine z_lookup hC 48 dX7_fault_23 (by omega) (by decide) (by rw [w_4]; try rfl) (by decide) ?_
        refine z_aload_n hC dX7_fault_48 rfl ?_
        refine z_get hC iA_X7 rfl 4 (by decide) qF_X7_36 rfl dX7_fault_49 cl_main (cd_main (ca := ca) (ad := ad)) rfl ?_
        refine z_get hC iA_X3 rfl 1 (by decide) qF_X7_268 rfl dX7_fault_52 cl_find (cd_find (ca := ca) (ad := ad)) rfl ?_
        refine z_top (b := (sTry L t L.toNat 0 d 0).2.2.2.1) (by rw [hq1]) ?_
        exact z_iret hC dX7_fault_55 ⟨by unfold qFault; rw [if_neg (by omega), if_neg (by omega), if_pos (by omega)], hμ2x⟩
      · refine z_lookup hC 56 dX7_fault_23 (by omega) (by decide) (by rw [w_4]; try rfl) (by decide) ?_
        refine z_aload_n hC dX7_fault_56 rfl ?_
        refine z_get hC iA_X7 rfl 4 (by decide) qF_X7_36 rfl dX7_fault_57 cl_main (cd_main (ca := ca) (ad := ad)) rfl ?_
        refine z_get hC iA_X3 rfl 2 (by decide) qF_X7_271 rfl dX7_fault_60 cl_find (cd_find (ca := ca) (ad := ad)) rfl ?_
        refine z_top (b := (sTry L t L.toNat 0 d 0).2.2.2.2.1) (by rw [hq2]) ?_
        exact z_iret hC dX7_fault_63 ⟨by unfold qFault; rw [if_neg (by omega), if_neg (by omega), if_neg (by omega), if_pos (by omega)], hμ2x⟩
      · refine z_lookup hC 64 dX7_fault_23 (by omega) (by decide) (by show Op.lookupswitch.offset [(0, 25), (1, 33)] 41 w = 41; rw [Op.lookupswitch.offset_cons, if_neg (by omega), Op.lookupswitch.offset_cons, if_neg (by omega)]; rfl) (by decide) ?_
        refine z_aload_n hC dX7_fault_64 rfl ?_
        refine z_get hC iA_X7 rfl 4 (by decide) qF_X7_36 rfl dX7_fault_65 cl_main (cd_main (ca := ca) (ad := ad)) rfl ?_
        refine z_get hC iA_X3 rfl 3 (by decide) qF_X7_274 rfl dX7_fault_68 cl_find (cd_find (ca := ca) (ad := ad)) rfl ?_
        refine z_top (b := (sTry L t L.toNat 0 d 0).2.2.2.2.2) (by rw [hq3]) ?_
        exact z_iret hC dX7_fault_71 ⟨by unfold qFault; rw [if_neg (by omega), if_neg (by omega), if_neg (by omega), if_neg (by omega)], hμ2x⟩
    · refine z_ldc hC (-1000004) qc_X7_155 rfl dX7_fault_19 ?_
      exact z_iret hC dX7_fault_21 ⟨by unfold qFault; rw [if_neg (by omega), if_pos (by omega)], hμ2x⟩
  · refine z_ldc hC (-1000001) qc_X7_77 rfl dX7_fault_9 ?_
    exact z_iret hC dX7_fault_11 ⟨by unfold qFault; rw [if_pos (by omega)], hX⟩

set_option maxHeartbeats 4000000 in
set_option maxRecDepth 100000 in
/-- play() -/
theorem m_X7_play (l : Launch) (G : va_G) (ca : Nat → ClassId) (ad : Int → Nat) (A : Nat → Prop) (μ : zM) (d : zM) (n : Int) (h : Int → zM) (L : Int) (t : Int → Int) (hX : zSt μ d n h L t) (hI : zInv d) (hOb : zObOK) (hr : -2147483648 ≤ (sTry L t L.toNat 0 d 0).2.2.1 ∧ (sTry L t L.toNat 0 d 0).2.2.1 ≤ 2147483647) : zMet l (cω G ca ad) A yX7_play cX7_play 1 (some .int) 7 180 [.ref (ad 156)] μ (zpI (.int (iZ (opPlay d L t).1)) (fun μ' => zStK μ' (sKeep (opPlay d L t) d n h) L t)) := by
  refine zMet_of (by decide) (Nat.le_of_ble_eq_true rfl) (fun Γ hC => ?_)
  show Z Γ _ μ 0 [(0, .ref (ad 156))] []
  refine z_aload_n hC dX7_play_0 rfl ?_
  refine z_callV hC [] 0 rfl dX7_play_1 (fun l => m_X7_tryOrders l G ca ad _ μ d n h L t hX hI hOb) qM_X7_265 qI_X7_tryOrders qS_X7_tryOrders qi_X7 qC_X7_tryOrders (by decide +kernel) (by decide) (by decide) cl_main (cd_main (ca := ca) (ad := ad)) rfl (Nat.le_of_ble_eq_true rfl) (zk_int (fun μ1 hμ1 => ?_)) rfl
  obtain ⟨hμ1x, hμ1q⟩ := id hμ1
  refine z_ifb_eq hC 21 dX7_play_4 (by decide) (fun c_2 => ?_) (fun c_2 => ?_)
  · refine z_ldc hC (-1000002) qc_X7_210 rfl dX7_play_21 ?_
    have e9 : opPlay d L t = (-1000002, d) := by unfold opPlay; rw [if_neg (by omega)]
    exact z_iret hC dX7_play_23 ⟨by rw [e9], by rw [e9]; exact hμ1x⟩
  · unfold zTry at hμ1q
    rw [if_pos (by omega)] at hμ1q
    obtain ⟨hq1, hq2⟩ := hμ1q
    refine z_aload_n hC dX7_play_7 rfl ?_
    refine z_aload_n hC dX7_play_8 rfl ?_
    refine z_get hC iA_X7 rfl 4 (by decide) qF_X7_36 rfl dX7_play_9 cl_main (cd_main (ca := ca) (ad := ad)) rfl ?_
    refine z_get hC iA_X3 rfl 0 (by decide) qF_X7_277 rfl dX7_play_12 cl_find (cd_find (ca := ca) (ad := ad)) rfl ?_
    refine z_top (b := (sTry L t L.toNat 0 d 0).2.2.1) (by rw [hq2]) ?_
    refine z_callV hC [.int (iZ ((sTry L t L.toNat 0 d 0).2.2.1))] 1 rfl dX7_play_15 (fun l => m_X7_keep l G ca ad _ μ1 d n h L t hμ1x (sTry L t L.toNat 0 d 0).2.2.1 (sTry L t L.toNat 0 d 0).2.1 hr hq1) qM_X7_48 qI_X7_keep qS_X7_keep qi_X7 qC_X7_keep (by decide +kernel) (by decide) (by decide) cl_main (cd_main (ca := ca) (ad := ad)) rfl (Nat.le_of_ble_eq_true rfl) (zk_int (fun μ3 hμ3 => ?_)) rfl
    refine z_goto hC 23 dX7_play_18 (by decide) ?_
    exact z_iret hC dX7_play_23 ⟨by unfold opPlay; rw [if_pos (by omega)], by unfold opPlay; rw [if_pos (by omega)]; exact hμ3⟩

theorem z_top64 {Γ : zG} {ω : zO} {μ : zM} {pc : Nat} {L : List (Nat × Value)} {st : List Value} {a b : Int64} (e : a = b) (kk : Z Γ ω μ pc L (.long b :: st)) : Z Γ ω μ pc L (.long a :: st) := e ▸ kk

set_option maxHeartbeats 4000000 in
set_option maxRecDepth 100000 in
/-- Long.bitCount -/
theorem m_bitCount (l : Launch) (ω : zO) (A : Nat → Prop) (μ : zM) (x : Int64) : zMet l (ω) A yJ13_bitCount_95d88 cJ13_bitCount_95d88 2 (some .int) 0 0 [.long (x)] μ (zpI (.int (jBits x)) (fun m => m = μ)) := by
  refine zMet_of (by decide) (Nat.le_of_ble_eq_true rfl) (fun Γ hC => ?_)
  show Z Γ _ μ 0 [(0, .long (x))] []
  refine z_lload_n hC dJ13_bitCount_95d88_0 rfl ?_
  refine z_lload_n hC dJ13_bitCount_95d88_1 rfl ?_
  refine z_iconst hC dJ13_bitCount_95d88_2 ?_
  refine z_lushr hC dJ13_bitCount_95d88_3 rfl ?_
  refine z_ldc2 hC qc_J13_314 dJ13_bitCount_95d88_4 ?_
  refine z_land hC dJ13_bitCount_95d88_7 ?_
  refine z_lsub hC dJ13_bitCount_95d88_8 ?_
  refine z_top64 (b := jB1 x) rfl ?_
  refine z_lstore_n hC dJ13_bitCount_95d88_9 (by decide) rfl rfl ?_
  refine z_lload_n hC dJ13_bitCount_95d88_10 rfl ?_
  refine z_ldc2 hC qc_J13_316 dJ13_bitCount_95d88_11 ?_
  refine z_land hC dJ13_bitCount_95d88_14 ?_
  refine z_lload_n hC dJ13_bitCount_95d88_15 rfl ?_
  refine z_iconst hC dJ13_bitCount_95d88_16 ?_
  refine z_lushr hC dJ13_bitCount_95d88_17 rfl ?_
  refine z_ldc2 hC qc_J13_316 dJ13_bitCount_95d88_18 ?_
  refine z_land hC dJ13_bitCount_95d88_21 ?_
  refine z_ladd hC dJ13_bitCount_95d88_22 ?_
  refine z_top64 (b := jB2 (jB1 x)) rfl ?_
  refine z_lstore_n hC dJ13_bitCount_95d88_23 (by decide) rfl rfl ?_
  refine z_lload_n hC dJ13_bitCount_95d88_24 rfl ?_
  refine z_lload_n hC dJ13_bitCount_95d88_25 rfl ?_
  refine z_iconst hC dJ13_bitCount_95d88_26 ?_
  refine z_lushr hC dJ13_bitCount_95d88_27 rfl ?_
  refine z_ladd hC dJ13_bitCount_95d88_28 ?_
  refine z_ldc2 hC qc_J13_318 dJ13_bitCount_95d88_29 ?_
  refine z_land hC dJ13_bitCount_95d88_32 ?_
  refine z_top64 (b := jB3 (jB2 (jB1 x))) rfl ?_
  refine z_lstore_n hC dJ13_bitCount_95d88_33 (by decide) rfl rfl ?_
  refine z_lload_n hC dJ13_bitCount_95d88_34 rfl ?_
  refine z_lload_n hC dJ13_bitCount_95d88_35 rfl ?_
  refine z_bipush hC dJ13_bitCount_95d88_36 (by decide) ?_
  refine z_lushr hC dJ13_bitCount_95d88_38 rfl ?_
  refine z_ladd hC dJ13_bitCount_95d88_39 ?_
  refine z_top64 (b := jB4 8 (jB3 (jB2 (jB1 x)))) rfl ?_
  refine z_lstore_n hC dJ13_bitCount_95d88_40 (by decide) rfl rfl ?_
  refine z_lload_n hC dJ13_bitCount_95d88_41 rfl ?_
  refine z_lload_n hC dJ13_bitCount_95d88_42 rfl ?_
  refine z_bipush hC dJ13_bitCount_95d88_43 (by decide) ?_
  refine z_lushr hC dJ13_bitCount_95d88_45 rfl ?_
  refine z_ladd hC dJ13_bitCount_95d88_46 ?_
  refine z_top64 (b := jB4 16 (jB4 8 (jB3 (jB2 (jB1 x))))) rfl ?_
  refine z_lstore_n hC dJ13_bitCount_95d88_47 (by decide) rfl rfl ?_
  refine z_lload_n hC dJ13_bitCount_95d88_48 rfl ?_
  refine z_lload_n hC dJ13_bitCount_95d88_49 rfl ?_
  refine z_bipush hC dJ13_bitCount_95d88_50 (by decide) ?_
  refine z_lushr hC dJ13_bitCount_95d88_52 rfl ?_
  refine z_ladd hC dJ13_bitCount_95d88_53 ?_
  refine z_top64 (b := jB4 32 (jB4 16 (jB4 8 (jB3 (jB2 (jB1 x)))))) rfl ?_
  refine z_lstore_n hC dJ13_bitCount_95d88_54 (by decide) rfl rfl ?_
  refine z_lload_n hC dJ13_bitCount_95d88_55 rfl ?_
  refine z_l2i hC dJ13_bitCount_95d88_56 rfl ?_
  refine z_bipush hC dJ13_bitCount_95d88_57 (by decide) ?_
  refine z_iand hC dJ13_bitCount_95d88_59 ?_
  exact z_iret hC dJ13_bitCount_95d88_60 ⟨rfl, rfl⟩

set_option maxHeartbeats 4000000 in
set_option maxRecDepth 100000 in
/-- plan(w) -/
theorem m_X7_plan (l : Launch) (G : va_G) (ca : Nat → ClassId) (ad : Int → Nat) (A : Nat → Prop) (μ : zM) (d : zM) (n : Int) (h : Int → zM) (L : Int) (t : Int → Int) (hX : zSt μ d n h L t) (hI : zInv d) (hOb : zObOK) (w : Int) (hw : -2147483648 ≤ w ∧ w ≤ 2147483647) : zMet l (cω G ca ad) A yX7_plan cX7_plan 6 (some .int) 6 159 [.ref (ad 156), .int (iZ w)] μ (zpI (.int (qPlan d w)) (fun μ' => zSt μ' d n h L t)) := by
  refine zMet_of (by decide) (Nat.le_of_ble_eq_true rfl) (fun Γ hC => ?_)
  show Z Γ _ μ 0 [(0, .ref (ad 156)), (1, .int (iZ w))] []
  refine z_iload_n hC dX7_plan_0 rfl ?_
  refine z_iconst hC dX7_plan_1 ?_
  refine z_iconst hC dX7_plan_2 ?_
  refine z_callS hC [.int (iZ w), .int (iZ 0), .int (iZ 3)] 3 rfl dX7_plan_3 (fun l => m_X7_isIn l _ _ _ w 0 3 (by omega) (by omega) (by omega)) qM_X7_156 qT_X7_isIn qi_X7 qC_X7_isIn (by decide +kernel) (by decide) (by decide) (Nat.le_of_ble_eq_true rfl) (zk_pure ?_) rfl
  refine z_ifb_ne hC 12 dX7_plan_6 (by decide) (fun c_1 => ?_) (fun c_1 => ?_)
  · refine z_aload_n hC dX7_plan_12 rfl ?_
    refine z_callV hC [] 0 rfl dX7_plan_13 (fun l => m_X7_freshTrial l G ca ad _ μ) qM_X7_40 qI_X7_freshTrial qS_X7_freshTrial qi_X7 qC_X7_freshTrial (by decide +kernel) (by decide) (by decide) cl_main (cd_main (ca := ca) (ad := ad)) rfl (Nat.le_of_ble_eq_true rfl) (zk_int (fun μ2 hμ2 => ?_)) rfl
    obtain ⟨hμ2v, hμ2f⟩ := id hμ2
    have hX1 := zSt_tr hX hμ2f
    have hd1 : vw μ2 26 = d := by rw [hμ2v]; exact hX.1
    refine z_pop hC dX7_plan_16 rfl ?_
    refine z_iconst hC dX7_plan_17 ?_
    refine z_istore_n hC dX7_plan_18 (by decide) rfl ?_
    refine z_iconst hC dX7_plan_19 ?_
    refine z_istore_n hC dX7_plan_20 (by decide) rfl ?_
    refine z_lconst hC dX7_plan_21 rfl ?_
    refine z_lstore hC dX7_plan_22 (by decide) rfl rfl ?_
    have LOOP : ∀ (r : Nat), ∀ (μ1 d1 : zM) (m a : Int) (p : Int64), (m + (r : Int) = 10) → 0 ≤ m → sPlan r d1 m a p = sPlan 10 d 0 0 0 → zInv d1 → vw μ1 26 = d1 → zSt μ1 d n h L t → Z Γ (cω G ca ad) μ1 24 [(2, .int (iZ m)), (3, .int (iZ a)), (4, .long p), (0, .ref (ad 156)), (1, .int (iZ w))] [] := by
      intro r
      induction r with
      | zero =>
        intro μ1 d1 m a p hm hm0 hQ hI1 h26 hX1
        refine z_iload_n hC dX7_plan_24 rfl ?_
        refine z_bipush hC dX7_plan_25 (by decide) ?_
        refine z_icmp_ge hC 97 dX7_plan_27 (by decide) (by omega) (by omega) (fun c_3 => ?_) (fun c_3 => ?_)
        · have hQ2 : sPlan 10 d 0 0 0 = (d1, m, a, p) := by rw [← hQ]; rfl
          have h26e := h26
          have hXe := hX1
          refine z_iload_n hC dX7_plan_97 rfl ?_
          rcases (show w = 0 ∨ w = 1 ∨ w = 2 ∨ (w < 0 ∨ 2 < w) by omega) with w_4 | w_4 | w_4 | w_4
          · refine z_tableIn hC 124 dX7_plan_98 (by omega) (by omega) (by omega) (by rw [w_4]; rfl) (by decide) ?_
            refine z_iload_n hC dX7_plan_124 rfl ?_
            exact z_iret hC dX7_plan_125 ⟨by unfold qPlan; rw [if_neg (by omega), if_pos (by omega), hQ2], hXe⟩
          · refine z_tableIn hC 126 dX7_plan_98 (by omega) (by omega) (by omega) (by rw [w_4]; rfl) (by decide) ?_
            refine z_iload_n hC dX7_plan_126 rfl ?_
            exact z_iret hC dX7_plan_127 ⟨by unfold qPlan; rw [if_neg (by omega), if_neg (by omega), if_pos (by omega), hQ2], hXe⟩
          · refine z_tableIn hC 128 dX7_plan_98 (by omega) (by omega) (by omega) (by rw [w_4]; rfl) (by decide) ?_
            refine z_aload_n hC dX7_plan_128 rfl ?_
            refine z_get hC iA_X7 rfl 1 (by decide) qF_X7_16 rfl dX7_plan_129 cl_main (cd_main (ca := ca) (ad := ad)) rfl ?_
            refine z_callV hC [] 0 rfl dX7_plan_132 (fun l => m_X2_openCargoes l G ca ad _ μ1 26 zb_26 d1 h26e (d1 0 5).toNat (Int.toNat_of_nonneg hI1.1.1.2.1) hI1.1) qM_X7_228 qI_X2_openCargoes qS_X2_openCargoes qi_X2 qC_X2_openCargoes (by decide +kernel) (by decide) (by decide) (cl_desk zb_26) (cd_desk (ca := ca) (ad := ad) zb_26) rfl (Nat.le_of_ble_eq_true rfl) (zk_pure ?_) rfl
            exact z_iret hC dX7_plan_135 ⟨by unfold qPlan; rw [if_neg (by omega), if_neg (by omega), if_neg (by omega), if_pos (by omega), hQ2], hXe⟩
          · refine z_tableOut hC 136 dX7_plan_98 (by omega) (by omega) (by decide) ?_
            refine z_lload hC dX7_plan_136 rfl ?_
            refine z_callS hC [.long (p)] 1 rfl dX7_plan_138 (fun l => m_bitCount l _ _ _ p) qM_X7_231 qT_J13_bitCount_95d88 qi_J13 qC_J13_bitCount_95d88 (by decide +kernel) (by decide) (by decide) (Nat.le_of_ble_eq_true rfl) (zk_pure ?_) rfl
            exact z_iret hC dX7_plan_141 ⟨by unfold qPlan; rw [if_neg (by omega), if_neg (by omega), if_neg (by omega), if_neg (by omega), hQ2], hXe⟩
        · exfalso; omega
      | succ r ih =>
        intro μ1 d1 m a p hm hm0 hQ hI1 h26 hX1
        refine z_iload_n hC dX7_plan_24 rfl ?_
        refine z_bipush hC dX7_plan_25 (by decide) ?_
        refine z_icmp_ge hC 97 dX7_plan_27 (by decide) (by omega) (by omega) (fun c_5 => ?_) (fun c_5 => ?_)
        · exfalso; omega
        · refine z_aload_n hC dX7_plan_30 rfl ?_
          refine z_get hC iA_X7 rfl 1 (by decide) qF_X7_16 rfl dX7_plan_31 cl_main (cd_main (ca := ca) (ad := ad)) rfl ?_
          have hbl := sBest_l d1 (μ1 26 9) (μ1 26 10) (μ1 26 11)
          have hbc := sBest_c (d := d1) hI1.1.1
          obtain ⟨hN1a, hN1b⟩ := hI1.1.1
          refine z_callV hC [] 0 rfl dX7_plan_34 (fun l => m_X2_chooseGainful l G ca ad _ μ1 26 zb_26 d1 h26 (d1 0 4).toNat (d1 0 5).toNat hI1.1 (zInv_G hI1) (Int.toNat_of_nonneg hN1a.1) (Int.toNat_of_nonneg hN1b.1)) qM_X7_217 qI_X2_chooseGainful qS_X2_chooseGainful qi_X2 qC_X2_chooseGainful (by decide +kernel) (by decide) (by decide) (cl_desk zb_26) (cd_desk (ca := ca) (ad := ad) zb_26) rfl (Nat.le_of_ble_eq_true rfl) (zk_int (fun μ6 hμ6 => ?_)) rfl
          obtain ⟨hμ6f, hμ69, hμ610, hμ611⟩ := id hμ6
          have h262 : vw μ6 26 = d1 := (vw_f2 hμ6f).trans h26
          have hX2 : zSt μ6 d n h L t := zSt_fr hX1 (vw_eq (fun o i hr => hμ6f _ _ (by unfold zrel at hr; omega) (by unfold zrel at hr; omega))) (fun c hc => by funext i; exact hμ6f c i (by omega) (by omega)) (hμ6f 159 1 (by omega) (by omega)) (by funext i; exact hμ6f 160 i (by omega) (by omega))
          refine z_ifb_eq hC 97 dX7_plan_37 (by decide) (fun c_7 => ?_) (fun c_7 => ?_)
          · have hng : ¬ ((sBest d1).1 = 1 ∧ 0 < (sBest d1).2.2.2) := fun z => by
              rw [hbl.2 z.1] at c_7
              exact c_7 z
            have hQ2 : sPlan 10 d 0 0 0 = (d1, m, a, p) := by rw [← hQ]; exact if_neg hng
            have h26e := h262
            have hXe := hX2
            refine z_iload_n hC dX7_plan_97 rfl ?_
            rcases (show w = 0 ∨ w = 1 ∨ w = 2 ∨ (w < 0 ∨ 2 < w) by omega) with w_8 | w_8 | w_8 | w_8
            · refine z_tableIn hC 124 dX7_plan_98 (by omega) (by omega) (by omega) (by rw [w_8]; rfl) (by decide) ?_
              refine z_iload_n hC dX7_plan_124 rfl ?_
              exact z_iret hC dX7_plan_125 ⟨by unfold qPlan; rw [if_neg (by omega), if_pos (by omega), hQ2], hXe⟩
            · refine z_tableIn hC 126 dX7_plan_98 (by omega) (by omega) (by omega) (by rw [w_8]; rfl) (by decide) ?_
              refine z_iload_n hC dX7_plan_126 rfl ?_
              exact z_iret hC dX7_plan_127 ⟨by unfold qPlan; rw [if_neg (by omega), if_neg (by omega), if_pos (by omega), hQ2], hXe⟩
            · refine z_tableIn hC 128 dX7_plan_98 (by omega) (by omega) (by omega) (by rw [w_8]; rfl) (by decide) ?_
              refine z_aload_n hC dX7_plan_128 rfl ?_
              refine z_get hC iA_X7 rfl 1 (by decide) qF_X7_16 rfl dX7_plan_129 cl_main (cd_main (ca := ca) (ad := ad)) rfl ?_
              refine z_callV hC [] 0 rfl dX7_plan_132 (fun l => m_X2_openCargoes l G ca ad _ μ6 26 zb_26 d1 h26e (d1 0 5).toNat (Int.toNat_of_nonneg hI1.1.1.2.1) hI1.1) qM_X7_228 qI_X2_openCargoes qS_X2_openCargoes qi_X2 qC_X2_openCargoes (by decide +kernel) (by decide) (by decide) (cl_desk zb_26) (cd_desk (ca := ca) (ad := ad) zb_26) rfl (Nat.le_of_ble_eq_true rfl) (zk_pure ?_) rfl
              exact z_iret hC dX7_plan_135 ⟨by unfold qPlan; rw [if_neg (by omega), if_neg (by omega), if_neg (by omega), if_pos (by omega), hQ2], hXe⟩
            · refine z_tableOut hC 136 dX7_plan_98 (by omega) (by omega) (by decide) ?_
              refine z_lload hC dX7_plan_136 rfl ?_
              refine z_callS hC [.long (p)] 1 rfl dX7_plan_138 (fun l => m_bitCount l _ _ _ p) qM_X7_231 qT_J13_bitCount_95d88 qi_J13 qC_J13_bitCount_95d88 (by decide +kernel) (by decide) (by decide) (Nat.le_of_ble_eq_true rfl) (zk_pure ?_) rfl
              exact z_iret hC dX7_plan_141 ⟨by unfold qPlan; rw [if_neg (by omega), if_neg (by omega), if_neg (by omega), if_neg (by omega), hQ2], hXe⟩
          · have hb1 : (sBest d1).1 = 1 := by omega
            have hbe := hbl.2 hb1
            have hbk := hbc hb1
            rw [hbe] at hμ69 hμ610 hμ611
            have hgo : 0 < (sBest d1).2.2.2 := by rw [← hbe]; omega
            refine z_iinc hC dX7_plan_40 rfl (by decide) rfl ?_
            refine z_iload_n hC dX7_plan_43 rfl ?_
            refine z_aload_n hC dX7_plan_44 rfl ?_
            refine z_get hC iA_X7 rfl 1 (by decide) qF_X7_16 rfl dX7_plan_45 cl_main (cd_main (ca := ca) (ad := ad)) rfl ?_
            refine z_get hC iA_X2 rfl 11 (by decide) qF_X7_221 rfl dX7_plan_48 (cl_desk zb_26) (cd_desk (ca := ca) (ad := ad) zb_26) rfl ?_
            refine z_top (b := (sBest d1).2.2.2) (by rw [hμ611]) ?_
            refine z_iadd hC dX7_plan_51 ?_
            refine z_istore_n hC dX7_plan_52 (by decide) rfl ?_
            refine z_lload hC dX7_plan_53 rfl ?_
            refine z_aload_n hC dX7_plan_55 rfl ?_
            refine z_get hC iA_X7 rfl 1 (by decide) qF_X7_16 rfl dX7_plan_56 cl_main (cd_main (ca := ca) (ad := ad)) rfl ?_
            refine z_aload_n hC dX7_plan_59 rfl ?_
            refine z_get hC iA_X7 rfl 1 (by decide) qF_X7_16 rfl dX7_plan_60 cl_main (cd_main (ca := ca) (ad := ad)) rfl ?_
            refine z_get hC iA_X2 rfl 10 (by decide) qF_X7_207 rfl dX7_plan_63 (cl_desk zb_26) (cd_desk (ca := ca) (ad := ad) zb_26) rfl ?_
            refine z_top (b := (sBest d1).2.2.1) (by rw [hμ610]) ?_
            refine z_callV hC [.int (iZ ((sBest d1).2.2.1))] 1 rfl dX7_plan_66 (fun l => m_X2_pairOf l G ca ad _ μ6 26 zb_26 d1 h262 ((sBest d1).2.2.1) hI1.1 (by omega)) qM_X7_224 qI_X2_pairOf qS_X2_pairOf qi_X2 qC_X2_pairOf (by decide +kernel) (by decide) (by decide) (cl_desk zb_26) (cd_desk (ca := ca) (ad := ad) zb_26) rfl (Nat.le_of_ble_eq_true rfl) (zk_pure ?_) rfl
            refine z_lor hC dX7_plan_69 ?_
            refine z_lstore hC dX7_plan_70 (by decide) rfl rfl ?_
            refine z_aload_n hC dX7_plan_72 rfl ?_
            refine z_get hC iA_X7 rfl 1 (by decide) qF_X7_16 rfl dX7_plan_73 cl_main (cd_main (ca := ca) (ad := ad)) rfl ?_
            refine z_aload_n hC dX7_plan_76 rfl ?_
            refine z_get hC iA_X7 rfl 1 (by decide) qF_X7_16 rfl dX7_plan_77 cl_main (cd_main (ca := ca) (ad := ad)) rfl ?_
            refine z_get hC iA_X2 rfl 9 (by decide) qF_X7_214 rfl dX7_plan_80 (cl_desk zb_26) (cd_desk (ca := ca) (ad := ad) zb_26) rfl ?_
            refine z_top (b := (sBest d1).2.1) (by rw [hμ69]) ?_
            refine z_aload_n hC dX7_plan_83 rfl ?_
            refine z_get hC iA_X7 rfl 1 (by decide) qF_X7_16 rfl dX7_plan_84 cl_main (cd_main (ca := ca) (ad := ad)) rfl ?_
            refine z_get hC iA_X2 rfl 10 (by decide) qF_X7_207 rfl dX7_plan_87 (cl_desk zb_26) (cd_desk (ca := ca) (ad := ad) zb_26) rfl ?_
            refine z_top (b := (sBest d1).2.2.1) (by rw [hμ610]) ?_
            refine z_callV hC [.int (iZ ((sBest d1).2.1)), .int (iZ ((sBest d1).2.2.1))] 2 rfl dX7_plan_90 (fun l => m_X2_fixShip l G ca ad _ μ6 26 zb_26 d1 h262 ((sBest d1).2.1) ((sBest d1).2.2.1) (by omega) (by omega) hI1.1 (zInv_G hI1) (zInv_full hI1)) qM_X7_60 qI_X2_fixShip qS_X2_fixShip qi_X2 qC_X2_fixShip (by decide +kernel) (by decide) (by decide) (cl_desk zb_26) (cd_desk (ca := ca) (ad := ad) zb_26) rfl (Nat.le_of_ble_eq_true rfl) (zk_int (fun μ9 hμ9 => ?_)) rfl
            obtain ⟨hμ9v, hμ9f⟩ := id hμ9
            refine z_pop hC dX7_plan_93 rfl ?_
            refine z_goto hC 24 dX7_plan_94 (by decide) ?_
            refine z_weak (L' := [(2, .int (iZ (m + 1))), (3, .int (iZ (a + (sBest d1).2.2.2))), (4, .long (p ||| sPair d1 (sBest d1).2.2.1)), (0, .ref (ad 156)), (1, .int (iZ w))]) ⟨rfl, rfl, rfl, rfl, rfl, trivial⟩ ?_
            exact ih _ (opFix d1 ((sBest d1).2.1) ((sBest d1).2.2.1)).2 (m + 1) _ _ (by omega) (by omega) (by rw [← hQ]; exact (if_pos ⟨hb1, hgo⟩).symm) (zOb_fix hOb hI1 (by omega) (by omega)) hμ9v (zSt_tr hX2 hμ9f)
    refine z_weak (L' := [(2, .int (iZ 0)), (3, .int (iZ 0)), (4, .long 0), (0, .ref (ad 156)), (1, .int (iZ w))]) ⟨rfl, rfl, rfl, rfl, rfl, trivial⟩ ?_
    exact LOOP 10 _ d 0 0 0 (by omega) (by omega) rfl hI hd1 hX1
  · refine z_ldc hC (-1000001) qc_X7_77 rfl dX7_plan_9 ?_
    exact z_iret hC dX7_plan_11 ⟨by unfold qPlan; rw [if_pos (by omega)], hX⟩
