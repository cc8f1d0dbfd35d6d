set_option maxHeartbeats 4000000 in
set_option maxRecDepth 100000 in
/-- does(c) -/
theorem m_X8_does (l : Launch) (G : va_G) (ca : Nat → ClassId) (ad : Int → Nat) (A : Nat → Prop) (μ : zM) (d : zM) (hd : rv μ 0 = d) (hI : zInv d) (c : Int) (hc : -2147483648 ≤ c ∧ c ≤ 2147483647) (hcn : cNum c ≠ 0) (hf : ∀ j, 0 ≤ j ∧ j < cNum c → 0 ≤ μ 3 j ∧ μ 3 j ≤ 999) : zMet l (rω G ca ad) A yX8_does cX8_does 2 (some .int) 8 188 [.ref (ad 0), .int (iZ c)] μ (zpI (.int (iZ (sObey d c (μ 3)).1)) (fun μ' => rv μ' 0 = (sObey d c (μ 3)).2 ∧ rSl μ μ')) := by
  refine zMet_of (by decide) (Nat.le_of_ble_eq_true rfl) (fun Γ hC => ?_)
  show Z Γ _ μ 0 [(0, .ref (ad 0)), (1, .int (iZ c))] []
  refine z_iload_n hC dX8_does_0 rfl ?_
  rcases (show c = 99 ∨ c = 102 ∨ c = 115 ∨ (c ≠ 99 ∧ c ≠ 102 ∧ c ≠ 115) by omega) with w_1 | w_1 | w_1 | w_1
  · refine z_lookup hC 71 dX8_does_1 (by omega) (by decide) (by rw [w_1]; try rfl) (by decide) ?_
    have hcn9 : cNum c = 6 := by rw [w_1]; rfl
    have hf0 := hf 0 (by omega)
    have hf1 := hf 1 (by omega)
    have hf2 := hf 2 (by omega)
    have hf3 := hf 3 (by omega)
    have hf4 := hf 4 (by omega)
    have hf5 := hf 5 (by omega)
    refine z_aload_n hC dX8_does_71 rfl ?_
    refine z_aload_n hC dX8_does_72 rfl ?_
    refine z_get hC iA_X8 rfl 7 (by decide) qF_X8_17 rfl dX8_does_73 rl_0 (rd_0 (ca := ca) (ad := ad)) rfl ?_
    refine z_iconst hC dX8_does_76 ?_
    refine z_iald hC dX8_does_77 rl_3 (rd_3 (ca := ca) (ad := ad)) (by omega) (by omega) (by decide) ?_
    refine z_aload_n hC dX8_does_78 rfl ?_
    refine z_get hC iA_X8 rfl 7 (by decide) qF_X8_17 rfl dX8_does_79 rl_0 (rd_0 (ca := ca) (ad := ad)) rfl ?_
    refine z_iconst hC dX8_does_82 ?_
    refine z_iald hC dX8_does_83 rl_3 (rd_3 (ca := ca) (ad := ad)) (by omega) (by omega) (by decide) ?_
    refine z_aload_n hC dX8_does_84 rfl ?_
    refine z_get hC iA_X8 rfl 7 (by decide) qF_X8_17 rfl dX8_does_85 rl_0 (rd_0 (ca := ca) (ad := ad)) rfl ?_
    refine z_iconst hC dX8_does_88 ?_
    refine z_iald hC dX8_does_89 rl_3 (rd_3 (ca := ca) (ad := ad)) (by omega) (by omega) (by decide) ?_
    refine z_aload_n hC dX8_does_90 rfl ?_
    refine z_get hC iA_X8 rfl 7 (by decide) qF_X8_17 rfl dX8_does_91 rl_0 (rd_0 (ca := ca) (ad := ad)) rfl ?_
    refine z_iconst hC dX8_does_94 ?_
    refine z_iald hC dX8_does_95 rl_3 (rd_3 (ca := ca) (ad := ad)) (by omega) (by omega) (by decide) ?_
    refine z_aload_n hC dX8_does_96 rfl ?_
    refine z_get hC iA_X8 rfl 7 (by decide) qF_X8_17 rfl dX8_does_97 rl_0 (rd_0 (ca := ca) (ad := ad)) rfl ?_
    refine z_iconst hC dX8_does_100 ?_
    refine z_iald hC dX8_does_101 rl_3 (rd_3 (ca := ca) (ad := ad)) (by omega) (by omega) (by decide) ?_
    refine z_aload_n hC dX8_does_102 rfl ?_
    refine z_get hC iA_X8 rfl 7 (by decide) qF_X8_17 rfl dX8_does_103 rl_0 (rd_0 (ca := ca) (ad := ad)) rfl ?_
    refine z_iconst hC dX8_does_106 ?_
    refine z_iald hC dX8_does_107 rl_3 (rd_3 (ca := ca) (ad := ad)) (by omega) (by omega) (by decide) ?_
    refine z_callV hC [.int (iZ (μ 3 0)), .int (iZ (μ 3 1)), .int (iZ (μ 3 2)), .int (iZ (μ 3 3)), .int (iZ (μ 3 4)), .int (iZ (μ 3 5))] 6 rfl dX8_does_108 (fun l => m_X8_doCargo l G ca ad _ μ d hd (μ 3 0) (μ 3 1) (μ 3 2) (μ 3 3) (μ 3 4) (μ 3 5) (by omega) (by omega) (by omega) (by omega) (by omega) (by omega) hI) qM_X8_119 qI_X8_doCargo qS_X8_doCargo qi_X8 qC_X8_doCargo (by decide +kernel) (by decide) (by decide) rl_0 (rd_0 (ca := ca) (ad := ad)) rfl (Nat.le_of_ble_eq_true rfl) (zk_int (fun μ2 hμ2 => ?_)) rfl
    exact z_iret hC dX8_does_111 ⟨by unfold sObey; rw [if_pos (by omega)], by unfold sObey; rw [if_pos (by omega)]; exact hμ2⟩
  · refine z_lookup hC 112 dX8_does_1 (by omega) (by decide) (by rw [w_1]; try rfl) (by decide) ?_
    have hcn9 : cNum c = 2 := by rw [w_1]; rfl
    have hf0 := hf 0 (by omega)
    have hf1 := hf 1 (by omega)
    refine z_aload_n hC dX8_does_112 rfl ?_
    refine z_aload_n hC dX8_does_113 rfl ?_
    refine z_get hC iA_X8 rfl 7 (by decide) qF_X8_17 rfl dX8_does_114 rl_0 (rd_0 (ca := ca) (ad := ad)) rfl ?_
    refine z_iconst hC dX8_does_117 ?_
    refine z_iald hC dX8_does_118 rl_3 (rd_3 (ca := ca) (ad := ad)) (by omega) (by omega) (by decide) ?_
    refine z_aload_n hC dX8_does_119 rfl ?_
    refine z_get hC iA_X8 rfl 7 (by decide) qF_X8_17 rfl dX8_does_120 rl_0 (rd_0 (ca := ca) (ad := ad)) rfl ?_
    refine z_iconst hC dX8_does_123 ?_
    refine z_iald hC dX8_does_124 rl_3 (rd_3 (ca := ca) (ad := ad)) (by omega) (by omega) (by decide) ?_
    refine z_callV hC [.int (iZ (μ 3 0)), .int (iZ (μ 3 1))] 2 rfl dX8_does_125 (fun l => m_X8_doFix l G ca ad _ μ d hd (μ 3 0) (μ 3 1) (by omega) (by omega) hI) qM_X8_123 qI_X8_doFix qS_X8_doFix qi_X8 qC_X8_doFix (by decide +kernel) (by decide) (by decide) rl_0 (rd_0 (ca := ca) (ad := ad)) rfl (Nat.le_of_ble_eq_true rfl) (zk_int (fun μ3 hμ3 => ?_)) rfl
    exact z_iret hC dX8_does_128 ⟨by unfold sObey; rw [if_neg (by omega), if_neg (by omega), if_pos (by omega)], by unfold sObey; rw [if_neg (by omega), if_neg (by omega), if_pos (by omega)]; exact hμ3⟩
  · refine z_lookup hC 36 dX8_does_1 (by omega) (by decide) (by rw [w_1]; try rfl) (by decide) ?_
    have hcn9 : cNum c = 5 := by rw [w_1]; rfl
    have hf0 := hf 0 (by omega)
    have hf1 := hf 1 (by omega)
    have hf2 := hf 2 (by omega)
    have hf3 := hf 3 (by omega)
    have hf4 := hf 4 (by omega)
    refine z_aload_n hC dX8_does_36 rfl ?_
    refine z_aload_n hC dX8_does_37 rfl ?_
    refine z_get hC iA_X8 rfl 7 (by decide) qF_X8_17 rfl dX8_does_38 rl_0 (rd_0 (ca := ca) (ad := ad)) rfl ?_
    refine z_iconst hC dX8_does_41 ?_
    refine z_iald hC dX8_does_42 rl_3 (rd_3 (ca := ca) (ad := ad)) (by omega) (by omega) (by decide) ?_
    refine z_aload_n hC dX8_does_43 rfl ?_
    refine z_get hC iA_X8 rfl 7 (by decide) qF_X8_17 rfl dX8_does_44 rl_0 (rd_0 (ca := ca) (ad := ad)) rfl ?_
    refine z_iconst hC dX8_does_47 ?_
    refine z_iald hC dX8_does_48 rl_3 (rd_3 (ca := ca) (ad := ad)) (by omega) (by omega) (by decide) ?_
    refine z_aload_n hC dX8_does_49 rfl ?_
    refine z_get hC iA_X8 rfl 7 (by decide) qF_X8_17 rfl dX8_does_50 rl_0 (rd_0 (ca := ca) (ad := ad)) rfl ?_
    refine z_iconst hC dX8_does_53 ?_
    refine z_iald hC dX8_does_54 rl_3 (rd_3 (ca := ca) (ad := ad)) (by omega) (by omega) (by decide) ?_
    refine z_aload_n hC dX8_does_55 rfl ?_
    refine z_get hC iA_X8 rfl 7 (by decide) qF_X8_17 rfl dX8_does_56 rl_0 (rd_0 (ca := ca) (ad := ad)) rfl ?_
    refine z_iconst hC dX8_does_59 ?_
    refine z_iald hC dX8_does_60 rl_3 (rd_3 (ca := ca) (ad := ad)) (by omega) (by omega) (by decide) ?_
    refine z_aload_n hC dX8_does_61 rfl ?_
    refine z_get hC iA_X8 rfl 7 (by decide) qF_X8_17 rfl dX8_does_62 rl_0 (rd_0 (ca := ca) (ad := ad)) rfl ?_
    refine z_iconst hC dX8_does_65 ?_
    refine z_iald hC dX8_does_66 rl_3 (rd_3 (ca := ca) (ad := ad)) (by omega) (by omega) (by decide) ?_
    refine z_callV hC [.int (iZ (μ 3 0)), .int (iZ (μ 3 1)), .int (iZ (μ 3 2)), .int (iZ (μ 3 3)), .int (iZ (μ 3 4))] 5 rfl dX8_does_67 (fun l => m_X8_doShip l G ca ad _ μ d hd (μ 3 0) (μ 3 1) (μ 3 2) (μ 3 3) (μ 3 4) (by omega) (by omega) (by omega) (by omega) (by omega) hI) qM_X8_115 qI_X8_doShip qS_X8_doShip qi_X8 qC_X8_doShip (by decide +kernel) (by decide) (by decide) rl_0 (rd_0 (ca := ca) (ad := ad)) rfl (Nat.le_of_ble_eq_true rfl) (zk_int (fun μ4 hμ4 => ?_)) rfl
    exact z_iret hC dX8_does_70 ⟨by unfold sObey; rw [if_neg (by omega), if_neg (by omega), if_neg (by omega), if_pos (by omega)], by unfold sObey; rw [if_neg (by omega), if_neg (by omega), if_neg (by omega), if_pos (by omega)]; exact hμ4⟩
  · refine z_lookup hC 129 dX8_does_1 (by omega) (by decide) (by show Op.lookupswitch.offset [(99, 70), (102, 111), (115, 35)] 128 c = 128; rw [Op.lookupswitch.offset_cons, if_neg (by omega), Op.lookupswitch.offset_cons, if_neg (by omega), Op.lookupswitch.offset_cons, if_neg (by omega)]; rfl) (by decide) ?_
    have hc100 : c = 100 := by unfold cNum at hcn; (repeat' split at hcn) <;> omega
    have hcn9 : cNum c = 2 := by rw [hc100]; rfl
    have hf0 := hf 0 (by omega)
    have hf1 := hf 1 (by omega)
    refine z_aload_n hC dX8_does_129 rfl ?_
    refine z_aload_n hC dX8_does_130 rfl ?_
    refine z_get hC iA_X8 rfl 7 (by decide) qF_X8_17 rfl dX8_does_131 rl_0 (rd_0 (ca := ca) (ad := ad)) rfl ?_
    refine z_iconst hC dX8_does_134 ?_
    refine z_iald hC dX8_does_135 rl_3 (rd_3 (ca := ca) (ad := ad)) (by omega) (by omega) (by decide) ?_
    refine z_aload_n hC dX8_does_136 rfl ?_
    refine z_get hC iA_X8 rfl 7 (by decide) qF_X8_17 rfl dX8_does_137 rl_0 (rd_0 (ca := ca) (ad := ad)) rfl ?_
    refine z_iconst hC dX8_does_140 ?_
    refine z_iald hC dX8_does_141 rl_3 (rd_3 (ca := ca) (ad := ad)) (by omega) (by omega) (by decide) ?_
    refine z_callV hC [.int (iZ (μ 3 0)), .int (iZ (μ 3 1))] 2 rfl dX8_does_142 (fun l => m_X8_doDelay l G ca ad _ μ d hd (μ 3 0) (μ 3 1) (by omega) (by omega) hI) qM_X8_126 qI_X8_doDelay qS_X8_doDelay qi_X8 qC_X8_doDelay (by decide +kernel) (by decide) (by decide) rl_0 (rd_0 (ca := ca) (ad := ad)) rfl (Nat.le_of_ble_eq_true rfl) (zk_int (fun μ5 hμ5 => ?_)) rfl
    exact z_iret hC dX8_does_145 ⟨by unfold sObey; rw [if_neg (by omega), if_pos (by omega)], by unfold sObey; rw [if_neg (by omega), if_pos (by omega)]; exact hμ5⟩

set_option maxHeartbeats 4000000 in
set_option maxRecDepth 100000 in
/-- goesOn() -/
theorem m_X8_goesOn (l : Launch) (G : va_G) (ca : Nat → ClassId) (ad : Int → Nat) (A : Nat → Prop) (μ : zM) (L : Int) (t : Int → Int) (hT : rTx μ L t) (d : zM) (hd : rv μ 0 = d) (hI : zInv d) (hOb : zObOK) (hOb2 : zObLow) : zMet l (rω G ca ad) A yX8_goesOn cX8_goesOn 5 (some .int) 9 209 [.ref (ad 0)] μ (zpI (.int (iZ (sMany (sTry L t L.toNat 0 d 0)))) (fun μ' => rGn μ μ' ∧ rTry (sTry L t L.toNat 0 d 0) μ' ∧ ((sTry L t L.toNat 0 d 0).1 = 0 ∨ (sTry L t L.toNat 0 d 0).1 = 1) ∧ (0 ≤ (sTry L t L.toNat 0 d 0).2.2.1 ∧ (sTry L t L.toNat 0 d 0).2.2.1 ≤ 60) ∧ (0 ≤ (sTry L t L.toNat 0 d 0).2.2.2.1 ∧ (sTry L t L.toNat 0 d 0).2.2.2.1 ≤ 60))) := by
  refine zMet_of (by decide) (Nat.le_of_ble_eq_true rfl) (fun Γ hC => ?_)
  show Z Γ _ μ 0 [(0, .ref (ad 0))] []
  have hL := hT.2.1
  have hT0 := zTx_of hT
  refine z_aload_n hC dX8_goesOn_0 rfl ?_
  refine z_iconst hC dX8_goesOn_1 ?_
  refine z_put hC iA_X8 rfl tyX8 tyX8_ok nmX8 6 (by decide) rfl rfl 6 rfl qF_X8_144 rfl dX8_goesOn_2 rl_0 (rd_0 (ca := ca) (ad := ad)) (fun _ => rfl) (fun _ => Nat.le_of_ble_eq_true rfl) ?_
  refine z_nm (fun μ1 hμ1 => ?_)
  refine z_iconst hC dX8_goesOn_5 ?_
  refine z_istore_n hC dX8_goesOn_6 (by decide) rfl ?_
  have LOOP : ∀ (r : Nat), ∀ (μ1 : zM) (st : Int) (d1 : zM) (m : Int), L - st ≤ (r : Int) → sTry L t r st d1 m = sTry L t L.toNat 0 d 0 → zInv d1 → rv μ1 0 = d1 → rGn μ μ1 → μ1 0 6 = st → (0 ≤ m ∧ m ≤ st) → st ≤ L → Z Γ (rω G ca ad) μ1 7 [(1, .int (iZ m)), (0, .ref (ad 0))] [] := by
    intro r
    induction r with
    | zero =>
      intro μ1 st d1 m hr9 hQ hI1 hd1 hgn he6 hms hst
      have hT1 : rTx μ1 L t := rTx_gn hT hgn
      refine z_aload_n hC dX8_goesOn_7 rfl ?_
      refine z_get hC iA_X8 rfl 6 (by decide) qF_X8_144 rfl dX8_goesOn_8 rl_0 (rd_0 (ca := ca) (ad := ad)) rfl ?_
      refine z_top (b := st) (by rw [he6]) ?_
      refine z_aload_n hC dX8_goesOn_11 rfl ?_
      refine z_get hC iA_X8 rfl 3 (by decide) qF_X8_141 rfl dX8_goesOn_12 rl_0 (rd_0 (ca := ca) (ad := ad)) rfl ?_
      refine z_top (b := L) (by rw [hT1.1]) ?_
      refine z_icmp_ge hC 92 dX8_goesOn_15 (by decide) (by omega) (by omega) (fun c_2 => ?_) (fun c_2 => ?_)
      · refine z_iload_n hC dX8_goesOn_92 rfl ?_
        have hQ1 : sTry L t L.toNat 0 d 0 = (1, d1, m, 0, 0, 0) := by rw [← hQ]; first | rfl | (show (if _ then _ else _) = _; rw [if_neg (by omega)])
        exact z_iret hC dX8_goesOn_93 ⟨by rw [hQ1]; rfl, hgn, by rw [hQ1]; exact hd1, by rw [hQ1]; exact Or.inr rfl, by rw [hQ1]; show 0 ≤ m ∧ m ≤ 60; omega, by rw [hQ1]; show (0 : Int) ≤ 0 ∧ (0 : Int) ≤ 60; omega⟩
      · exfalso; omega
    | succ r ih =>
      intro μ1 st d1 m hr9 hQ hI1 hd1 hgn he6 hms hst
      have hT1 : rTx μ1 L t := rTx_gn hT hgn
      refine z_aload_n hC dX8_goesOn_7 rfl ?_
      refine z_get hC iA_X8 rfl 6 (by decide) qF_X8_144 rfl dX8_goesOn_8 rl_0 (rd_0 (ca := ca) (ad := ad)) rfl ?_
      refine z_top (b := st) (by rw [he6]) ?_
      refine z_aload_n hC dX8_goesOn_11 rfl ?_
      refine z_get hC iA_X8 rfl 3 (by decide) qF_X8_141 rfl dX8_goesOn_12 rl_0 (rd_0 (ca := ca) (ad := ad)) rfl ?_
      refine z_top (b := L) (by rw [hT1.1]) ?_
      refine z_icmp_ge hC 92 dX8_goesOn_15 (by decide) (by omega) (by omega) (fun c_3 => ?_) (fun c_3 => ?_)
      · refine z_iload_n hC dX8_goesOn_92 rfl ?_
        have hQ1 : sTry L t L.toNat 0 d 0 = (1, d1, m, 0, 0, 0) := by rw [← hQ]; first | rfl | (show (if _ then _ else _) = _; rw [if_neg (by omega)])
        exact z_iret hC dX8_goesOn_93 ⟨by rw [hQ1]; rfl, hgn, by rw [hQ1]; exact hd1, by rw [hQ1]; exact Or.inr rfl, by rw [hQ1]; show 0 ≤ m ∧ m ≤ 60; omega, by rw [hQ1]; show (0 : Int) ≤ 0 ∧ (0 : Int) ≤ 60; omega⟩
      · refine z_aload_n hC dX8_goesOn_18 rfl ?_
        refine z_get hC iA_X8 rfl 6 (by decide) qF_X8_144 rfl dX8_goesOn_19 rl_0 (rd_0 (ca := ca) (ad := ad)) rfl ?_
        refine z_top (b := st) (by rw [he6]) ?_
        refine z_istore_n hC dX8_goesOn_22 (by decide) rfl ?_
        refine z_aload_n hC dX8_goesOn_23 rfl ?_
        refine z_callV hC [] 0 rfl dX8_goesOn_24 (fun l => m_X8_sign l G ca ad _ μ1 L t hT1 st he6 (by omega)) qM_X8_147 qI_X8_sign qS_X8_sign qi_X8 qC_X8_sign (by decide +kernel) (by decide) (by decide) rl_0 (rd_0 (ca := ca) (ad := ad)) rfl (Nat.le_of_ble_eq_true rfl) (zk_pure ?_) rfl
        refine z_istore_n hC dX8_goesOn_27 (by decide) rfl ?_
        refine z_aload_n hC dX8_goesOn_28 rfl ?_
        refine z_iload_n hC dX8_goesOn_29 rfl ?_
        have hob := sOrder_b hT0 (e := st) (by omega) (μ1 3)
        have hog := sOrder_g (L := L) (t := t) st (μ1 3) (fun _ => 0)
        have hcc := cAt_b hT0 st
        refine z_callV hC [.int (iZ (cAt L t st))] 1 rfl dX8_goesOn_30 (fun l => m_X8_order l G ca ad _ μ1 L t hT1 st he6 (by omega) (cAt L t st) rfl) qM_X8_156 qI_X8_order qS_X8_order qi_X8 qC_X8_order (by decide +kernel) (by decide) (by decide) rl_0 (rd_0 (ca := ca) (ad := ad)) rfl (Nat.le_of_ble_eq_true rfl) (zk_int (fun μ4 hμ4 => ?_)) rfl
        obtain ⟨hμ46, hμ43, hμ4f⟩ := id hμ4
        have hg2 : rGn μ μ4 := rGn_tr hgn (rGn_fs hμ4f)
        have hd2 : rv μ4 0 = d1 := (rv_fs hμ4f).trans hd1
        refine z_ifb_ne hC 56 dX8_goesOn_33 (by decide) (fun c_5 => ?_) (fun c_5 => ?_)
        · refine z_aload_n hC dX8_goesOn_56 rfl ?_
          refine z_iload_n hC dX8_goesOn_57 rfl ?_
          have hob1 : (sOrder L t st (μ1 3)).1 = 1 := by omega
          have hob2 := hob.2.2 hob1
          have hob3 : st < (sOrder L t st (μ1 3)).2.1 := hob2.1
          have hcn : cNum (cAt L t st) ≠ 0 := fun z => by
            unfold sOrder at hob1
            rw [if_pos z] at hob1
            exact absurd (show (0 : Int) = 1 from hob1) (by decide)
          have hrg : ∀ j, 0 ≤ j ∧ j < cNum (cAt L t st) → 0 ≤ μ4 3 j ∧ μ4 3 j ≤ 999 := by rw [hμ43]; exact hob2.2
          have hok := hOb d1 (cAt L t st) (μ4 3) hI1 hrg
          have hlow := hOb2 d1 (cAt L t st) (μ4 3) hI1 hrg
          have hsame : sObey d1 (cAt L t st) (μ4 3) = sObey d1 (cAt L t st) (sOrder L t st (fun _ => 0)).2.2 := sObey_g (fun j hj => by rw [hμ43]; exact hog.2.2 hob1 j hj)
          refine z_callV hC [.int (iZ (cAt L t st))] 1 rfl dX8_goesOn_58 (fun l => m_X8_does l G ca ad _ μ4 d1 hd2 hI1 (cAt L t st) (by omega) hcn hrg) qM_X8_165 qI_X8_does qS_X8_does qi_X8 qC_X8_does (by decide +kernel) (by decide) (by decide) rl_0 (rd_0 (ca := ca) (ad := ad)) rfl (Nat.le_of_ble_eq_true rfl) (zk_int (fun μ6 hμ6 => ?_)) rfl
          obtain ⟨hμ6v, hμ6f⟩ := id hμ6
          have hg3 : rGn μ μ6 := rGn_tr hg2 (rGn_sl hμ6f)
          refine z_topn (fun rr hrr => ?_)
          have hrb : -2147483648 ≤ rr ∧ rr ≤ 2147483647 := by rw [hrr]; exact hok.1
          have hrl : -1000004 ≤ rr := by rw [hrr]; exact hlow
          refine z_istore hC dX8_goesOn_61 (by decide) rfl ?_
          refine z_iload hC dX8_goesOn_63 rfl ?_
          refine z_ldc hC (-1000001) qc_X8_24 rfl dX8_goesOn_65 ?_
          refine z_icmp_gt hC 86 dX8_goesOn_67 (by decide) (by omega) (by omega) (fun c_7 => ?_) (fun c_7 => ?_)
          · refine z_iinc hC dX8_goesOn_86 rfl (by decide) rfl ?_
            refine z_goto hC 7 dX8_goesOn_89 (by decide) ?_
            refine z_weak (L' := [(1, .int (iZ (m + 1))), (0, .ref (ad 0))]) ⟨rfl, rfl, trivial⟩ ?_
            refine ih _ (sOrder L t st (μ1 3)).2.1 (sObey d1 (cAt L t st) (μ4 3)).2 (m + 1) (by omega) ?_ hok.2 hμ6v hg3 (by rw [hμ6f.2.1 6 (by omega), hμ46]) (by omega) (by omega)
            rw [← hQ, hsame, hog.2.1]; show _ = (if _ then _ else _); rw [if_pos (by omega), if_pos (by omega), if_neg (by rw [← hsame, ← hrr]; omega)]
          · refine z_aload_n hC dX8_goesOn_70 rfl ?_
            refine z_iconst hC dX8_goesOn_71 ?_
            refine z_put hC iA_X8 rfl tyX8 tyX8_ok nmX8 4 (by decide) rfl rfl 4 rfl qF_X8_159 rfl dX8_goesOn_72 rl_0 (rd_0 (ca := ca) (ad := ad)) (fun _ => rfl) (fun _ => Nat.le_of_ble_eq_true rfl) ?_
            refine z_nm (fun μ8 hμ8 => ?_)
            refine z_aload_n hC dX8_goesOn_75 rfl ?_
            refine z_iload hC dX8_goesOn_76 rfl ?_
            refine z_put hC iA_X8 rfl tyX8 tyX8_ok nmX8 5 (by decide) rfl rfl 5 rfl qF_X8_162 rfl dX8_goesOn_78 rl_0 (rd_0 (ca := ca) (ad := ad)) (fun _ => rfl) (fun _ => Nat.le_of_ble_eq_true rfl) ?_
            refine z_nm (fun μ9 hμ9 => ?_)
            refine z_iload_n hC dX8_goesOn_81 rfl ?_
            refine z_ineg hC dX8_goesOn_82 ?_
            refine z_iconst hC dX8_goesOn_83 ?_
            refine z_isub hC dX8_goesOn_84 ?_
            have hQ1 : sTry L t L.toNat 0 d 0 = (0, d1, m, st, 2, rr) := by rw [← hQ, hrr, hsame]; show (if _ then _ else _) = _; rw [if_pos (by omega), if_pos (by omega), if_pos (by rw [← hsame, ← hrr]; omega)]
            exact z_iret hC dX8_goesOn_85 ⟨by rw [hQ1]; rfl, by rw [hμ9, hμ8]; exact rGn_up (rGn_up hg3 (by omega)) (by omega), by rw [hQ1]; exact ⟨by rw [hμ9, zup_n (by omega), hμ8, zup_s], by rw [hμ9, zup_s]⟩, by rw [hQ1]; exact Or.inl rfl, by rw [hQ1]; show 0 ≤ m ∧ m ≤ 60; omega, by rw [hQ1]; show 0 ≤ st ∧ st ≤ 60; omega⟩
        · refine z_aload_n hC dX8_goesOn_36 rfl ?_
          refine z_iconst hC dX8_goesOn_37 ?_
          refine z_put hC iA_X8 rfl tyX8 tyX8_ok nmX8 4 (by decide) rfl rfl 4 rfl qF_X8_159 rfl dX8_goesOn_38 rl_0 (rd_0 (ca := ca) (ad := ad)) (fun _ => rfl) (fun _ => Nat.le_of_ble_eq_true rfl) ?_
          refine z_nm (fun μ10 hμ10 => ?_)
          refine z_aload_n hC dX8_goesOn_41 rfl ?_
          refine z_aload_n hC dX8_goesOn_42 rfl ?_
          refine z_get hC iA_X8 rfl 6 (by decide) qF_X8_144 rfl dX8_goesOn_43 rl_0 (rd_0 (ca := ca) (ad := ad)) rfl ?_
          refine z_top (b := (sOrder L t st (μ1 3)).2.1) (by rw [hμ10, zup_n (by omega), hμ46]) ?_
          refine z_iload_n hC dX8_goesOn_46 rfl ?_
          refine z_isub hC dX8_goesOn_47 ?_
          refine z_put hC iA_X8 rfl tyX8 tyX8_ok nmX8 5 (by decide) rfl rfl 5 rfl qF_X8_162 rfl dX8_goesOn_48 rl_0 (rd_0 (ca := ca) (ad := ad)) (fun _ => rfl) (fun _ => Nat.le_of_ble_eq_true rfl) ?_
          refine z_nm (fun μ11 hμ11 => ?_)
          refine z_iload_n hC dX8_goesOn_51 rfl ?_
          refine z_ineg hC dX8_goesOn_52 ?_
          refine z_iconst hC dX8_goesOn_53 ?_
          refine z_isub hC dX8_goesOn_54 ?_
          have hQ1 : sTry L t L.toNat 0 d 0 = (0, d1, m, st, 1, (sOrder L t st (μ1 3)).2.1 - st) := by rw [← hQ, hog.2.1]; show (if _ then _ else _) = _; rw [if_pos (by omega), if_neg (by omega)]
          exact z_iret hC dX8_goesOn_55 ⟨by rw [hQ1]; rfl, by rw [hμ11, hμ10]; exact rGn_up (rGn_up hg2 (by omega)) (by omega), by rw [hQ1]; exact ⟨by rw [hμ11, zup_n (by omega), hμ10, zup_s], by rw [hμ11, zup_s]⟩, by rw [hQ1]; exact Or.inl rfl, by rw [hQ1]; show 0 ≤ m ∧ m ≤ 60; omega, by rw [hQ1]; show 0 ≤ st ∧ st ≤ 60; omega⟩
  refine z_weak (L' := [(1, .int (iZ 0)), (0, .ref (ad 0))]) ⟨rfl, rfl, trivial⟩ ?_
  exact LOOP L.toNat _ 0 d 0 (by omega) rfl hI (by rw [hμ1, rv_c0 (by omega)]; exact hd) (by rw [hμ1]; exact rGn_up (rGn_rf μ) (by omega)) (by rw [hμ1, zup_s]) (by omega) (by omega)

set_option maxHeartbeats 4000000 in
set_option maxRecDepth 100000 in
/-- fault(w) -/
theorem m_X8_fault (l : Launch) (G : va_G) (ca : Nat → ClassId) (ad : Int → Nat) (A : Nat → Prop) (μ : zM) (d : zM) (n : Int) (h : Int → zM) (L : Int) (t : Int → Int) (hX : rSt μ d n h L t) (hI : zInv d) (hOb : zObOK) (hOb2 : zObLow) (w : Int) (hw : -2147483648 ≤ w ∧ w ≤ 2147483647) : zMet l (rω G ca ad) A yX8_fault cX8_fault 3 (some .int) 10 233 [.ref (ad 0), .int (iZ w)] μ (zpI (.int (iZ (qFault d L t w))) (fun μ' => rSt μ' d n h L t)) := by
  refine zMet_of (by decide) (Nat.le_of_ble_eq_true rfl) (fun Γ hC => ?_)
  show Z Γ _ μ 0 [(0, .ref (ad 0)), (1, .int (iZ w))] []
  obtain ⟨hB, hf5, hf6, hIF, hIS, hII, hIL⟩ := id hI
  obtain ⟨hN, hP, hB3, hB4⟩ := id hB
  obtain ⟨hN1, hN2⟩ := id hN
  refine z_iload_n hC dX8_fault_0 rfl ?_
  refine z_iconst hC dX8_fault_1 ?_
  refine z_iconst hC dX8_fault_2 ?_
  refine z_callS hC [.int (iZ w), .int (iZ 0), .int (iZ 2)] 3 rfl dX8_fault_3 (fun l => m_X8_in l _ _ _ w 0 2 (by omega) (by omega) (by omega)) qM_X8_29 qT_X8_in qi_X8 qC_X8_in (by decide +kernel) (by decide) (by decide) (Nat.le_of_ble_eq_true rfl) (zk_pure ?_) rfl
  refine z_ifb_ne hC 12 dX8_fault_6 (by decide) (fun c_1 => ?_) (fun c_1 => ?_)
  · refine z_aload_n hC dX8_fault_12 rfl ?_
    refine z_callV hC [] 0 rfl dX8_fault_13 (fun l => m_X8_keeps l G ca ad _ μ) qM_X8_109 qI_X8_keeps qS_X8_keeps qi_X8 qC_X8_keeps (by decide +kernel) (by decide) (by decide) rl_0 (rd_0 (ca := ca) (ad := ad)) rfl (Nat.le_of_ble_eq_true rfl) (zk_void (fun μ2 hμ2 => ?_)) rfl
    obtain ⟨hμ2v, hμ2f⟩ := id hμ2
    have hk0 : rv μ2 0 = d := (rF1_v hμ2f (by omega)).trans hX.1
    have hk6 : rv μ2 6 = d := hμ2v.trans hX.1
    have hXk : rSt μ2 d n h L t := rSt_f6 hX hμ2f
    refine z_aload_n hC dX8_fault_16 rfl ?_
    obtain ⟨mm, hmm⟩ : ∃ mm, mm = sMany (sTry L t L.toNat 0 d 0) := ⟨_, rfl⟩
    refine z_callV hC [] 0 rfl dX8_fault_17 (fun l => m_X8_goesOn l G ca ad _ μ2 L t hXk.2.2 d hk0 hI hOb hOb2) qM_X8_168 qI_X8_goesOn qS_X8_goesOn qi_X8 qC_X8_goesOn (by decide +kernel) (by decide) (by decide) rl_0 (rd_0 (ca := ca) (ad := ad)) rfl (Nat.le_of_ble_eq_true rfl) (zk_int (fun μ3 hμ3 => ?_)) rfl
    obtain ⟨hμ3g, hμ3t, hμ301, hμ3m, hμ3b⟩ := id hμ3
    refine z_top hmm.symm ?_
    have hm9 : ((sTry L t L.toNat 0 d 0).1 = 1 ∧ mm = (sTry L t L.toNat 0 d 0).2.2.1) ∨ ((sTry L t L.toNat 0 d 0).1 = 0 ∧ mm = -(sTry L t L.toNat 0 d 0).2.2.2.1 - 1) := by
      rw [hmm]; unfold sMany
      rcases hμ301 with q | q
      · exact Or.inr ⟨q, if_neg (by omega)⟩
      · exact Or.inl ⟨q, if_pos q⟩
    refine z_istore_n hC dX8_fault_20 (by decide) rfl ?_
    refine z_aload_n hC dX8_fault_21 rfl ?_
    refine z_bipush hC dX8_fault_22 (by decide) ?_
    refine z_iconst hC dX8_fault_24 ?_
    refine z_callV hC [.int (iZ 6), .int (iZ 0)] 2 rfl dX8_fault_25 (fun l => m_X8_copies l G ca ad _ μ3 6 0 (by omega) (by omega) (by omega)) qM_X8_20 qI_X8_copies qS_X8_copies qi_X8 qC_X8_copies (by decide +kernel) (by decide) (by decide) rl_0 (rd_0 (ca := ca) (ad := ad)) rfl (Nat.le_of_ble_eq_true rfl) (zk_void (fun μ4 hμ4 => ?_)) rfl
    obtain ⟨hμ4v, hμ4f⟩ := id hμ4
    have hv0 : rv μ4 0 = d := hμ4v.trans ((rv_gn hμ3g (by omega)).trans hk6)
    have hXe : rSt μ4 d n h L t := rSt_gn hXk (rGn_tr hμ3g (rGn_f0 hμ4f)) hv0
    refine z_iload_n hC dX8_fault_28 rfl ?_
    refine z_if_lt hC 37 dX8_fault_29 (by decide) (by omega) (fun c_5 => ?_) (fun c_5 => ?_)
    · refine z_iload_n hC dX8_fault_37 rfl ?_
      refine z_if_ne hC 48 dX8_fault_38 (by decide) (by omega) (fun c_6 => ?_) (fun c_6 => ?_)
      · refine z_iload_n hC dX8_fault_48 rfl ?_
        refine z_iconst hC dX8_fault_49 ?_
        refine z_icmp_ne hC 60 dX8_fault_50 (by decide) (by omega) (by omega) (fun c_7 => ?_) (fun c_7 => ?_)
        · unfold rTry at hμ3t
          rw [if_neg (by omega)] at hμ3t
          refine z_aload_n hC dX8_fault_60 rfl ?_
          refine z_get hC iA_X8 rfl 5 (by decide) qF_X8_162 rfl dX8_fault_61 rl_0 (rd_0 (ca := ca) (ad := ad)) rfl ?_
          refine z_top (b := (sTry L t L.toNat 0 d 0).2.2.2.2.2) (by rw [hμ4f.1 0 (by omega), hμ3t.2]) ?_
          exact z_iret hC dX8_fault_64 ⟨by unfold qFault; rw [if_neg (by omega), if_neg (by omega), if_neg (by omega), if_neg (by omega)], hXe⟩
        · unfold rTry at hμ3t
          rw [if_neg (by omega)] at hμ3t
          refine z_aload_n hC dX8_fault_53 rfl ?_
          refine z_get hC iA_X8 rfl 4 (by decide) qF_X8_159 rfl dX8_fault_54 rl_0 (rd_0 (ca := ca) (ad := ad)) rfl ?_
          refine z_top (b := (sTry L t L.toNat 0 d 0).2.2.2.2.1) (by rw [hμ4f.1 0 (by omega), hμ3t.1]) ?_
          refine z_goto hC 64 dX8_fault_57 (by decide) ?_
          exact z_iret hC dX8_fault_64 ⟨by unfold qFault; rw [if_neg (by omega), if_neg (by omega), if_neg (by omega), if_pos (by omega)], hXe⟩
      · refine z_iload_n hC dX8_fault_41 rfl ?_
        refine z_ineg hC dX8_fault_42 ?_
        refine z_iconst hC dX8_fault_43 ?_
        refine z_isub hC dX8_fault_44 ?_
        refine z_goto hC 64 dX8_fault_45 (by decide) ?_
        refine z_top (b := (sTry L t L.toNat 0 d 0).2.2.2.1) (by omega) ?_
        exact z_iret hC dX8_fault_64 ⟨by unfold qFault; rw [if_neg (by omega), if_neg (by omega), if_pos (by omega)], hXe⟩
    · refine z_ldc hC (-1000004) qc_X8_130 rfl dX8_fault_32 ?_
      refine z_goto hC 64 dX8_fault_34 (by decide) ?_
      exact z_iret hC dX8_fault_64 ⟨by unfold qFault; rw [if_neg (by omega), if_pos (by omega)], hXe⟩
  · refine z_ldc hC (-1000001) qc_X8_24 rfl dX8_fault_9 ?_
    exact z_iret hC dX8_fault_11 ⟨by unfold qFault; rw [if_pos (by omega)], hX⟩

set_option maxHeartbeats 4000000 in
set_option maxRecDepth 100000 in
/-- play() -/
theorem m_X8_play (l : Launch) (G : va_G) (ca : Nat → ClassId) (ad : Int → Nat) (A : Nat → Prop) (μ : zM) (d : zM) (n : Int) (h : Int → zM) (L : Int) (t : Int → Int) (hX : rSt μ d n h L t) (hI : zInv d) (hOb : zObOK) (hOb2 : zObLow) : zMet l (rω G ca ad) A yX8_play cX8_play 2 (some .int) 10 233 [.ref (ad 0)] μ (zpI (.int (iZ (opPlay d L t).1)) (fun μ' => rStK μ' (sKeep (opPlay d L t) d n h) L t)) := by
  refine zMet_of (by decide) (Nat.le_of_ble_eq_true rfl) (fun Γ hC => ?_)
  show Z Γ _ μ 0 [(0, .ref (ad 0))] []
  obtain ⟨hB, hf5, hf6, hIF, hIS, hII, hIL⟩ := id hI
  obtain ⟨hN, hP, hB3, hB4⟩ := id hB
  obtain ⟨hN1, hN2⟩ := id hN
  refine z_aload_n hC dX8_play_0 rfl ?_
  refine z_callV hC [] 0 rfl dX8_play_1 (fun l => m_X8_keeps l G ca ad _ μ) qM_X8_109 qI_X8_keeps qS_X8_keeps qi_X8 qC_X8_keeps (by decide +kernel) (by decide) (by decide) rl_0 (rd_0 (ca := ca) (ad := ad)) rfl (Nat.le_of_ble_eq_true rfl) (zk_void (fun μ1 hμ1 => ?_)) rfl
  obtain ⟨hμ1v, hμ1f⟩ := id hμ1
  have hk0 : rv μ1 0 = d := (rF1_v hμ1f (by omega)).trans hX.1
  have hk6 : rv μ1 6 = d := hμ1v.trans hX.1
  have hXk : rSt μ1 d n h L t := rSt_f6 hX hμ1f
  refine z_aload_n hC dX8_play_4 rfl ?_
  obtain ⟨mm, hmm⟩ : ∃ mm, mm = sMany (sTry L t L.toNat 0 d 0) := ⟨_, rfl⟩
  refine z_callV hC [] 0 rfl dX8_play_5 (fun l => m_X8_goesOn l G ca ad _ μ1 L t hXk.2.2 d hk0 hI hOb hOb2) qM_X8_168 qI_X8_goesOn qS_X8_goesOn qi_X8 qC_X8_goesOn (by decide +kernel) (by decide) (by decide) rl_0 (rd_0 (ca := ca) (ad := ad)) rfl (Nat.le_of_ble_eq_true rfl) (zk_int (fun μ2 hμ2 => ?_)) rfl
  obtain ⟨hμ2g, hμ2t, hμ201, hμ2m, hμ2b⟩ := id hμ2
  refine z_top hmm.symm ?_
  have hm9 : ((sTry L t L.toNat 0 d 0).1 = 1 ∧ mm = (sTry L t L.toNat 0 d 0).2.2.1) ∨ ((sTry L t L.toNat 0 d 0).1 = 0 ∧ mm = -(sTry L t L.toNat 0 d 0).2.2.2.1 - 1) := by
    rw [hmm]; unfold sMany
    rcases hμ201 with q | q
    · exact Or.inr ⟨q, if_neg (by omega)⟩
    · exact Or.inl ⟨q, if_pos q⟩
  refine z_istore_n hC dX8_play_8 (by decide) rfl ?_
  refine z_iload_n hC dX8_play_9 rfl ?_
  refine z_if_ge hC 23 dX8_play_10 (by decide) (by omega) (fun c_3 => ?_) (fun c_3 => ?_)
  · refine z_aload_n hC dX8_play_23 rfl ?_
    refine z_iload_n hC dX8_play_24 rfl ?_
    unfold rTry at hμ2t
    rw [if_pos (by omega)] at hμ2t
    have hHi : rHi μ2 n h := rHi_fr hXk.2.1 hμ2g.2.1 (fun x hx => hμ2g.2.2.2 x (by omega))
    have hv6 : rv μ2 6 = d := (rv_gn hμ2g (by omega)).trans hk6
    refine z_callV hC [.int (iZ mm)] 1 rfl dX8_play_25 (fun l => m_X8_acted l G ca ad _ μ2 mm (by omega) n h hHi) qM_X8_112 qI_X8_acted qS_X8_acted qi_X8 qC_X8_acted (by decide +kernel) (by decide) (by decide) rl_0 (rd_0 (ca := ca) (ad := ad)) rfl (Nat.le_of_ble_eq_true rfl) (zk_int (fun μ4 hμ4 => ?_)) rfl
    have e9 : opPlay d L t = (mm, (sTry L t L.toNat 0 d 0).2.1) := by unfold opPlay; rw [if_pos (by omega), show (sTry L t L.toNat 0 d 0).2.2.1 = mm by omega]
    unfold rAct at hμ4
    rw [if_pos (by omega)] at hμ4
    obtain ⟨a1, a2, a3, a4⟩ := hμ4
    rw [hv6] at a1
    refine z_iret hC dX8_play_28 ⟨by rw [e9], ?_⟩
    rw [e9]; unfold rStK sKeep; rw [if_neg (by omega)]
    exact ⟨a2.trans hμ2t, a1, rTx_fr (rTx_gn hXk.2.2 hμ2g) (a4 3 (by omega)) (a3 2 (by omega))⟩
  · refine z_aload_n hC dX8_play_13 rfl ?_
    refine z_bipush hC dX8_play_14 (by decide) ?_
    refine z_iconst hC dX8_play_16 ?_
    refine z_callV hC [.int (iZ 6), .int (iZ 0)] 2 rfl dX8_play_17 (fun l => m_X8_copies l G ca ad _ μ2 6 0 (by omega) (by omega) (by omega)) qM_X8_20 qI_X8_copies qS_X8_copies qi_X8 qC_X8_copies (by decide +kernel) (by decide) (by decide) rl_0 (rd_0 (ca := ca) (ad := ad)) rfl (Nat.le_of_ble_eq_true rfl) (zk_void (fun μ5 hμ5 => ?_)) rfl
    obtain ⟨hμ5v, hμ5f⟩ := id hμ5
    have hv0 : rv μ5 0 = d := hμ5v.trans ((rv_gn hμ2g (by omega)).trans hk6)
    have hXe : rSt μ5 d n h L t := rSt_gn hXk (rGn_tr hμ2g (rGn_f0 hμ5f)) hv0
    refine z_ldc hC (-1000002) qc_X8_101 rfl dX8_play_20 ?_
    have e9 : opPlay d L t = (-1000002, d) := by unfold opPlay; rw [if_neg (by omega)]
    exact z_iret hC dX8_play_22 ⟨by rw [e9], by rw [e9]; unfold rStK sKeep; rw [if_pos (by omega)]; exact hXe⟩
