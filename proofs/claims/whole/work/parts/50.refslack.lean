set_option maxHeartbeats 4000000 in
set_option maxRecDepth 100000 in
/-- slack -/
theorem m_X8_slack (l : Launch) (G : va_G) (ca : Nat → ClassId) (ad : Int → Nat) (A : Nat → Prop) (μ : zM) (d : zM) (n : Int) (h : Int → zM) (L : Int) (t : Int → Int) (hX : rSt μ d n h L t) (hI : zInv d) (k : Int) (hk : -2147483648 ≤ k ∧ k ≤ 2147483647) : zMet l (rω G ca ad) A yX8_slack cX8_slack 5 (some .int) 6 143 [.ref (ad 0), .int (iZ k)] μ (zpI (.int (iZ (qSlack d k))) (fun μ' => rSt μ' d n h L t)) := by
  refine zMet_of (by decide) (Nat.le_of_ble_eq_true rfl) (fun Γ hC => ?_)
  show Z Γ _ μ 0 [(0, .ref (ad 0)), (1, .int (iZ k))] []
  obtain ⟨hB, hf5, hf6, hIF, hIS, hII, hIL⟩ := id hI
  obtain ⟨hN, hP, hB3, hB4⟩ := id hB
  obtain ⟨hN1, hN2⟩ := id hN
  have hNe0 : 0 ≤ k ∧ k < d 0 4 → ((sNum d k : Nat) : Int) = d (6 + k) 6 := fun hk9 => sNum_e (hB3 k hk9).2.2.2.2.2.1
  refine z_aload_n hC dX8_slack_0 rfl ?_
  refine z_iload_n hC dX8_slack_1 rfl ?_
  refine z_callV hC [.int (iZ k)] 1 rfl dX8_slack_2 (fun l => m_X8_isShip l G ca ad _ μ d hX.1 k (by omega) (by omega)) qM_X8_91 qI_X8_isShip qS_X8_isShip qi_X8 qC_X8_isShip (by decide +kernel) (by decide) (by decide) rl_0 (rd_0 (ca := ca) (ad := ad)) rfl (Nat.le_of_ble_eq_true rfl) (zk_pure ?_) rfl
  refine z_ifb_ne hC 11 dX8_slack_5 (by decide) (fun c_1 => ?_) (fun c_1 => ?_)
  · obtain ⟨hs0, hs1, hs2, hs3, hs4, hs6⟩ := hB3 k (by omega)
    have hNe := hNe0 (by omega)
    refine z_aload_n hC dX8_slack_11 rfl ?_
    refine z_get hC iA_X8 rfl 0 (by decide) qF_X8_7 rfl dX8_slack_12 rl_0 (rd_0 (ca := ca) (ad := ad)) rfl ?_
    refine z_iconst hC dX8_slack_15 ?_
    refine z_iload_n hC dX8_slack_16 rfl ?_
    refine z_bipush hC dX8_slack_17 (by decide) ?_
    refine z_callS hC [.int (iZ 0), .int (iZ k), .int (iZ 6)] 3 rfl dX8_slack_19 (fun l => m_X8_shipAt l _ _ _ 0 k 6) qM_X8_37 qT_X8_shipAt qi_X8 qC_X8_shipAt (by decide +kernel) (by decide) (by decide) (Nat.le_of_ble_eq_true rfl) (zk_pure ?_) rfl
    refine z_iald hC dX8_slack_22 rl_1 (rd_1 (ca := ca) (ad := ad)) (by omega) (by omega) (by decide) ?_
    refine z_top (b := d (6 + k) 6) ((rv_ship (by omega) (by omega)).symm.trans (congrFun (congrFun hX.1 _) _)) ?_
    refine z_istore_n hC dX8_slack_23 (by decide) rfl ?_
    refine z_iload_n hC dX8_slack_24 rfl ?_
    refine z_if_ne hC 31 dX8_slack_25 (by decide) (by omega) (fun c_2 => ?_) (fun c_2 => ?_)
    · refine z_aload_n hC dX8_slack_31 rfl ?_
      refine z_iconst hC dX8_slack_32 ?_
      refine z_iconst hC dX8_slack_33 ?_
      refine z_callV hC [.int (iZ 0), .int (iZ 5)] 2 rfl dX8_slack_34 (fun l => m_X8_copies l G ca ad _ μ 0 5 (by omega) (by omega) (by omega)) qM_X8_20 qI_X8_copies qS_X8_copies qi_X8 qC_X8_copies (by decide +kernel) (by decide) (by decide) rl_0 (rd_0 (ca := ca) (ad := ad)) rfl (Nat.le_of_ble_eq_true rfl) (zk_void (fun μ3 hμ3 => ?_)) rfl
      obtain ⟨hμ3v, hμ3f⟩ := id hμ3
      refine z_iconst hC dX8_slack_37 ?_
      refine z_istore_n hC dX8_slack_38 (by decide) rfl ?_
      refine z_iconst hC dX8_slack_39 ?_
      refine z_istore hC dX8_slack_40 (by decide) rfl ?_
      refine z_iload hC dX8_slack_42 rfl ?_
      refine z_if_eq hC 106 dX8_slack_44 (by decide) (by omega) (fun c_4 => ?_) (fun c_4 => ?_)
      · exfalso; omega
      · have LOOP : ∀ (r n9 : Nat), n9 + r = 999 → ∀ (μ1 d5 : zM), d5 = sLater d k (n9 : Int) → (n9 : Int) ≤ sL d k (sNum d k) → rv μ1 5 = d5 → rS5 μ μ1 → Z Γ (rω G ca ad) μ1 47 [(3, .int (iZ (n9 : Int))), (4, .int (iZ 1)), (0, .ref (ad 0)), (1, .int (iZ k)), (2, .int (iZ (d (6 + k) 6)))] [] := by
          intro r
          induction r with
          | zero =>
            intro n9 hn μ1 d5 hd5 hj9 hd51 hfr
            have hd01 : rv μ1 0 = d := (rv_5 hfr (by omega)).trans hX.1
            refine z_iload_n hC dX8_slack_47 rfl ?_
            refine z_sipush hC dX8_slack_48 (by decide) ?_
            refine z_icmp_ge hC 106 dX8_slack_51 (by decide) (by omega) (by omega) (fun c_5 => ?_) (fun c_5 => ?_)
            · refine z_iload_n hC dX8_slack_106 rfl ?_
              have hdb := sSlk_b hI (k := k) (j := sL d k (sNum d k)) (by omega) (by omega) (Int.le_refl _)
              have e9 : qSlack d k = (n9 : Int) := by unfold qSlack; rw [if_neg (by omega)]; omega
              exact z_iret hC dX8_slack_107 ⟨by rw [e9], rSt_5 hX hfr⟩
            · exfalso; omega
          | succ r ih =>
            intro n9 hn μ1 d5 hd5 hj9 hd51 hfr
            have hd01 : rv μ1 0 = d := (rv_5 hfr (by omega)).trans hX.1
            refine z_iload_n hC dX8_slack_47 rfl ?_
            refine z_sipush hC dX8_slack_48 (by decide) ?_
            refine z_icmp_ge hC 106 dX8_slack_51 (by decide) (by omega) (by omega) (fun c_6 => ?_) (fun c_6 => ?_)
            · exfalso; omega
            · refine z_aload_n hC dX8_slack_54 rfl ?_
              refine z_get hC iA_X8 rfl 0 (by decide) qF_X8_7 rfl dX8_slack_55 rl_0 (rd_0 (ca := ca) (ad := ad)) rfl ?_
              refine z_iconst hC dX8_slack_58 ?_
              refine z_iload_n hC dX8_slack_59 rfl ?_
              refine z_iconst hC dX8_slack_60 ?_
              refine z_callS hC [.int (iZ 5), .int (iZ k), .int (iZ 4)] 3 rfl dX8_slack_61 (fun l => m_X8_shipAt l _ _ _ 5 k 4) qM_X8_37 qT_X8_shipAt qi_X8 qC_X8_shipAt (by decide +kernel) (by decide) (by decide) (Nat.le_of_ble_eq_true rfl) (zk_pure ?_) rfl
              refine z_dup2 hC dX8_slack_64 rfl rfl ?_
              refine z_iald hC dX8_slack_65 rl_1 (rd_1 (ca := ca) (ad := ad)) (by omega) (by omega) (by decide) ?_
              refine z_top (b := d5 (6 + k) 4) ((rv_ship (by omega) (by omega)).symm.trans (congrFun (congrFun hd51 _) _)) ?_
              refine z_iconst hC dX8_slack_66 ?_
              refine z_iadd hC dX8_slack_67 ?_
              refine z_iast hC dX8_slack_68 rl_1 (rd_1 (ca := ca) (ad := ad)) (by omega) (by omega) (by decide) ?_
              refine z_nm (fun μ7 hμ7 => ?_)
              have hd8 : rv μ7 0 = d := by rw [hμ7, rv_far (by omega)]; exact hd01
              obtain ⟨d10, hd10⟩ : ∃ q9 : zM, q9 = zup d5 (6 + k) 4 ((d5 (6 + k) 4) + 1) := ⟨_, rfl⟩
              have hd9 : rv μ7 5 = d10 := by rw [hμ7, rv_up (t := 5) (o := (6 + k)) (i := 4) (x := (190 * 5 + 17 + 18 * k + 4)) (by unfold zrel; omega) (by rw [rp_ship (by omega)]; omega), hd51, hd10]
              refine z_aload_n hC dX8_slack_69 rfl ?_
              refine z_iconst hC dX8_slack_70 ?_
              refine z_iload_n hC dX8_slack_71 rfl ?_
              have hL : d10 = sLater d k ((n9 : Int) + 1) := by rw [hd10, hd5]; show zup (zup d (6 + k) 4 (d (6 + k) 4 + (n9 : Int))) (6 + k) 4 ((zup d (6 + k) 4 (d (6 + k) 4 + (n9 : Int))) (6 + k) 4 + 1) = _; rw [zup_zup, zup_s, Int.add_assoc]; rfl
              have hdb := sSlk_b hI (k := k) (by omega) (by omega) hj9
              have hB9 : bD d10 := by rw [hL]; exact bD_later hB (by omega) (by omega) (by omega)
              have eo : ∀ o i, (o ≠ 6 + k ∨ i ≠ 4) → d10 o i = d o i := fun o i q => by rw [hL]; exact sLat_e q
              have hS9 : d10 0 4 = d 0 4 := eo _ _ (by omega)
              have hC9 : d10 0 5 = d 0 5 := eo _ _ (by omega)
              have hNn : sNum d10 k = sNum d k := by rw [hL]; exact sLat_n
              have hsk := sSlk hI (k := k) (j := (n9 : Int) + 1) (by omega) (by omega) (by omega)
              have hsb := sInT_b d10 k
              rw [← hL] at hsk
              have hF9 : fOk d10 k (sNum d10 k) := fun m hm => by rw [eo (11 + k) _ (by omega), hC9]; exact hIF k (by omega) _ (by omega)
              refine z_callV hC [.int (iZ 5), .int (iZ k)] 2 rfl dX8_slack_72 (fun l => m_X8_goesAll l G ca ad _ μ7 d hd8 5 (by omega) d10 hd9 (fun p => ⟨(eo 1 p (by omega)).symm, (eo 2 p (by omega)).symm⟩) hP k hB9 (by omega) hF9) qM_X8_87 qI_X8_goesAll qS_X8_goesAll qi_X8 qC_X8_goesAll (by decide +kernel) (by decide) (by decide) rl_0 (rd_0 (ca := ca) (ad := ad)) rfl (Nat.le_of_ble_eq_true rfl) (zk_void (fun μ11 hμ11 => ?_)) rfl
              obtain ⟨hμ11f, hμ1112, hμ1113, hμ1114, hμ1115⟩ := id hμ11
              refine z_aload_n hC dX8_slack_75 rfl ?_
              refine z_get hC iA_X8 rfl 15 (by decide) qF_X8_72 rfl dX8_slack_76 rl_0 (rd_0 (ca := ca) (ad := ad)) rfl ?_
              refine z_top (b := ((sInT d10 k : Nat) : Int)) (by rw [hμ1115]) ?_
              refine z_iload_n hC dX8_slack_79 rfl ?_
              refine z_icmp_ne hC 87 dX8_slack_80 (by decide) (by omega) (by omega) (fun c_12 => ?_) (fun c_12 => ?_)
              · refine z_iconst hC dX8_slack_87 ?_
                refine z_istore hC dX8_slack_88 (by decide) rfl ?_
                refine z_iload_n hC dX8_slack_90 rfl ?_
                refine z_iload hC dX8_slack_91 rfl ?_
                refine z_if_eq hC 100 dX8_slack_93 (by decide) (by omega) (fun c_13 => ?_) (fun c_13 => ?_)
                · refine z_iconst hC dX8_slack_100 ?_
                  refine z_iadd hC dX8_slack_101 ?_
                  refine z_istore_n hC dX8_slack_102 (by decide) rfl ?_
                  refine z_goto hC 42 dX8_slack_103 (by decide) ?_
                  refine z_iload hC dX8_slack_42 rfl ?_
                  refine z_if_eq hC 106 dX8_slack_44 (by decide) (by omega) (fun c_14 => ?_) (fun c_14 => ?_)
                  · refine z_iload_n hC dX8_slack_106 rfl ?_
                    have e9 : qSlack d k = (n9 : Int) + 0 := by unfold qSlack; rw [if_neg (by omega)]; omega
                    exact z_iret hC dX8_slack_107 ⟨by rw [e9], rSt_5 hX (rS5_tr hfr (rS5_tr (rS5_f1 (by rw [hμ7]; exact rF1_up (rF1_rf 5 _) (by omega))) (rS5_fr hμ11f)))⟩
                  · exfalso; omega
                · exfalso; omega
              · refine z_iconst hC dX8_slack_83 ?_
                refine z_goto hC 88 dX8_slack_84 (by decide) ?_
                refine z_istore hC dX8_slack_88 (by decide) rfl ?_
                refine z_iload_n hC dX8_slack_90 rfl ?_
                refine z_iload hC dX8_slack_91 rfl ?_
                refine z_if_eq hC 100 dX8_slack_93 (by decide) (by omega) (fun c_15 => ?_) (fun c_15 => ?_)
                · exfalso; omega
                · refine z_iconst hC dX8_slack_96 ?_
                  refine z_goto hC 101 dX8_slack_97 (by decide) ?_
                  refine z_iadd hC dX8_slack_101 ?_
                  refine z_istore_n hC dX8_slack_102 (by decide) rfl ?_
                  refine z_goto hC 42 dX8_slack_103 (by decide) ?_
                  refine z_iload hC dX8_slack_42 rfl ?_
                  refine z_if_eq hC 106 dX8_slack_44 (by decide) (by omega) (fun c_16 => ?_) (fun c_16 => ?_)
                  · exfalso; omega
                  · refine z_weak (L' := [(3, .int (iZ ((n9 + 1 : Nat) : Int))), (4, .int (iZ 1)), (0, .ref (ad 0)), (1, .int (iZ k)), (2, .int (iZ (d (6 + k) 6)))]) ⟨rfl, rfl, rfl, rfl, rfl, trivial⟩ ?_
                    exact ih (n9 + 1) (by omega) μ11 (sLater d k ((n9 : Int) + 1)) (by rw [Int.natCast_add]; rfl) (by omega) ((rv_fr hμ11f).trans (hd9.trans hL)) (rS5_tr hfr (rS5_tr (rS5_f1 (by rw [hμ7]; exact rF1_up (rF1_rf 5 _) (by omega))) (rS5_fr hμ11f)))
        refine z_weak (L' := [(3, .int (iZ ((0 : Nat) : Int))), (4, .int (iZ 1)), (0, .ref (ad 0)), (1, .int (iZ k)), (2, .int (iZ (d (6 + k) 6)))]) ⟨rfl, rfl, rfl, rfl, rfl, trivial⟩ ?_
        have hNe := sNum_e (d := d) (k := k) (by omega)
        have hL0 := sL_0 hI (k := k) (by omega) (by omega)
        exact LOOP 999 0 (by omega) μ3 d (zup_id (by omega)).symm (by omega) (hμ3v.trans hX.1) (rS5_f1 hμ3f)
    · refine z_ldc hC (-1000004) qc_X8_130 rfl dX8_slack_28 ?_
      have hN9 : sNum d k = 0 := by unfold sNum; omega
      exact z_iret hC dX8_slack_30 ⟨by unfold qSlack; rw [if_neg (by omega), hN9]; rfl, hX⟩
  · refine z_ldc hC (-1000001) qc_X8_24 rfl dX8_slack_8 ?_
    exact z_iret hC dX8_slack_10 ⟨by unfold qSlack; rw [if_pos (by omega)], hX⟩
