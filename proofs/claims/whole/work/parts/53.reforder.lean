set_option maxHeartbeats 4000000 in
set_option maxRecDepth 100000 in
/-- order(c) -/
theorem m_X8_order (l : Launch) (G : va_G) (ca : Nat → ClassId) (ad : Int → Nat) (A : Nat → Prop) (μ : zM) (L : Int) (t : Int → Int) (hT : rTx μ L t) (st : Int) (h6 : μ 0 6 = st) (hst : 0 ≤ st ∧ st < L) (c : Int) (hc : c = cAt L t st) : zMet l (rω G ca ad) A yX8_order cX8_order 5 (some .boolean) 2 45 [.ref (ad 0), .int (iZ c)] μ (zpI (.int (iZ (zB ((sOrder L t st (μ 3)).1 = 1)))) (fun μ' => μ' 0 6 = (sOrder L t st (μ 3)).2.1 ∧ μ' 3 = (sOrder L t st (μ 3)).2.2 ∧ rFs μ μ')) := by
  refine zMet_of (by decide) (Nat.le_of_ble_eq_true rfl) (fun Γ hC => ?_)
  show Z Γ _ μ 0 [(0, .ref (ad 0)), (1, .int (iZ c))] []
  have hL := hT.2.1
  have hT0 := zTx_of hT
  have hcb9 := cAt_b hT0 st
  obtain ⟨w, hw⟩ : ∃ w, w = cNum c := ⟨_, rfl⟩
  have hcb := cNum_b c
  rw [← hw] at hcb
  have REST : Z Γ (rω G ca ad) μ 38 [(0, .ref (ad 0)), (1, .int (iZ c))] [.int (iZ w)] := by
    refine z_istore_n hC dX8_order_38 (by decide) rfl ?_
    refine z_iload_n hC dX8_order_39 rfl ?_
    refine z_if_ne hC 45 dX8_order_40 (by decide) (by omega) (fun c_1 => ?_) (fun c_1 => ?_)
    · obtain ⟨w1, hw1⟩ : ∃ w1, w.toNat = w1 + 1 := ⟨w.toNat - 1, by omega⟩
      have hS : sOrder L t st (μ 3) = sNums L t (w1 + 1) (st + 1) (μ 3) 0 := by unfold sOrder; rw [← hc, ← hw, if_neg (by omega), hw1]
      refine z_aload_n hC dX8_order_45 rfl ?_
      refine z_dup hC dX8_order_46 rfl ?_
      refine z_get hC iA_X8 rfl 6 (by decide) qF_X8_144 rfl dX8_order_47 rl_0 (rd_0 (ca := ca) (ad := ad)) rfl ?_
      refine z_top (b := st) (by rw [h6]) ?_
      refine z_iconst hC dX8_order_50 ?_
      refine z_iadd hC dX8_order_51 ?_
      refine z_put hC iA_X8 rfl tyX8 tyX8_ok nmX8 6 (by decide) rfl rfl 6 rfl qF_X8_144 rfl dX8_order_52 rl_0 (rd_0 (ca := ca) (ad := ad)) (fun _ => rfl) (fun _ => Nat.le_of_ble_eq_true rfl) ?_
      refine z_nm (fun μ2 hμ2 => ?_)
      refine z_iconst hC dX8_order_55 ?_
      refine z_istore_n hC dX8_order_56 (by decide) rfl ?_
      refine z_iconst hC dX8_order_57 ?_
      refine z_istore hC dX8_order_58 (by decide) rfl ?_
      have hT4 : rTx μ2 L t := rTx_fr hT (by rw [hμ2, zup_n (by omega)]) (by rw [hμ2, zup_o (by omega)])
      refine z_iload hC dX8_order_60 rfl ?_
      refine z_iload_n hC dX8_order_62 rfl ?_
      refine z_icmp_ge hC 105 dX8_order_63 (by decide) (by omega) (by omega) (fun c_3 => ?_) (fun c_3 => ?_)
      · exfalso; omega
      · refine z_iload_n hC dX8_order_66 rfl ?_
        refine z_if_eq hC 105 dX8_order_67 (by decide) (by omega) (fun c_4 => ?_) (fun c_4 => ?_)
        · exfalso; omega
        · refine z_iload hC dX8_order_70 rfl ?_
          refine z_if_eq hC 84 dX8_order_72 (by decide) (by omega) (fun c_5 => ?_) (fun c_5 => ?_)
          · refine z_aload_n hC dX8_order_84 rfl ?_
            refine z_iload hC dX8_order_85 rfl ?_
            have hb9 := sRd_3 hT0 (e := st + 1) (by omega)
            refine z_callV hC [.int (iZ 0)] 1 rfl dX8_order_87 (fun l => m_X8_number l G ca ad _ μ2 L t hT4 (st + 1) (by rw [hμ2, zup_s]) (by omega) 0 (by omega)) qM_X8_153 qI_X8_number qS_X8_number qi_X8 qC_X8_number (by decide +kernel) (by decide) (by decide) rl_0 (rd_0 (ca := ca) (ad := ad)) rfl (Nat.le_of_ble_eq_true rfl) (zk_int (fun μ6 hμ6 => ?_)) rfl
            obtain ⟨hμ6e, hμ6k, hμ6f⟩ := id hμ6
            have hT2 : rTx μ6 L t := rTx_fr hT4 (hμ6f 0 3 (by omega) (by omega)) (by funext i; exact hμ6f 2 i (by omega) (by omega))
            have hr3 : μ6 3 = fun j => if j = 0 then (sRd L t 3 (st + 1) 0).2 else μ 3 j := by
              funext j
              by_cases q : j = 0
              · rw [if_pos q, q]; exact hμ6k
              · rw [if_neg q, hμ6f 3 j (by omega) (by omega), hμ2, zup_o (by omega)]
            have hfs2 : rFs μ μ6 := fun c i q1 q2 => by rw [hμ6f c i (by omega) (by omega), hμ2, zup_n (by omega)]
            refine z_ifb_eq hC 97 dX8_order_90 (by decide) (fun c_7 => ?_) (fun c_7 => ?_)
            · refine z_iconst hC dX8_order_97 ?_
              refine z_istore_n hC dX8_order_98 (by decide) rfl ?_
              refine z_iinc hC dX8_order_99 rfl (by decide) rfl ?_
              refine z_goto hC 60 dX8_order_102 (by decide) ?_
              refine z_iload hC dX8_order_60 rfl ?_
              refine z_iload_n hC dX8_order_62 rfl ?_
              refine z_icmp_ge hC 105 dX8_order_63 (by decide) (by omega) (by omega) (fun c_8 => ?_) (fun c_8 => ?_)
              · refine z_iload_n hC dX8_order_105 rfl ?_
                refine z_if_eq hC 122 dX8_order_106 (by decide) (by omega) (fun c_9 => ?_) (fun c_9 => ?_)
                · refine z_iconst hC dX8_order_122 ?_
                  have q9 : (sRd L t 3 (st + 1) 0).1 = st + 1 := by omega
                  have hQ2 : sOrder L t st (μ 3) = (0, st + 1, fun j => if j = 0 then (sRd L t 3 (st + 1) 0).2 else μ 3 j) := hS.trans (sNums_e q9)
                  exact z_zret0 hC dX8_order_123 ⟨by rw [hQ2]; rfl, by rw [hQ2, hμ6e]; exact q9, by rw [hQ2]; exact hr3, hfs2⟩
                · exfalso; omega
              · refine z_iload_n hC dX8_order_66 rfl ?_
                refine z_if_eq hC 105 dX8_order_67 (by decide) (by omega) (fun c_10 => ?_) (fun c_10 => ?_)
                · refine z_iload_n hC dX8_order_105 rfl ?_
                  refine z_if_eq hC 122 dX8_order_106 (by decide) (by omega) (fun c_11 => ?_) (fun c_11 => ?_)
                  · refine z_iconst hC dX8_order_122 ?_
                    have q9 : (sRd L t 3 (st + 1) 0).1 = st + 1 := by omega
                    have hQ2 : sOrder L t st (μ 3) = (0, st + 1, fun j => if j = 0 then (sRd L t 3 (st + 1) 0).2 else μ 3 j) := hS.trans (sNums_e q9)
                    exact z_zret0 hC dX8_order_123 ⟨by rw [hQ2]; rfl, by rw [hQ2, hμ6e]; exact q9, by rw [hQ2]; exact hr3, hfs2⟩
                  · exfalso; omega
                · exfalso; omega
            · refine z_iconst hC dX8_order_93 ?_
              refine z_goto hC 98 dX8_order_94 (by decide) ?_
              refine z_istore_n hC dX8_order_98 (by decide) rfl ?_
              refine z_iinc hC dX8_order_99 rfl (by decide) rfl ?_
              refine z_goto hC 60 dX8_order_102 (by decide) ?_
              have LOOP : ∀ (r n : Nat), n + r = w.toNat → 1 ≤ n → ∀ (μ1 : zM) (e : Int), μ1 0 6 = e → (0 ≤ e ∧ e ≤ L) → sMid L t r e (μ1 3) (n : Int) = sOrder L t st (μ 3) → rFs μ μ1 → Z Γ (rω G ca ad) μ1 60 [(4, .int (iZ (n : Int))), (0, .ref (ad 0)), (1, .int (iZ c)), (2, .int (iZ w)), (3, .int (iZ 1))] [] := by
                intro r
                induction r with
                | zero =>
                  intro n hn hn1 μ1 e he6 heb hQ hfr
                  have hT1 := rTx_fs hT hfr
                  refine z_iload hC dX8_order_60 rfl ?_
                  refine z_iload_n hC dX8_order_62 rfl ?_
                  refine z_icmp_ge hC 105 dX8_order_63 (by decide) (by omega) (by omega) (fun c_12 => ?_) (fun c_12 => ?_)
                  · refine z_iload_n hC dX8_order_105 rfl ?_
                    refine z_if_eq hC 122 dX8_order_106 (by decide) (by omega) (fun c_13 => ?_) (fun c_13 => ?_)
                    · exfalso; omega
                    · refine z_aload_n hC dX8_order_109 rfl ?_
                      refine z_bipush hC dX8_order_110 (by decide) ?_
                      refine z_callV hC [.int (iZ 59)] 1 rfl dX8_order_112 (fun l => m_X8_takes l G ca ad _ μ1 L t hT1 e (by rw [he6]) (by omega) 59 (by omega)) qM_X8_150 qI_X8_takes qS_X8_takes qi_X8 qC_X8_takes (by decide +kernel) (by decide) (by decide) rl_0 (rd_0 (ca := ca) (ad := ad)) rfl (Nat.le_of_ble_eq_true rfl) (zk_int (fun μ14 hμ14 => ?_)) rfl
                      refine z_ifb_eq hC 122 dX8_order_115 (by decide) (fun c_15 => ?_) (fun c_15 => ?_)
                      · refine z_iconst hC dX8_order_122 ?_
                        rw [if_neg (by omega)] at hμ14
                        have hQ2 : sOrder L t st (μ 3) = (0, e, μ1 3) := hQ.symm.trans (sMid_n (m := 59) (if_pos rfl) (by omega))
                        exact z_zret0 hC dX8_order_123 ⟨by rw [hQ2]; rfl, by rw [hQ2, hμ14]; exact he6, by rw [hQ2, hμ14], by rw [hμ14]; exact hfr⟩
                      · refine z_iconst hC dX8_order_118 ?_
                        refine z_goto hC 123 dX8_order_119 (by decide) ?_
                        rw [if_pos (by omega)] at hμ14
                        have hQ2 : sOrder L t st (μ 3) = (1, e + 1, μ1 3) := hQ.symm.trans (sMid_p (m := 59) (if_pos rfl) (by omega))
                        exact z_zret1 hC dX8_order_123 ⟨by rw [hQ2]; rfl, by rw [hQ2, hμ14, zup_s], by rw [hQ2, hμ14, zup_o (by omega)], fun c i q1 q2 => by rw [hμ14, zup_n (by omega)]; exact hfr c i q1 q2⟩
                  · exfalso; omega
                | succ r ih =>
                  intro n hn hn1 μ1 e he6 heb hQ hfr
                  have hT1 := rTx_fs hT hfr
                  have hmk : (if r + 1 = 0 then (59 : Int) else 44) = 44 := if_neg (by omega)
                  refine z_iload hC dX8_order_60 rfl ?_
                  refine z_iload_n hC dX8_order_62 rfl ?_
                  refine z_icmp_ge hC 105 dX8_order_63 (by decide) (by omega) (by omega) (fun c_16 => ?_) (fun c_16 => ?_)
                  · exfalso; omega
                  · refine z_iload_n hC dX8_order_66 rfl ?_
                    refine z_if_eq hC 105 dX8_order_67 (by decide) (by omega) (fun c_17 => ?_) (fun c_17 => ?_)
                    · exfalso; omega
                    · refine z_iload hC dX8_order_70 rfl ?_
                      refine z_if_eq hC 84 dX8_order_72 (by decide) (by omega) (fun c_18 => ?_) (fun c_18 => ?_)
                      · exfalso; omega
                      · refine z_aload_n hC dX8_order_75 rfl ?_
                        refine z_bipush hC dX8_order_76 (by decide) ?_
                        refine z_callV hC [.int (iZ 44)] 1 rfl dX8_order_78 (fun l => m_X8_takes l G ca ad _ μ1 L t hT1 e (by rw [he6]) (by omega) 44 (by omega)) qM_X8_150 qI_X8_takes qS_X8_takes qi_X8 qC_X8_takes (by decide +kernel) (by decide) (by decide) rl_0 (rd_0 (ca := ca) (ad := ad)) rfl (Nat.le_of_ble_eq_true rfl) (zk_int (fun μ19 hμ19 => ?_)) rfl
                        refine z_ifb_eq hC 97 dX8_order_81 (by decide) (fun c_20 => ?_) (fun c_20 => ?_)
                        · rw [if_neg (by omega)] at hμ19
                          refine z_iconst hC dX8_order_97 ?_
                          refine z_istore_n hC dX8_order_98 (by decide) rfl ?_
                          refine z_iinc hC dX8_order_99 rfl (by decide) rfl ?_
                          refine z_goto hC 60 dX8_order_102 (by decide) ?_
                          refine z_iload hC dX8_order_60 rfl ?_
                          refine z_iload_n hC dX8_order_62 rfl ?_
                          refine z_icmp_ge hC 105 dX8_order_63 (by decide) (by omega) (by omega) (fun c_21 => ?_) (fun c_21 => ?_)
                          · refine z_iload_n hC dX8_order_105 rfl ?_
                            refine z_if_eq hC 122 dX8_order_106 (by decide) (by omega) (fun c_22 => ?_) (fun c_22 => ?_)
                            · refine z_iconst hC dX8_order_122 ?_
                              have hQ2 : sOrder L t st (μ 3) = (0, e, μ1 3) := hQ.symm.trans (sMid_n hmk (by omega))
                              exact z_zret0 hC dX8_order_123 ⟨by rw [hQ2]; rfl, by rw [hQ2, hμ19]; exact he6, by rw [hQ2, hμ19], by rw [hμ19]; exact hfr⟩
                            · exfalso; omega
                          · refine z_iload_n hC dX8_order_66 rfl ?_
                            refine z_if_eq hC 105 dX8_order_67 (by decide) (by omega) (fun c_23 => ?_) (fun c_23 => ?_)
                            · refine z_iload_n hC dX8_order_105 rfl ?_
                              refine z_if_eq hC 122 dX8_order_106 (by decide) (by omega) (fun c_24 => ?_) (fun c_24 => ?_)
                              · refine z_iconst hC dX8_order_122 ?_
                                have hQ2 : sOrder L t st (μ 3) = (0, e, μ1 3) := hQ.symm.trans (sMid_n hmk (by omega))
                                exact z_zret0 hC dX8_order_123 ⟨by rw [hQ2]; rfl, by rw [hQ2, hμ19]; exact he6, by rw [hQ2, hμ19], by rw [hμ19]; exact hfr⟩
                              · exfalso; omega
                            · exfalso; omega
                        · rw [if_pos (by omega)] at hμ19
                          have hT3 : rTx μ19 L t := rTx_fr hT1 (by rw [hμ19, zup_n (by omega)]) (by rw [hμ19, zup_o (by omega)])
                          have hin := cAt_in hT0 (i := e) (by omega)
                          refine z_aload_n hC dX8_order_84 rfl ?_
                          refine z_iload hC dX8_order_85 rfl ?_
                          have hb9 := sRd_3 hT0 (e := e + 1) (by omega)
                          refine z_callV hC [.int (iZ (n : Int))] 1 rfl dX8_order_87 (fun l => m_X8_number l G ca ad _ μ19 L t hT3 (e + 1) (by rw [hμ19, zup_s]) (by omega) (n : Int) (by omega)) qM_X8_153 qI_X8_number qS_X8_number qi_X8 qC_X8_number (by decide +kernel) (by decide) (by decide) rl_0 (rd_0 (ca := ca) (ad := ad)) rfl (Nat.le_of_ble_eq_true rfl) (zk_int (fun μ25 hμ25 => ?_)) rfl
                          obtain ⟨hμ25e, hμ25k, hμ25f⟩ := id hμ25
                          have hT2 : rTx μ25 L t := rTx_fr hT3 (hμ25f 0 3 (by omega) (by omega)) (by funext i; exact hμ25f 2 i (by omega) (by omega))
                          have hr3 : μ25 3 = fun j => if j = (n : Int) then (sRd L t 3 (e + 1) 0).2 else μ1 3 j := by
                            funext j
                            by_cases q : j = (n : Int)
                            · rw [if_pos q, q]; exact hμ25k
                            · rw [if_neg q, hμ25f 3 j (by omega) (by omega), hμ19, zup_o (by omega)]
                          have hfs2 : rFs μ μ25 := fun c i q1 q2 => by rw [hμ25f c i (by omega) (by omega), hμ19, zup_n (by omega), hfr c i (by omega) (by omega)]
                          refine z_ifb_eq hC 97 dX8_order_90 (by decide) (fun c_26 => ?_) (fun c_26 => ?_)
                          · refine z_iconst hC dX8_order_97 ?_
                            refine z_istore_n hC dX8_order_98 (by decide) rfl ?_
                            refine z_iinc hC dX8_order_99 rfl (by decide) rfl ?_
                            refine z_goto hC 60 dX8_order_102 (by decide) ?_
                            refine z_iload hC dX8_order_60 rfl ?_
                            refine z_iload_n hC dX8_order_62 rfl ?_
                            refine z_icmp_ge hC 105 dX8_order_63 (by decide) (by omega) (by omega) (fun c_27 => ?_) (fun c_27 => ?_)
                            · refine z_iload_n hC dX8_order_105 rfl ?_
                              refine z_if_eq hC 122 dX8_order_106 (by decide) (by omega) (fun c_28 => ?_) (fun c_28 => ?_)
                              · refine z_iconst hC dX8_order_122 ?_
                                have q9 : (sRd L t 3 (e + 1) 0).1 = e + 1 := by omega
                                have hQ2 : sOrder L t st (μ 3) = (0, e + 1, fun j => if j = (n : Int) then (sRd L t 3 (e + 1) 0).2 else μ1 3 j) := hQ.symm.trans ((sMid_p hmk (by omega)).trans (sNums_e q9))
                                exact z_zret0 hC dX8_order_123 ⟨by rw [hQ2]; rfl, by rw [hQ2, hμ25e]; exact q9, by rw [hQ2]; exact hr3, hfs2⟩
                              · exfalso; omega
                            · refine z_iload_n hC dX8_order_66 rfl ?_
                              refine z_if_eq hC 105 dX8_order_67 (by decide) (by omega) (fun c_29 => ?_) (fun c_29 => ?_)
                              · refine z_iload_n hC dX8_order_105 rfl ?_
                                refine z_if_eq hC 122 dX8_order_106 (by decide) (by omega) (fun c_30 => ?_) (fun c_30 => ?_)
                                · refine z_iconst hC dX8_order_122 ?_
                                  have q9 : (sRd L t 3 (e + 1) 0).1 = e + 1 := by omega
                                  have hQ2 : sOrder L t st (μ 3) = (0, e + 1, fun j => if j = (n : Int) then (sRd L t 3 (e + 1) 0).2 else μ1 3 j) := hQ.symm.trans ((sMid_p hmk (by omega)).trans (sNums_e q9))
                                  exact z_zret0 hC dX8_order_123 ⟨by rw [hQ2]; rfl, by rw [hQ2, hμ25e]; exact q9, by rw [hQ2]; exact hr3, hfs2⟩
                                · exfalso; omega
                              · exfalso; omega
                          · refine z_iconst hC dX8_order_93 ?_
                            refine z_goto hC 98 dX8_order_94 (by decide) ?_
                            refine z_istore_n hC dX8_order_98 (by decide) rfl ?_
                            refine z_iinc hC dX8_order_99 rfl (by decide) rfl ?_
                            refine z_goto hC 60 dX8_order_102 (by decide) ?_
                            refine z_weak (L' := [(4, .int (iZ ((n + 1 : Nat) : Int))), (0, .ref (ad 0)), (1, .int (iZ c)), (2, .int (iZ w)), (3, .int (iZ 1))]) ⟨rfl, rfl, rfl, rfl, rfl, trivial⟩ ?_
                            exact ih (n + 1) (by omega) (by omega) _ (sRd L t 3 (e + 1) 0).1 hμ25e (by omega) (by rw [← hQ, hr3, sMid_p hmk (by omega)]; exact (sNums_q (by omega)).symm) hfs2
              refine z_weak (L' := [(4, .int (iZ ((1 : Nat) : Int))), (0, .ref (ad 0)), (1, .int (iZ c)), (2, .int (iZ w)), (3, .int (iZ 1))]) ⟨rfl, rfl, rfl, rfl, rfl, trivial⟩ ?_
              exact LOOP w1 1 (by omega) (by omega) _ (sRd L t 3 (st + 1) 0).1 hμ6e (by omega) (by rw [hS, hr3]; exact (sNums_q (by omega)).symm) hfs2
          · exfalso; omega
    · refine z_iconst hC dX8_order_43 ?_
      have hQ2 : sOrder L t st (μ 3) = (0, st, μ 3) := by unfold sOrder; rw [← hc, ← hw, if_pos (by omega)]
      exact z_zret0 hC dX8_order_44 ⟨by rw [hQ2]; rfl, by rw [hQ2]; exact h6, by rw [hQ2], fun _ _ _ _ => rfl⟩
  refine z_iload_n hC dX8_order_0 rfl ?_
  refine z_bipush hC dX8_order_1 (by decide) ?_
  refine z_icmp_ne hC 10 dX8_order_3 (by decide) (by omega) (by omega) (fun c_31 => ?_) (fun c_31 => ?_)
  · refine z_iload_n hC dX8_order_10 rfl ?_
    refine z_bipush hC dX8_order_11 (by decide) ?_
    refine z_icmp_ne hC 21 dX8_order_13 (by decide) (by omega) (by omega) (fun c_32 => ?_) (fun c_32 => ?_)
    · refine z_iload_n hC dX8_order_21 rfl ?_
      refine z_bipush hC dX8_order_22 (by decide) ?_
      refine z_icmp_eq hC 33 dX8_order_24 (by decide) (by omega) (by omega) (fun c_33 => ?_) (fun c_33 => ?_)
      · refine z_iconst hC dX8_order_33 ?_
        refine z_goto hC 38 dX8_order_34 (by decide) ?_
        refine z_top (b := w) (by rw [hw]; unfold cNum; (repeat' split) <;> omega) REST
      · refine z_iload_n hC dX8_order_27 rfl ?_
        refine z_bipush hC dX8_order_28 (by decide) ?_
        refine z_icmp_ne hC 37 dX8_order_30 (by decide) (by omega) (by omega) (fun c_34 => ?_) (fun c_34 => ?_)
        · refine z_iconst hC dX8_order_37 ?_
          refine z_top (b := w) (by rw [hw]; unfold cNum; (repeat' split) <;> omega) REST
        · refine z_iconst hC dX8_order_33 ?_
          refine z_goto hC 38 dX8_order_34 (by decide) ?_
          refine z_top (b := w) (by rw [hw]; unfold cNum; (repeat' split) <;> omega) REST
    · refine z_bipush hC dX8_order_16 (by decide) ?_
      refine z_goto hC 38 dX8_order_18 (by decide) ?_
      refine z_top (b := w) (by rw [hw]; unfold cNum; (repeat' split) <;> omega) REST
  · refine z_iconst hC dX8_order_6 ?_
    refine z_goto hC 38 dX8_order_7 (by decide) ?_
    refine z_top (b := w) (by rw [hw]; unfold cNum; (repeat' split) <;> omega) REST
