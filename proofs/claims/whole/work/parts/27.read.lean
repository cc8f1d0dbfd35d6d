set_option maxHeartbeats 4000000 in
set_option maxRecDepth 100000 in
/-- read(st) -/
theorem m_X5_read (l : Launch) (G : va_G) (ca : Nat → ClassId) (ad : Int → Nat) (A : Nat → Prop) (μ : zM) (L : Int) (t : Int → Int) (hT : zTx μ L t) (st : Int) (hst : 0 ≤ st ∧ st < L) : zMet l (cω G ca ad) A yX5_read cX5_read 5 (some .boolean) 3 66 [.ref (ad 159), .int (iZ st)] μ (zpI (.int (iZ (zB ((sOrder L t st (μ 161)).1 = 1)))) (fun μ' => μ' 159 4 = (sOrder L t st (μ 161)).2.1 ∧ μ' 159 2 = cAt L t st ∧ μ' 161 = (sOrder L t st (μ 161)).2.2 ∧ zFs μ μ')) := by
  refine zMet_of (by decide) (Nat.le_of_ble_eq_true rfl) (fun Γ hC => ?_)
  show Z Γ _ μ 0 [(0, .ref (ad 159)), (1, .int (iZ st))] []
  have hL := hT.2.1
  refine z_aload_n hC dX5_read_0 rfl ?_
  refine z_iload_n hC dX5_read_1 rfl ?_
  refine z_put hC iA_X5 rfl tyX5 tyX5_ok nmX5 4 (by decide) rfl rfl 4 rfl qF_X5_23 rfl dX5_read_2 cl_script (cd_script (ca := ca) (ad := ad)) (fun _ => rfl) (fun _ => Nat.le_of_ble_eq_true rfl) ?_
  refine z_nm (fun μ1 hμ1 => ?_)
  have hT2 : zTx μ1 L t := zTx_fs hT (fun c i q1 q2 => by rw [hμ1, zup_n (by omega)])
  refine z_aload_n hC dX5_read_5 rfl ?_
  refine z_aload_n hC dX5_read_6 rfl ?_
  refine z_aload_n hC dX5_read_7 rfl ?_
  refine z_get hC iA_X5 rfl 4 (by decide) qF_X5_23 rfl dX5_read_8 cl_script (cd_script (ca := ca) (ad := ad)) rfl ?_
  refine z_top (by rw [hμ1, zup_s]) ?_
  refine z_callV hC [.int (iZ st)] 1 rfl dX5_read_11 (fun l => m_X5_at l G ca ad _ μ1 L t hT2 st (by omega)) qM_X5_26 qI_X5_at qS_X5_at qi_X5 qC_X5_at (by decide +kernel) (by decide) (by decide) cl_script (cd_script (ca := ca) (ad := ad)) rfl (Nat.le_of_ble_eq_true rfl) (zk_pure ?_) rfl
  have hc3 := cAt_b hT st
  obtain ⟨c, hc⟩ : ∃ c, c = cAt L t st := ⟨_, rfl⟩
  refine z_top hc.symm ?_
  have hcb9 := cAt_b hT st
  refine z_putc hC iA_X5 rfl tyX5 tyX5_ok nmX5 2 (by decide) rfl rfl 2 rfl qF_X5_30 rfl dX5_read_14 cl_script (cd_script (ca := ca) (ad := ad)) (by omega) (fun _ => rfl) (fun _ => Nat.le_of_ble_eq_true rfl) ?_
  refine z_nm (fun μ4 hμ4 => ?_)
  refine z_aload_n hC dX5_read_17 rfl ?_
  refine z_get hC iA_X5 rfl 2 (by decide) qF_X5_30 rfl dX5_read_18 cl_script (cd_script (ca := ca) (ad := ad)) rfl ?_
  refine z_top (by rw [hμ4, zup_s]) ?_
  have hcb := cNum_b (c)
  refine z_callS hC [.int (iZ c)] 1 rfl dX5_read_21 (fun l => m_X5_numbersOf l _ _ _ (c) (by omega)) qM_X5_34 qT_X5_numbersOf qi_X5 qC_X5_numbersOf (by decide +kernel) (by decide) (by decide) (Nat.le_of_ble_eq_true rfl) (zk_pure ?_) rfl
  obtain ⟨w, hw⟩ : ∃ w, w = cNum c := ⟨_, rfl⟩
  refine z_top hw.symm ?_
  rw [← hw] at hcb
  refine z_istore_n hC dX5_read_24 (by decide) rfl ?_
  refine z_iload_n hC dX5_read_25 rfl ?_
  refine z_if_ne hC 31 dX5_read_26 (by decide) (by omega) (fun c_5 => ?_) (fun c_5 => ?_)
  · refine z_aload_n hC dX5_read_31 rfl ?_
    refine z_dup hC dX5_read_32 rfl ?_
    refine z_get hC iA_X5 rfl 4 (by decide) qF_X5_23 rfl dX5_read_33 cl_script (cd_script (ca := ca) (ad := ad)) rfl ?_
    refine z_top (by rw [hμ4, zup_n (by omega), hμ1, zup_s]) ?_
    refine z_iconst hC dX5_read_36 ?_
    refine z_iadd hC dX5_read_37 ?_
    refine z_put hC iA_X5 rfl tyX5 tyX5_ok nmX5 4 (by decide) rfl rfl 4 rfl qF_X5_23 rfl dX5_read_38 cl_script (cd_script (ca := ca) (ad := ad)) (fun _ => rfl) (fun _ => Nat.le_of_ble_eq_true rfl) ?_
    refine z_nm (fun μ6 hμ6 => ?_)
    refine z_iconst hC dX5_read_41 ?_
    refine z_istore_n hC dX5_read_42 (by decide) rfl ?_
    have LOOP : ∀ (r n : Nat), n + r = w.toNat → ∀ (μ1 : zM) (e : Int), μ1 159 4 = e → (0 ≤ e ∧ e ≤ L) → sNums L t r e (μ1 161) (n : Int) = sOrder L t st (μ 161) → μ1 159 2 = c → zFs μ μ1 → Z Γ (cω G ca ad) μ1 43 [(3, .int (iZ (n : Int))), (0, .ref (ad 159)), (2, .int (iZ w))] [] := by
      intro r
      induction r with
      | zero =>
        intro n hn μ1 e he4 heb hQ hk2 hfr
        have hT1 := zTx_fs hT hfr
        refine z_iload_n hC dX5_read_43 rfl ?_
        refine z_iload_n hC dX5_read_44 rfl ?_
        refine z_icmp_ge hC 103 dX5_read_45 (by decide) (by omega) (by omega) (fun c_7 => ?_) (fun c_7 => ?_)
        · refine z_iconst hC dX5_read_103 ?_
          obtain rfl : n = w.toNat := by omega
          exact z_zret1 hC dX5_read_104 ⟨by rw [← hQ]; rfl, by rw [← hQ]; exact he4, hk2.trans hc, by rw [← hQ]; rfl, hfr⟩
        · exfalso; omega
      | succ r ih =>
        intro n hn μ1 e he4 heb hQ hk2 hfr
        have hT1 := zTx_fs hT hfr
        have hb9 := sRd_3 hT heb.1
        refine z_iload_n hC dX5_read_43 rfl ?_
        refine z_iload_n hC dX5_read_44 rfl ?_
        refine z_icmp_ge hC 103 dX5_read_45 (by decide) (by omega) (by omega) (fun c_8 => ?_) (fun c_8 => ?_)
        · exfalso; omega
        · refine z_iload_n hC dX5_read_48 rfl ?_
          refine z_iload_n hC dX5_read_49 rfl ?_
          refine z_iconst hC dX5_read_50 ?_
          refine z_isub hC dX5_read_51 ?_
          refine z_icmp_ge hC 60 dX5_read_52 (by decide) (by omega) (by omega) (fun c_9 => ?_) (fun c_9 => ?_)
          · have hmk : (if r = 0 then (59 : Int) else 44) = 59 := by rw [if_pos (by omega)]
            refine z_bipush hC dX5_read_60 (by decide) ?_
            refine z_istore hC dX5_read_62 (by decide) rfl ?_
            refine z_aload_n hC dX5_read_64 rfl ?_
            refine z_iload_n hC dX5_read_65 rfl ?_
            refine z_callV hC [.int (iZ (n : Int))] 1 rfl dX5_read_66 (fun l => m_X5_readNumber l G ca ad _ μ1 L t hT1 e (n : Int) he4 (by omega) (by omega)) qM_X5_38 qI_X5_readNumber qS_X5_readNumber qi_X5 qC_X5_readNumber (by decide +kernel) (by decide) (by decide) cl_script (cd_script (ca := ca) (ad := ad)) rfl (Nat.le_of_ble_eq_true rfl) (zk_int (fun μ10 hμ10 => ?_)) rfl
            obtain ⟨hμ10e, hμ10k, hμ10f⟩ := id hμ10
            have hT2 : zTx μ10 L t := zTx_fr hT1 (hμ10f 159 1 (by omega) (by omega)) (fun i _ => hμ10f 160 i (by omega) (by omega))
            have hr161 : μ10 161 = fun j => if j = (n : Int) then (sRd L t 3 e 0).2 else μ1 161 j := by
              funext j
              by_cases q : j = (n : Int)
              · rw [if_pos q, q]; exact hμ10k
              · rw [if_neg q]; exact hμ10f 161 j (by omega) (by omega)
            have hkd : μ10 159 2 = c := by rw [hμ10f 159 2 (by omega) (by omega)]; exact hk2
            have hfr2 : zFs μ μ10 := fun c i q1 q2 => by rw [hμ10f c i (by omega) (by omega)]; exact hfr c i q1 q2
            refine z_ifb_eq hC 85 dX5_read_69 (by decide) (fun c_11 => ?_) (fun c_11 => ?_)
            · refine z_iconst hC dX5_read_85 ?_
              by_cases qe : (sRd L t 3 e 0).1 = e
              · have hQ2 := (sNums_e (L := L) (t := t) (r := r) (e := e) (k := (n : Int)) (f := μ1 161) qe).symm.trans hQ
                exact z_zret0 hC dX5_read_86 ⟨by rw [← hQ2]; rfl, by rw [← hQ2, hμ10e]; exact qe, hkd.trans hc, by rw [← hQ2]; exact hr161, hfr2⟩
              · have hQ2 := (sNums_m (L := L) (t := t) (r := r) (e := e) (k := (n : Int)) (f := μ1 161) qe (by rw [hmk]; omega)).symm.trans hQ
                exact z_zret0 hC dX5_read_86 ⟨by rw [← hQ2]; rfl, by rw [← hQ2]; exact hμ10e, hkd.trans hc, by rw [← hQ2]; exact hr161, hfr2⟩
            · refine z_aload_n hC dX5_read_72 rfl ?_
              refine z_aload_n hC dX5_read_73 rfl ?_
              refine z_get hC iA_X5 rfl 4 (by decide) qF_X5_23 rfl dX5_read_74 cl_script (cd_script (ca := ca) (ad := ad)) rfl ?_
              refine z_top (b := (sRd L t 3 e 0).1) (by rw [hμ10e]) ?_
              refine z_callV hC [.int (iZ ((sRd L t 3 e 0).1))] 1 rfl dX5_read_77 (fun l => m_X5_at l G ca ad _ μ10 L t hT2 ((sRd L t 3 e 0).1) (by omega)) qM_X5_26 qI_X5_at qS_X5_at qi_X5 qC_X5_at (by decide +kernel) (by decide) (by decide) cl_script (cd_script (ca := ca) (ad := ad)) rfl (Nat.le_of_ble_eq_true rfl) (zk_pure ?_) rfl
              have hc12 := cAt_b hT ((sRd L t 3 e 0).1)
              refine z_iload hC dX5_read_80 rfl ?_
              refine z_icmp_eq hC 87 dX5_read_82 (by decide) (by omega) (by omega) (fun c_13 => ?_) (fun c_13 => ?_)
              · refine z_aload_n hC dX5_read_87 rfl ?_
                refine z_dup hC dX5_read_88 rfl ?_
                refine z_get hC iA_X5 rfl 4 (by decide) qF_X5_23 rfl dX5_read_89 cl_script (cd_script (ca := ca) (ad := ad)) rfl ?_
                refine z_top (b := (sRd L t 3 e 0).1) (by rw [hμ10e]) ?_
                refine z_iconst hC dX5_read_92 ?_
                refine z_iadd hC dX5_read_93 ?_
                refine z_put hC iA_X5 rfl tyX5 tyX5_ok nmX5 4 (by decide) rfl rfl 4 rfl qF_X5_23 rfl dX5_read_94 cl_script (cd_script (ca := ca) (ad := ad)) (fun _ => rfl) (fun _ => Nat.le_of_ble_eq_true rfl) ?_
                refine z_nm (fun μ14 hμ14 => ?_)
                refine z_iinc hC dX5_read_97 rfl (by decide) rfl ?_
                refine z_goto hC 43 dX5_read_100 (by decide) ?_
                refine z_weak (L' := [(3, .int (iZ ((n + 1 : Nat) : Int))), (0, .ref (ad 159)), (2, .int (iZ w))]) ⟨rfl, rfl, rfl, trivial⟩ ?_
                have hin := cAt_in hT (i := (sRd L t 3 e 0).1) (by omega)
                exact ih (n + 1) (by omega) _ ((sRd L t 3 e 0).1 + 1) (by rw [hμ14, zup_s]) (by omega) (by rw [← hQ, hμ14, zup_o (by omega), hr161]; exact (sNums_s (by omega) (by rw [hmk]; omega)).symm) (by rw [hμ14, zup_n (by omega)]; exact hkd) (fun c i q1 q2 => by rw [hμ14, zup_n (by omega)]; exact hfr2 c i q1 q2)
              · refine z_iconst hC dX5_read_85 ?_
                by_cases qe : (sRd L t 3 e 0).1 = e
                · have hQ2 := (sNums_e (L := L) (t := t) (r := r) (e := e) (k := (n : Int)) (f := μ1 161) qe).symm.trans hQ
                  exact z_zret0 hC dX5_read_86 ⟨by rw [← hQ2]; rfl, by rw [← hQ2, hμ10e]; exact qe, hkd.trans hc, by rw [← hQ2]; exact hr161, hfr2⟩
                · have hQ2 := (sNums_m (L := L) (t := t) (r := r) (e := e) (k := (n : Int)) (f := μ1 161) qe (by rw [hmk]; omega)).symm.trans hQ
                  exact z_zret0 hC dX5_read_86 ⟨by rw [← hQ2]; rfl, by rw [← hQ2]; exact hμ10e, hkd.trans hc, by rw [← hQ2]; exact hr161, hfr2⟩
          · have hmk : (if r = 0 then (59 : Int) else 44) = 44 := by rw [if_neg (by omega)]
            refine z_bipush hC dX5_read_55 (by decide) ?_
            refine z_goto hC 62 dX5_read_57 (by decide) ?_
            refine z_istore hC dX5_read_62 (by decide) rfl ?_
            refine z_aload_n hC dX5_read_64 rfl ?_
            refine z_iload_n hC dX5_read_65 rfl ?_
            refine z_callV hC [.int (iZ (n : Int))] 1 rfl dX5_read_66 (fun l => m_X5_readNumber l G ca ad _ μ1 L t hT1 e (n : Int) he4 (by omega) (by omega)) qM_X5_38 qI_X5_readNumber qS_X5_readNumber qi_X5 qC_X5_readNumber (by decide +kernel) (by decide) (by decide) cl_script (cd_script (ca := ca) (ad := ad)) rfl (Nat.le_of_ble_eq_true rfl) (zk_int (fun μ15 hμ15 => ?_)) rfl
            obtain ⟨hμ15e, hμ15k, hμ15f⟩ := id hμ15
            have hT2 : zTx μ15 L t := zTx_fr hT1 (hμ15f 159 1 (by omega) (by omega)) (fun i _ => hμ15f 160 i (by omega) (by omega))
            have hr161 : μ15 161 = fun j => if j = (n : Int) then (sRd L t 3 e 0).2 else μ1 161 j := by
              funext j
              by_cases q : j = (n : Int)
              · rw [if_pos q, q]; exact hμ15k
              · rw [if_neg q]; exact hμ15f 161 j (by omega) (by omega)
            have hkd : μ15 159 2 = c := by rw [hμ15f 159 2 (by omega) (by omega)]; exact hk2
            have hfr2 : zFs μ μ15 := fun c i q1 q2 => by rw [hμ15f c i (by omega) (by omega)]; exact hfr c i q1 q2
            refine z_ifb_eq hC 85 dX5_read_69 (by decide) (fun c_16 => ?_) (fun c_16 => ?_)
            · refine z_iconst hC dX5_read_85 ?_
              by_cases qe : (sRd L t 3 e 0).1 = e
              · have hQ2 := (sNums_e (L := L) (t := t) (r := r) (e := e) (k := (n : Int)) (f := μ1 161) qe).symm.trans hQ
                exact z_zret0 hC dX5_read_86 ⟨by rw [← hQ2]; rfl, by rw [← hQ2, hμ15e]; exact qe, hkd.trans hc, by rw [← hQ2]; exact hr161, hfr2⟩
              · have hQ2 := (sNums_m (L := L) (t := t) (r := r) (e := e) (k := (n : Int)) (f := μ1 161) qe (by rw [hmk]; omega)).symm.trans hQ
                exact z_zret0 hC dX5_read_86 ⟨by rw [← hQ2]; rfl, by rw [← hQ2]; exact hμ15e, hkd.trans hc, by rw [← hQ2]; exact hr161, hfr2⟩
            · refine z_aload_n hC dX5_read_72 rfl ?_
              refine z_aload_n hC dX5_read_73 rfl ?_
              refine z_get hC iA_X5 rfl 4 (by decide) qF_X5_23 rfl dX5_read_74 cl_script (cd_script (ca := ca) (ad := ad)) rfl ?_
              refine z_top (b := (sRd L t 3 e 0).1) (by rw [hμ15e]) ?_
              refine z_callV hC [.int (iZ ((sRd L t 3 e 0).1))] 1 rfl dX5_read_77 (fun l => m_X5_at l G ca ad _ μ15 L t hT2 ((sRd L t 3 e 0).1) (by omega)) qM_X5_26 qI_X5_at qS_X5_at qi_X5 qC_X5_at (by decide +kernel) (by decide) (by decide) cl_script (cd_script (ca := ca) (ad := ad)) rfl (Nat.le_of_ble_eq_true rfl) (zk_pure ?_) rfl
              have hc17 := cAt_b hT ((sRd L t 3 e 0).1)
              refine z_iload hC dX5_read_80 rfl ?_
              refine z_icmp_eq hC 87 dX5_read_82 (by decide) (by omega) (by omega) (fun c_18 => ?_) (fun c_18 => ?_)
              · refine z_aload_n hC dX5_read_87 rfl ?_
                refine z_dup hC dX5_read_88 rfl ?_
                refine z_get hC iA_X5 rfl 4 (by decide) qF_X5_23 rfl dX5_read_89 cl_script (cd_script (ca := ca) (ad := ad)) rfl ?_
                refine z_top (b := (sRd L t 3 e 0).1) (by rw [hμ15e]) ?_
                refine z_iconst hC dX5_read_92 ?_
                refine z_iadd hC dX5_read_93 ?_
                refine z_put hC iA_X5 rfl tyX5 tyX5_ok nmX5 4 (by decide) rfl rfl 4 rfl qF_X5_23 rfl dX5_read_94 cl_script (cd_script (ca := ca) (ad := ad)) (fun _ => rfl) (fun _ => Nat.le_of_ble_eq_true rfl) ?_
                refine z_nm (fun μ19 hμ19 => ?_)
                refine z_iinc hC dX5_read_97 rfl (by decide) rfl ?_
                refine z_goto hC 43 dX5_read_100 (by decide) ?_
                refine z_weak (L' := [(3, .int (iZ ((n + 1 : Nat) : Int))), (0, .ref (ad 159)), (2, .int (iZ w))]) ⟨rfl, rfl, rfl, trivial⟩ ?_
                have hin := cAt_in hT (i := (sRd L t 3 e 0).1) (by omega)
                exact ih (n + 1) (by omega) _ ((sRd L t 3 e 0).1 + 1) (by rw [hμ19, zup_s]) (by omega) (by rw [← hQ, hμ19, zup_o (by omega), hr161]; exact (sNums_s (by omega) (by rw [hmk]; omega)).symm) (by rw [hμ19, zup_n (by omega)]; exact hkd) (fun c i q1 q2 => by rw [hμ19, zup_n (by omega)]; exact hfr2 c i q1 q2)
              · refine z_iconst hC dX5_read_85 ?_
                by_cases qe : (sRd L t 3 e 0).1 = e
                · have hQ2 := (sNums_e (L := L) (t := t) (r := r) (e := e) (k := (n : Int)) (f := μ1 161) qe).symm.trans hQ
                  exact z_zret0 hC dX5_read_86 ⟨by rw [← hQ2]; rfl, by rw [← hQ2, hμ15e]; exact qe, hkd.trans hc, by rw [← hQ2]; exact hr161, hfr2⟩
                · have hQ2 := (sNums_m (L := L) (t := t) (r := r) (e := e) (k := (n : Int)) (f := μ1 161) qe (by rw [hmk]; omega)).symm.trans hQ
                  exact z_zret0 hC dX5_read_86 ⟨by rw [← hQ2]; rfl, by rw [← hQ2]; exact hμ15e, hkd.trans hc, by rw [← hQ2]; exact hr161, hfr2⟩
    refine z_weak (L' := [(3, .int (iZ ((0 : Nat) : Int))), (0, .ref (ad 159)), (2, .int (iZ w))]) ⟨rfl, rfl, rfl, trivial⟩ ?_
    have ef : μ6 161 = μ 161 := by rw [hμ6, zup_o (by omega), hμ4, zup_o (by omega), hμ1, zup_o (by omega)]
    exact LOOP w.toNat 0 (by omega) _ (st + 1) (by rw [hμ6, zup_s]) (by omega) (by rw [ef]; show _ = sOrder L t st (μ 161); unfold sOrder; rw [← hc, ← hw, if_neg (by omega)]; rfl) (by rw [hμ6, zup_n (by omega), hμ4, zup_s]) (fun c i q1 q2 => by rw [hμ6, zup_n (by omega), hμ4, zup_n (by omega), hμ1, zup_n (by omega)])
  · refine z_iconst hC dX5_read_29 ?_
    have hQ : sOrder L t st (μ 161) = (0, st, μ 161) := by unfold sOrder; rw [← hc, ← hw, if_pos (by omega)]
    exact z_zret0 hC dX5_read_30 ⟨by rw [hQ]; rfl, by rw [hQ, hμ4, zup_n (by omega), hμ1, zup_s], by rw [hμ4, zup_s, hc], by rw [hQ, hμ4, zup_o (by omega), hμ1, zup_o (by omega)], fun c i q1 q2 => by rw [hμ4, zup_n (by omega), hμ1, zup_n (by omega)]⟩
