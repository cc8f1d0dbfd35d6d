set_option maxHeartbeats 4000000 in
set_option maxRecDepth 100000 in
/-- bestCargo -/
theorem m_X8_bestCargo (l : Launch) (G : va_G) (ca : Nat → ClassId) (ad : Int → Nat) (A : Nat → Prop) (μ : zM) (d : zM) (n : Int) (h : Int → zM) (L : Int) (t : Int → Int) (hX : rSt μ d n h L t) (hI : zInv d) (k : Int) (hk : -2147483648 ≤ k ∧ k ≤ 2147483647) : zMet l (rω G ca ad) A yX8_bestCargo cX8_bestCargo 6 (some .int) 7 166 [.ref (ad 0), .int (iZ k)] μ (zpI (.int (iZ (qBestC d k (0, 0, 0, 0)))) (fun μ' => rSt μ' d n h L t)) := by
  refine zMet_of (by decide) (Nat.le_of_ble_eq_true rfl) (fun Γ hC => ?_)
  show Z Γ _ μ 0 [(0, .ref (ad 0)), (1, .int (iZ k))] []
  obtain ⟨hB, hf5, hf6, hIF, hIS, hII, hIL⟩ := id hI
  obtain ⟨hN, hP, hB3, hB4⟩ := id hB
  obtain ⟨hN1, hN2⟩ := id hN
  refine z_aload_n hC dX8_bestCargo_0 rfl ?_
  refine z_iload_n hC dX8_bestCargo_1 rfl ?_
  refine z_callV hC [.int (iZ k)] 1 rfl dX8_bestCargo_2 (fun l => m_X8_isShip l G ca ad _ μ d hX.1 k (by omega) (by omega)) qM_X8_91 qI_X8_isShip qS_X8_isShip qi_X8 qC_X8_isShip (by decide +kernel) (by decide) (by decide) rl_0 (rd_0 (ca := ca) (ad := ad)) rfl (Nat.le_of_ble_eq_true rfl) (zk_pure ?_) rfl
  refine z_ifb_ne hC 11 dX8_bestCargo_5 (by decide) (fun c_1 => ?_) (fun c_1 => ?_)
  · refine z_ldc hC (-1000004) qc_X8_130 rfl dX8_bestCargo_11 ?_
    refine z_istore_n hC dX8_bestCargo_13 (by decide) rfl ?_
    refine z_iconst hC dX8_bestCargo_14 ?_
    refine z_istore_n hC dX8_bestCargo_15 (by decide) rfl ?_
    refine z_iconst hC dX8_bestCargo_16 ?_
    refine z_istore hC dX8_bestCargo_17 (by decide) rfl ?_
    have LOOP : ∀ (r n9 : Nat), n9 + r = (d 0 5).toNat → ∀ (μ1 : zM) (f e : Int), rFr μ μ1 → rPk (sAll d k 0 n9 1 (0, 0, 0, 0)) ((sAll d k 0 n9 1 (0, 0, 0, 0)).2.2.1) f e → (f < 0 ∧ f = -1000004 ∨ 0 ≤ f ∧ f < 10) → (-300000 ≤ e ∧ e ≤ 9801) → Z Γ (rω G ca ad) μ1 19 [(4, .int (iZ (n9 : Int))), (2, .int (iZ f)), (3, .int (iZ e)), (0, .ref (ad 0)), (1, .int (iZ k))] [] := by
      intro r
      induction r with
      | zero =>
        intro n9 hn μ1 f e hfr hK hf9 he9
        have hd1 : rv μ1 0 = d := (rv_fr hfr).trans hX.1
        refine z_iload hC dX8_bestCargo_19 rfl ?_
        refine z_aload_n hC dX8_bestCargo_21 rfl ?_
        refine z_get hC iA_X8 rfl 0 (by decide) qF_X8_7 rfl dX8_bestCargo_22 rl_0 (rd_0 (ca := ca) (ad := ad)) rfl ?_
        refine z_bipush hC dX8_bestCargo_25 (by decide) ?_
        refine z_iald hC dX8_bestCargo_27 rl_1 (rd_1 (ca := ca) (ad := ad)) (by omega) (by omega) (by decide) ?_
        refine z_top (b := d 0 5) ((rv_C).symm.trans (congrFun (congrFun hd1 _) _)) ?_
        refine z_icmp_ge hC 96 dX8_bestCargo_28 (by decide) (by omega) (by omega) (fun c_2 => ?_) (fun c_2 => ?_)
        · refine z_iload_n hC dX8_bestCargo_96 rfl ?_
          obtain rfl : n9 = (d 0 5).toNat := by omega
          have e9 : f = qBestC d k (0, 0, 0, 0) := by
            unfold qBestC
            rw [if_neg (by omega)]
            rcases hK with ⟨k1, k2⟩ | ⟨k1, k2, k3, k4⟩
            · rw [if_neg (by show ¬ (sAll d k 0 (d 0 5).toNat 1 (0, 0, 0, 0)).1 = 1; omega)]; exact k2
            · rw [if_pos (show (sAll d k 0 (d 0 5).toNat 1 (0, 0, 0, 0)).1 = 1 from k1)]; exact k3
          exact z_iret hC dX8_bestCargo_97 ⟨by rw [e9], rSt_go hX hfr⟩
        · exfalso; omega
      | succ r ih =>
        intro n9 hn μ1 f e hfr hK hf9 he9
        have hd1 : rv μ1 0 = d := (rv_fr hfr).trans hX.1
        have hn9 : (n9 : Int) < d 0 5 := by omega
        obtain ⟨hs0, hs1, hs2, hs3, hs4, hs6⟩ := hB3 k (by omega)
        obtain ⟨hc0, hc1, hc2, hc3, hc4, hc5, hc6⟩ := hB4 (n9 : Int) (by omega)
        have hcb := sCould_b d k (n9 : Int)
        have heb : -300000 ≤ sEarn d k (n9 : Int) (sEnd d k).1 (sEnd d k).2.1 ∧ sEarn d k (n9 : Int) (sEnd d k).1 (sEnd d k).2.1 ≤ 9801 := sEa_b hB (by omega) (by omega) (zInv_G hI _ (by omega))
        have h01 := sAll_01 (d := d) (k := k) (c := 0) (m := n9) (q := (0, 0, 0, 0)) (Or.inl rfl) 1
        have hK9 : ((sAll d k 0 n9 1 (0, 0, 0, 0)).1 = 0 ∧ f = -1000004) ∨ ((sAll d k 0 n9 1 (0, 0, 0, 0)).1 = 1 ∧ 0 ≤ (sAll d k 0 n9 1 (0, 0, 0, 0)).2.2.1 ∧ f = (sAll d k 0 n9 1 (0, 0, 0, 0)).2.2.1 ∧ e = (sAll d k 0 n9 1 (0, 0, 0, 0)).2.2.2) := hK
        have hQ9 : sAll d k 0 (n9 + 1) 1 (0, 0, 0, 0) = sStep d k (n9 : Int) (sAll d k 0 n9 1 (0, 0, 0, 0)) := by have e1 : ∀ m q, sAll d k 0 m 1 q = sRow d k 0 m q := fun m q => (by show sRow d (k + ((0 : Nat) : Int)) 0 m q = _; rw [show k + ((0 : Nat) : Int) = k by omega]); rw [e1, e1]; show sStep d k (0 + (n9 : Int)) _ = _; rw [show 0 + (n9 : Int) = (n9 : Int) by omega]
        refine z_iload hC dX8_bestCargo_19 rfl ?_
        refine z_aload_n hC dX8_bestCargo_21 rfl ?_
        refine z_get hC iA_X8 rfl 0 (by decide) qF_X8_7 rfl dX8_bestCargo_22 rl_0 (rd_0 (ca := ca) (ad := ad)) rfl ?_
        refine z_bipush hC dX8_bestCargo_25 (by decide) ?_
        refine z_iald hC dX8_bestCargo_27 rl_1 (rd_1 (ca := ca) (ad := ad)) (by omega) (by omega) (by decide) ?_
        refine z_top (b := d 0 5) ((rv_C).symm.trans (congrFun (congrFun hd1 _) _)) ?_
        refine z_icmp_ge hC 96 dX8_bestCargo_28 (by decide) (by omega) (by omega) (fun c_3 => ?_) (fun c_3 => ?_)
        · exfalso; omega
        · refine z_aload_n hC dX8_bestCargo_31 rfl ?_
          refine z_get hC iA_X8 rfl 0 (by decide) qF_X8_7 rfl dX8_bestCargo_32 rl_0 (rd_0 (ca := ca) (ad := ad)) rfl ?_
          refine z_iconst hC dX8_bestCargo_35 ?_
          refine z_iload hC dX8_bestCargo_36 rfl ?_
          refine z_bipush hC dX8_bestCargo_38 (by decide) ?_
          refine z_callS hC [.int (iZ 0), .int (iZ (n9 : Int)), .int (iZ 6)] 3 rfl dX8_bestCargo_40 (fun l => m_X8_cargoAt l _ _ _ 0 (n9 : Int) 6) qM_X8_44 qT_X8_cargoAt qi_X8 qC_X8_cargoAt (by decide +kernel) (by decide) (by decide) (Nat.le_of_ble_eq_true rfl) (zk_pure ?_) rfl
          refine z_iald hC dX8_bestCargo_43 rl_1 (rd_1 (ca := ca) (ad := ad)) (by omega) (by omega) (by decide) ?_
          refine z_top (b := d (16 + (n9 : Int)) 6) ((rv_cargo (by omega) (by omega)).symm.trans (congrFun (congrFun hd1 _) _)) ?_
          refine z_if_ne hC 62 dX8_bestCargo_44 (by decide) (by omega) (fun c_4 => ?_) (fun c_4 => ?_)
          · refine z_iconst hC dX8_bestCargo_62 ?_
            refine z_istore hC dX8_bestCargo_63 (by decide) rfl ?_
            refine z_iload hC dX8_bestCargo_65 rfl ?_
            refine z_if_eq hC 90 dX8_bestCargo_67 (by decide) (by omega) (fun c_5 => ?_) (fun c_5 => ?_)
            · refine z_iinc hC dX8_bestCargo_90 rfl (by decide) rfl ?_
              refine z_goto hC 19 dX8_bestCargo_93 (by decide) ?_
              refine z_weak (L' := [(4, .int (iZ ((n9 + 1 : Nat) : Int))), (2, .int (iZ f)), (3, .int (iZ e)), (0, .ref (ad 0)), (1, .int (iZ k))]) ⟨rfl, rfl, rfl, rfl, rfl, trivial⟩ ?_
              exact ih (n9 + 1) (by omega) μ1 f e (hfr) (by rw [hQ9, sStep_n (by unfold sEa; omega)]; exact hK) (by omega) (by omega)
            · exfalso; omega
          · refine z_aload_n hC dX8_bestCargo_47 rfl ?_
            refine z_iconst hC dX8_bestCargo_48 ?_
            refine z_iload_n hC dX8_bestCargo_49 rfl ?_
            refine z_iload hC dX8_bestCargo_50 rfl ?_
            refine z_callV hC [.int (iZ 0), .int (iZ k), .int (iZ (n9 : Int))] 3 rfl dX8_bestCargo_52 (fun l => m_X8_could l G ca ad _ μ1 d hd1 0 (by omega) d hd1 (fun _ => ⟨rfl, rfl⟩) hP k (n9 : Int) hB (by omega) (by omega) (fOk_of hI (by omega)) (late_of hI (by omega))) qM_X8_98 qI_X8_could qS_X8_could qi_X8 qC_X8_could (by decide +kernel) (by decide) (by decide) rl_0 (rd_0 (ca := ca) (ad := ad)) rfl (Nat.le_of_ble_eq_true rfl) (zk_int (fun μ6 hμ6 => ?_)) rfl
            obtain ⟨hμ6f, ⟨hμ68, hμ69, hμ6a, hμ6b⟩, hμ613⟩ := id hμ6
            have hd7 : rv μ6 0 = d := by rw [rv_fr hμ6f]; exact hd1
            refine z_if_ne hC 62 dX8_bestCargo_55 (by decide) (by omega) (fun c_8 => ?_) (fun c_8 => ?_)
            · refine z_iconst hC dX8_bestCargo_62 ?_
              refine z_istore hC dX8_bestCargo_63 (by decide) rfl ?_
              refine z_iload hC dX8_bestCargo_65 rfl ?_
              refine z_if_eq hC 90 dX8_bestCargo_67 (by decide) (by omega) (fun c_9 => ?_) (fun c_9 => ?_)
              · refine z_iinc hC dX8_bestCargo_90 rfl (by decide) rfl ?_
                refine z_goto hC 19 dX8_bestCargo_93 (by decide) ?_
                refine z_weak (L' := [(4, .int (iZ ((n9 + 1 : Nat) : Int))), (2, .int (iZ f)), (3, .int (iZ e)), (0, .ref (ad 0)), (1, .int (iZ k))]) ⟨rfl, rfl, rfl, rfl, rfl, trivial⟩ ?_
                exact ih (n9 + 1) (by omega) μ6 f e (rFr_tr hfr hμ6f) (by rw [hQ9, sStep_n (by unfold sEa; omega)]; exact hK) (by omega) (by omega)
              · exfalso; omega
            · refine z_iconst hC dX8_bestCargo_58 ?_
              refine z_goto hC 63 dX8_bestCargo_59 (by decide) ?_
              refine z_istore hC dX8_bestCargo_63 (by decide) rfl ?_
              refine z_iload hC dX8_bestCargo_65 rfl ?_
              refine z_if_eq hC 90 dX8_bestCargo_67 (by decide) (by omega) (fun c_10 => ?_) (fun c_10 => ?_)
              · exfalso; omega
              · refine z_iload_n hC dX8_bestCargo_70 rfl ?_
                refine z_if_lt hC 82 dX8_bestCargo_71 (by decide) (by omega) (fun c_11 => ?_) (fun c_11 => ?_)
                · refine z_iload hC dX8_bestCargo_82 rfl ?_
                  refine z_istore_n hC dX8_bestCargo_84 (by decide) rfl ?_
                  refine z_aload_n hC dX8_bestCargo_85 rfl ?_
                  refine z_get hC iA_X8 rfl 11 (by decide) qF_X8_60 rfl dX8_bestCargo_86 rl_0 (rd_0 (ca := ca) (ad := ad)) rfl ?_
                  refine z_top (b := sEarn d k (n9 : Int) (sEnd d k).1 (sEnd d k).2.1) (by rw [hμ6b]) ?_
                  refine z_istore_n hC dX8_bestCargo_89 (by decide) rfl ?_
                  refine z_iinc hC dX8_bestCargo_90 rfl (by decide) rfl ?_
                  refine z_goto hC 19 dX8_bestCargo_93 (by decide) ?_
                  refine z_weak (L' := [(4, .int (iZ ((n9 + 1 : Nat) : Int))), (2, .int (iZ (n9 : Int))), (3, .int (iZ (sEarn d k (n9 : Int) (sEnd d k).1 (sEnd d k).2.1))), (0, .ref (ad 0)), (1, .int (iZ k))]) ⟨rfl, rfl, rfl, rfl, rfl, trivial⟩ ?_
                  exact ih (n9 + 1) (by omega) μ6 (n9 : Int) (sEarn d k (n9 : Int) (sEnd d k).1 (sEnd d k).2.1) (rFr_tr hfr hμ6f) (by rw [hQ9, sStep_p (by unfold sEa; omega)]; exact Or.inr ⟨rfl, by show (0 : Int) ≤ (n9 : Int); omega, rfl, rfl⟩) (by omega) (by omega)
                · refine z_aload_n hC dX8_bestCargo_74 rfl ?_
                  refine z_get hC iA_X8 rfl 11 (by decide) qF_X8_60 rfl dX8_bestCargo_75 rl_0 (rd_0 (ca := ca) (ad := ad)) rfl ?_
                  refine z_top (b := sEarn d k (n9 : Int) (sEnd d k).1 (sEnd d k).2.1) (by rw [hμ6b]) ?_
                  refine z_iload_n hC dX8_bestCargo_78 rfl ?_
                  refine z_icmp_le hC 90 dX8_bestCargo_79 (by decide) (by omega) (by omega) (fun c_12 => ?_) (fun c_12 => ?_)
                  · refine z_iinc hC dX8_bestCargo_90 rfl (by decide) rfl ?_
                    refine z_goto hC 19 dX8_bestCargo_93 (by decide) ?_
                    refine z_weak (L' := [(4, .int (iZ ((n9 + 1 : Nat) : Int))), (2, .int (iZ f)), (3, .int (iZ e)), (0, .ref (ad 0)), (1, .int (iZ k))]) ⟨rfl, rfl, rfl, rfl, rfl, trivial⟩ ?_
                    exact ih (n9 + 1) (by omega) μ6 f e (rFr_tr hfr hμ6f) (by rw [hQ9, sStep_n (by unfold sEa; omega)]; exact hK) (by omega) (by omega)
                  · refine z_iload hC dX8_bestCargo_82 rfl ?_
                    refine z_istore_n hC dX8_bestCargo_84 (by decide) rfl ?_
                    refine z_aload_n hC dX8_bestCargo_85 rfl ?_
                    refine z_get hC iA_X8 rfl 11 (by decide) qF_X8_60 rfl dX8_bestCargo_86 rl_0 (rd_0 (ca := ca) (ad := ad)) rfl ?_
                    refine z_top (b := sEarn d k (n9 : Int) (sEnd d k).1 (sEnd d k).2.1) (by rw [hμ6b]) ?_
                    refine z_istore_n hC dX8_bestCargo_89 (by decide) rfl ?_
                    refine z_iinc hC dX8_bestCargo_90 rfl (by decide) rfl ?_
                    refine z_goto hC 19 dX8_bestCargo_93 (by decide) ?_
                    refine z_weak (L' := [(4, .int (iZ ((n9 + 1 : Nat) : Int))), (2, .int (iZ (n9 : Int))), (3, .int (iZ (sEarn d k (n9 : Int) (sEnd d k).1 (sEnd d k).2.1))), (0, .ref (ad 0)), (1, .int (iZ k))]) ⟨rfl, rfl, rfl, rfl, rfl, trivial⟩ ?_
                    exact ih (n9 + 1) (by omega) μ6 (n9 : Int) (sEarn d k (n9 : Int) (sEnd d k).1 (sEnd d k).2.1) (rFr_tr hfr hμ6f) (by rw [hQ9, sStep_p (by unfold sEa; omega)]; exact Or.inr ⟨rfl, by show (0 : Int) ≤ (n9 : Int); omega, rfl, rfl⟩) (by omega) (by omega)
    refine z_weak (L' := [(4, .int (iZ ((0 : Nat) : Int))), (2, .int (iZ (-1000004))), (3, .int (iZ 0)), (0, .ref (ad 0)), (1, .int (iZ k))]) ⟨rfl, rfl, rfl, rfl, rfl, trivial⟩ ?_
    exact LOOP (d 0 5).toNat 0 (by omega) μ (-1000004) 0 (rFr_rf μ) (Or.inl ⟨rfl, rfl⟩) (by omega) (by omega)
  · refine z_ldc hC (-1000001) qc_X8_24 rfl dX8_bestCargo_8 ?_
    exact z_iret hC dX8_bestCargo_10 ⟨by unfold qBestC; rw [if_pos (by omega)], hX⟩

set_option maxHeartbeats 4000000 in
set_option maxRecDepth 100000 in
/-- bestShip -/
theorem m_X8_bestShip (l : Launch) (G : va_G) (ca : Nat → ClassId) (ad : Int → Nat) (A : Nat → Prop) (μ : zM) (d : zM) (n : Int) (h : Int → zM) (L : Int) (t : Int → Int) (hX : rSt μ d n h L t) (hI : zInv d) (c : Int) (hc : -2147483648 ≤ c ∧ c ≤ 2147483647) : zMet l (rω G ca ad) A yX8_bestShip cX8_bestShip 5 (some .int) 7 166 [.ref (ad 0), .int (iZ c)] μ (zpI (.int (iZ (qBestS d c (0, 0, 0, 0)))) (fun μ' => rSt μ' d n h L t)) := by
  refine zMet_of (by decide) (Nat.le_of_ble_eq_true rfl) (fun Γ hC => ?_)
  show Z Γ _ μ 0 [(0, .ref (ad 0)), (1, .int (iZ c))] []
  obtain ⟨hB, hf5, hf6, hIF, hIS, hII, hIL⟩ := id hI
  obtain ⟨hN, hP, hB3, hB4⟩ := id hB
  obtain ⟨hN1, hN2⟩ := id hN
  refine z_aload_n hC dX8_bestShip_0 rfl ?_
  refine z_iload_n hC dX8_bestShip_1 rfl ?_
  refine z_callV hC [.int (iZ c)] 1 rfl dX8_bestShip_2 (fun l => m_X8_isCargo l G ca ad _ μ d hX.1 c (by omega) (by omega)) qM_X8_95 qI_X8_isCargo qS_X8_isCargo qi_X8 qC_X8_isCargo (by decide +kernel) (by decide) (by decide) rl_0 (rd_0 (ca := ca) (ad := ad)) rfl (Nat.le_of_ble_eq_true rfl) (zk_pure ?_) rfl
  refine z_ifb_ne hC 11 dX8_bestShip_5 (by decide) (fun c_1 => ?_) (fun c_1 => ?_)
  · obtain ⟨hc0, hc1, hc2, hc3, hc4, hc5, hc6⟩ := hB4 c (by omega)
    refine z_aload_n hC dX8_bestShip_11 rfl ?_
    refine z_get hC iA_X8 rfl 0 (by decide) qF_X8_7 rfl dX8_bestShip_12 rl_0 (rd_0 (ca := ca) (ad := ad)) rfl ?_
    refine z_iconst hC dX8_bestShip_15 ?_
    refine z_iload_n hC dX8_bestShip_16 rfl ?_
    refine z_bipush hC dX8_bestShip_17 (by decide) ?_
    refine z_callS hC [.int (iZ 0), .int (iZ c), .int (iZ 6)] 3 rfl dX8_bestShip_19 (fun l => m_X8_cargoAt l _ _ _ 0 c 6) qM_X8_44 qT_X8_cargoAt qi_X8 qC_X8_cargoAt (by decide +kernel) (by decide) (by decide) (Nat.le_of_ble_eq_true rfl) (zk_pure ?_) rfl
    refine z_iald hC dX8_bestShip_22 rl_1 (rd_1 (ca := ca) (ad := ad)) (by omega) (by omega) (by decide) ?_
    refine z_top (b := d (16 + c) 6) ((rv_cargo (by omega) (by omega)).symm.trans (congrFun (congrFun hX.1 _) _)) ?_
    refine z_if_eq hC 29 dX8_bestShip_23 (by decide) (by omega) (fun c_2 => ?_) (fun c_2 => ?_)
    · refine z_ldc hC (-1000004) qc_X8_130 rfl dX8_bestShip_29 ?_
      refine z_istore_n hC dX8_bestShip_31 (by decide) rfl ?_
      refine z_iconst hC dX8_bestShip_32 ?_
      refine z_istore_n hC dX8_bestShip_33 (by decide) rfl ?_
      refine z_iconst hC dX8_bestShip_34 ?_
      refine z_istore hC dX8_bestShip_35 (by decide) rfl ?_
      have LOOP : ∀ (r n9 : Nat), n9 + r = (d 0 4).toNat → ∀ (μ1 : zM) (f e : Int), rFr μ μ1 → rPk (sAll d 0 c 1 n9 (0, 0, 0, 0)) ((sAll d 0 c 1 n9 (0, 0, 0, 0)).2.1) f e → (f < 0 ∧ f = -1000004 ∨ 0 ≤ f ∧ f < 10) → (-300000 ≤ e ∧ e ≤ 9801) → Z Γ (rω G ca ad) μ1 37 [(4, .int (iZ (n9 : Int))), (2, .int (iZ f)), (3, .int (iZ e)), (0, .ref (ad 0)), (1, .int (iZ c))] [] := by
        intro r
        induction r with
        | zero =>
          intro n9 hn μ1 f e hfr hK hf9 he9
          have hd1 : rv μ1 0 = d := (rv_fr hfr).trans hX.1
          refine z_iload hC dX8_bestShip_37 rfl ?_
          refine z_aload_n hC dX8_bestShip_39 rfl ?_
          refine z_get hC iA_X8 rfl 0 (by decide) qF_X8_7 rfl dX8_bestShip_40 rl_0 (rd_0 (ca := ca) (ad := ad)) rfl ?_
          refine z_bipush hC dX8_bestShip_43 (by decide) ?_
          refine z_iald hC dX8_bestShip_45 rl_1 (rd_1 (ca := ca) (ad := ad)) (by omega) (by omega) (by decide) ?_
          refine z_top (b := d 0 4) ((rv_S).symm.trans (congrFun (congrFun hd1 _) _)) ?_
          refine z_icmp_ge hC 86 dX8_bestShip_46 (by decide) (by omega) (by omega) (fun c_3 => ?_) (fun c_3 => ?_)
          · refine z_iload_n hC dX8_bestShip_86 rfl ?_
            obtain rfl : n9 = (d 0 4).toNat := by omega
            have e9 : f = qBestS d c (0, 0, 0, 0) := by
              unfold qBestS
              rw [if_neg (by omega), if_neg (by omega)]
              rcases hK with ⟨k1, k2⟩ | ⟨k1, k2, k3, k4⟩
              · rw [if_neg (by show ¬ (sAll d 0 c 1 (d 0 4).toNat (0, 0, 0, 0)).1 = 1; omega)]; exact k2
              · rw [if_pos (show (sAll d 0 c 1 (d 0 4).toNat (0, 0, 0, 0)).1 = 1 from k1)]; exact k3
            exact z_iret hC dX8_bestShip_87 ⟨by rw [e9], rSt_go hX hfr⟩
          · exfalso; omega
        | succ r ih =>
          intro n9 hn μ1 f e hfr hK hf9 he9
          have hd1 : rv μ1 0 = d := (rv_fr hfr).trans hX.1
          have hn9 : (n9 : Int) < d 0 4 := by omega
          obtain ⟨hs0, hs1, hs2, hs3, hs4, hs6⟩ := hB3 (n9 : Int) (by omega)
          obtain ⟨hc0, hc1, hc2, hc3, hc4, hc5, hc6⟩ := hB4 c (by omega)
          have hcb := sCould_b d (n9 : Int) c
          have heb : -300000 ≤ sEarn d (n9 : Int) c (sEnd d (n9 : Int)).1 (sEnd d (n9 : Int)).2.1 ∧ sEarn d (n9 : Int) c (sEnd d (n9 : Int)).1 (sEnd d (n9 : Int)).2.1 ≤ 9801 := sEa_b hB (by omega) (by omega) (zInv_G hI _ (by omega))
          have h01 := sAll_01 (d := d) (k := 0) (c := c) (m := 1) (q := (0, 0, 0, 0)) (Or.inl rfl) n9
          have hK9 : ((sAll d 0 c 1 n9 (0, 0, 0, 0)).1 = 0 ∧ f = -1000004) ∨ ((sAll d 0 c 1 n9 (0, 0, 0, 0)).1 = 1 ∧ 0 ≤ (sAll d 0 c 1 n9 (0, 0, 0, 0)).2.1 ∧ f = (sAll d 0 c 1 n9 (0, 0, 0, 0)).2.1 ∧ e = (sAll d 0 c 1 n9 (0, 0, 0, 0)).2.2.2) := hK
          have hQ9 : sAll d 0 c 1 (n9 + 1) (0, 0, 0, 0) = sStep d (n9 : Int) c (sAll d 0 c 1 n9 (0, 0, 0, 0)) := by show sStep d (0 + (n9 : Int)) (c + ((0 : Nat) : Int)) _ = _; rw [show c + ((0 : Nat) : Int) = c by omega, show 0 + (n9 : Int) = (n9 : Int) by omega]; rfl
          refine z_iload hC dX8_bestShip_37 rfl ?_
          refine z_aload_n hC dX8_bestShip_39 rfl ?_
          refine z_get hC iA_X8 rfl 0 (by decide) qF_X8_7 rfl dX8_bestShip_40 rl_0 (rd_0 (ca := ca) (ad := ad)) rfl ?_
          refine z_bipush hC dX8_bestShip_43 (by decide) ?_
          refine z_iald hC dX8_bestShip_45 rl_1 (rd_1 (ca := ca) (ad := ad)) (by omega) (by omega) (by decide) ?_
          refine z_top (b := d 0 4) ((rv_S).symm.trans (congrFun (congrFun hd1 _) _)) ?_
          refine z_icmp_ge hC 86 dX8_bestShip_46 (by decide) (by omega) (by omega) (fun c_4 => ?_) (fun c_4 => ?_)
          · exfalso; omega
          · refine z_aload_n hC dX8_bestShip_49 rfl ?_
            refine z_iconst hC dX8_bestShip_50 ?_
            refine z_iload hC dX8_bestShip_51 rfl ?_
            refine z_iload_n hC dX8_bestShip_53 rfl ?_
            refine z_callV hC [.int (iZ 0), .int (iZ (n9 : Int)), .int (iZ c)] 3 rfl dX8_bestShip_54 (fun l => m_X8_could l G ca ad _ μ1 d hd1 0 (by omega) d hd1 (fun _ => ⟨rfl, rfl⟩) hP (n9 : Int) c hB (by omega) (by omega) (fOk_of hI (by omega)) (late_of hI (by omega))) qM_X8_98 qI_X8_could qS_X8_could qi_X8 qC_X8_could (by decide +kernel) (by decide) (by decide) rl_0 (rd_0 (ca := ca) (ad := ad)) rfl (Nat.le_of_ble_eq_true rfl) (zk_int (fun μ5 hμ5 => ?_)) rfl
            obtain ⟨hμ5f, ⟨hμ58, hμ59, hμ5a, hμ5b⟩, hμ513⟩ := id hμ5
            have hd6 : rv μ5 0 = d := by rw [rv_fr hμ5f]; exact hd1
            refine z_if_ne hC 80 dX8_bestShip_57 (by decide) (by omega) (fun c_7 => ?_) (fun c_7 => ?_)
            · refine z_iinc hC dX8_bestShip_80 rfl (by decide) rfl ?_
              refine z_goto hC 37 dX8_bestShip_83 (by decide) ?_
              refine z_weak (L' := [(4, .int (iZ ((n9 + 1 : Nat) : Int))), (2, .int (iZ f)), (3, .int (iZ e)), (0, .ref (ad 0)), (1, .int (iZ c))]) ⟨rfl, rfl, rfl, rfl, rfl, trivial⟩ ?_
              exact ih (n9 + 1) (by omega) μ5 f e (rFr_tr hfr hμ5f) (by rw [hQ9, sStep_n (by unfold sEa; omega)]; exact hK) (by omega) (by omega)
            · refine z_iload_n hC dX8_bestShip_60 rfl ?_
              refine z_if_lt hC 72 dX8_bestShip_61 (by decide) (by omega) (fun c_8 => ?_) (fun c_8 => ?_)
              · refine z_iload hC dX8_bestShip_72 rfl ?_
                refine z_istore_n hC dX8_bestShip_74 (by decide) rfl ?_
                refine z_aload_n hC dX8_bestShip_75 rfl ?_
                refine z_get hC iA_X8 rfl 11 (by decide) qF_X8_60 rfl dX8_bestShip_76 rl_0 (rd_0 (ca := ca) (ad := ad)) rfl ?_
                refine z_top (b := sEarn d (n9 : Int) c (sEnd d (n9 : Int)).1 (sEnd d (n9 : Int)).2.1) (by rw [hμ5b]) ?_
                refine z_istore_n hC dX8_bestShip_79 (by decide) rfl ?_
                refine z_iinc hC dX8_bestShip_80 rfl (by decide) rfl ?_
                refine z_goto hC 37 dX8_bestShip_83 (by decide) ?_
                refine z_weak (L' := [(4, .int (iZ ((n9 + 1 : Nat) : Int))), (2, .int (iZ (n9 : Int))), (3, .int (iZ (sEarn d (n9 : Int) c (sEnd d (n9 : Int)).1 (sEnd d (n9 : Int)).2.1))), (0, .ref (ad 0)), (1, .int (iZ c))]) ⟨rfl, rfl, rfl, rfl, rfl, trivial⟩ ?_
                exact ih (n9 + 1) (by omega) μ5 (n9 : Int) (sEarn d (n9 : Int) c (sEnd d (n9 : Int)).1 (sEnd d (n9 : Int)).2.1) (rFr_tr hfr hμ5f) (by rw [hQ9, sStep_p (by unfold sEa; omega)]; exact Or.inr ⟨rfl, by show (0 : Int) ≤ (n9 : Int); omega, rfl, rfl⟩) (by omega) (by omega)
              · refine z_aload_n hC dX8_bestShip_64 rfl ?_
                refine z_get hC iA_X8 rfl 11 (by decide) qF_X8_60 rfl dX8_bestShip_65 rl_0 (rd_0 (ca := ca) (ad := ad)) rfl ?_
                refine z_top (b := sEarn d (n9 : Int) c (sEnd d (n9 : Int)).1 (sEnd d (n9 : Int)).2.1) (by rw [hμ5b]) ?_
                refine z_iload_n hC dX8_bestShip_68 rfl ?_
                refine z_icmp_le hC 80 dX8_bestShip_69 (by decide) (by omega) (by omega) (fun c_9 => ?_) (fun c_9 => ?_)
                · refine z_iinc hC dX8_bestShip_80 rfl (by decide) rfl ?_
                  refine z_goto hC 37 dX8_bestShip_83 (by decide) ?_
                  refine z_weak (L' := [(4, .int (iZ ((n9 + 1 : Nat) : Int))), (2, .int (iZ f)), (3, .int (iZ e)), (0, .ref (ad 0)), (1, .int (iZ c))]) ⟨rfl, rfl, rfl, rfl, rfl, trivial⟩ ?_
                  exact ih (n9 + 1) (by omega) μ5 f e (rFr_tr hfr hμ5f) (by rw [hQ9, sStep_n (by unfold sEa; omega)]; exact hK) (by omega) (by omega)
                · refine z_iload hC dX8_bestShip_72 rfl ?_
                  refine z_istore_n hC dX8_bestShip_74 (by decide) rfl ?_
                  refine z_aload_n hC dX8_bestShip_75 rfl ?_
                  refine z_get hC iA_X8 rfl 11 (by decide) qF_X8_60 rfl dX8_bestShip_76 rl_0 (rd_0 (ca := ca) (ad := ad)) rfl ?_
                  refine z_top (b := sEarn d (n9 : Int) c (sEnd d (n9 : Int)).1 (sEnd d (n9 : Int)).2.1) (by rw [hμ5b]) ?_
                  refine z_istore_n hC dX8_bestShip_79 (by decide) rfl ?_
                  refine z_iinc hC dX8_bestShip_80 rfl (by decide) rfl ?_
                  refine z_goto hC 37 dX8_bestShip_83 (by decide) ?_
                  refine z_weak (L' := [(4, .int (iZ ((n9 + 1 : Nat) : Int))), (2, .int (iZ (n9 : Int))), (3, .int (iZ (sEarn d (n9 : Int) c (sEnd d (n9 : Int)).1 (sEnd d (n9 : Int)).2.1))), (0, .ref (ad 0)), (1, .int (iZ c))]) ⟨rfl, rfl, rfl, rfl, rfl, trivial⟩ ?_
                  exact ih (n9 + 1) (by omega) μ5 (n9 : Int) (sEarn d (n9 : Int) c (sEnd d (n9 : Int)).1 (sEnd d (n9 : Int)).2.1) (rFr_tr hfr hμ5f) (by rw [hQ9, sStep_p (by unfold sEa; omega)]; exact Or.inr ⟨rfl, by show (0 : Int) ≤ (n9 : Int); omega, rfl, rfl⟩) (by omega) (by omega)
      refine z_weak (L' := [(4, .int (iZ ((0 : Nat) : Int))), (2, .int (iZ (-1000004))), (3, .int (iZ 0)), (0, .ref (ad 0)), (1, .int (iZ c))]) ⟨rfl, rfl, rfl, rfl, rfl, trivial⟩ ?_
      exact LOOP (d 0 4).toNat 0 (by omega) μ (-1000004) 0 (rFr_rf μ) (Or.inl ⟨rfl, rfl⟩) (by omega) (by omega)
    · refine z_ldc hC (-1000002) qc_X8_101 rfl dX8_bestShip_26 ?_
      exact z_iret hC dX8_bestShip_28 ⟨by unfold qBestS; rw [if_neg (by omega), if_pos (by omega)], hX⟩
  · refine z_ldc hC (-1000001) qc_X8_24 rfl dX8_bestShip_8 ?_
    exact z_iret hC dX8_bestShip_10 ⟨by unfold qBestS; rw [if_pos (by omega)], hX⟩
