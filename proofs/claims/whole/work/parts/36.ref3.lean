set_option maxHeartbeats 4000000 in
set_option maxRecDepth 100000 in
/-- goesAll(t, k) -/
theorem m_X8_goesAll (l : Launch) (G : va_G) (ca : Nat → ClassId) (ad : Int → Nat) (A : Nat → Prop) (μ : zM) (d0 : zM) (hd0 : rv μ 0 = d0) (t : Int) (ht : 0 ≤ t ∧ t ≤ 6) (d : zM) (hd : rv μ t = d) (hpe : ∀ p, d0 1 p = d 1 p ∧ d0 2 p = d 2 p) (hP0 : bP d0) (k : Int) (hB : bD d) (hk : 0 ≤ k ∧ k < d 0 4) (hF : fOk d k (sNum d k)) : zMet l (rω G ca ad) A yX8_goesAll cX8_goesAll 3 none 5 121 [.ref (ad 0), .int (iZ t), .int (iZ k)] μ (zpV (fun μ' => rFr μ μ' ∧ rGo d k (sInT d k) μ')) := by
  refine zMet_of (by decide) (Nat.le_of_ble_eq_true rfl) (fun Γ hC => ?_)
  show Z Γ _ μ 0 [(0, .ref (ad 0)), (1, .int (iZ t)), (2, .int (iZ k))] []
  obtain ⟨hN0, hP, hB3, hB4⟩ := id hB
  obtain ⟨hN1, hN2⟩ := id hN0
  obtain ⟨hs0, hs1, hs2, hs3, hs4, hs6⟩ := hB3 k (by omega)
  refine z_aload_n hC dX8_goesAll_0 rfl ?_
  refine z_iload_n hC dX8_goesAll_1 rfl ?_
  refine z_iload_n hC dX8_goesAll_2 rfl ?_
  refine z_aload_n hC dX8_goesAll_3 rfl ?_
  refine z_get hC iA_X8 rfl 0 (by decide) qF_X8_7 rfl dX8_goesAll_4 rl_0 (rd_0 (ca := ca) (ad := ad)) rfl ?_
  refine z_iload_n hC dX8_goesAll_7 rfl ?_
  refine z_iload_n hC dX8_goesAll_8 rfl ?_
  refine z_bipush hC dX8_goesAll_9 (by decide) ?_
  refine z_callS hC [.int (iZ t), .int (iZ k), .int (iZ 6)] 3 rfl dX8_goesAll_11 (fun l => m_X8_shipAt l _ _ _ t k 6) qM_X8_37 qT_X8_shipAt qi_X8 qC_X8_shipAt (by decide +kernel) (by decide) (by decide) (Nat.le_of_ble_eq_true rfl) (zk_pure ?_) rfl
  refine z_iald hC dX8_goesAll_14 rl_1 (rd_1 (ca := ca) (ad := ad)) (by omega) (by omega) (by decide) ?_
  refine z_top (b := d (6 + k) 6) ((rv_ship (by omega) (by omega)).symm.trans (congrFun (congrFun hd _) _)) ?_
  refine z_callV hC [.int (iZ t), .int (iZ k), .int (iZ (d (6 + k) 6))] 3 rfl dX8_goesAll_15 (fun l => m_X8_goes l G ca ad _ μ d0 hd0 t ht d hd hpe hP0 k (d (6 + k) 6) (sNum d k) hB hk (sNum_e (by omega)) (by omega) hF) qM_X8_83 qI_X8_goes qS_X8_goes qi_X8 qC_X8_goes (by decide +kernel) (by decide) (by decide) rl_0 (rd_0 (ca := ca) (ad := ad)) rfl (Nat.le_of_ble_eq_true rfl) (zk_void (fun μ1 hμ1 => ?_)) rfl
  obtain ⟨hμ1f, hμ1g⟩ := id hμ1
  exact z_vret hC dX8_goesAll_18 ⟨rfl, hμ1f, hμ1g⟩

set_option maxHeartbeats 4000000 in
set_option maxRecDepth 100000 in
/-- could(t, k, c) -/
theorem m_X8_could (l : Launch) (G : va_G) (ca : Nat → ClassId) (ad : Int → Nat) (A : Nat → Prop) (μ : zM) (d0 : zM) (hd0 : rv μ 0 = d0) (t : Int) (ht : 0 ≤ t ∧ t ≤ 6) (d : zM) (hd : rv μ t = d) (hpe : ∀ p, d0 1 p = d 1 p ∧ d0 2 p = d 2 p) (hP0 : bP d0) (k c : Int) (hB : bD d) (hk : 0 ≤ k ∧ k < d 0 4) (hc : 0 ≤ c ∧ c < d 0 5) (hF : fOk d k (sNum d k)) (hL : ∀ n : Nat, n < sNum d k → 0 ≤ sMarg d k (d (11 + k) (n : Int)) (sPos d k n).1 (sPos d k n).2.1) : zMet l (rω G ca ad) A yX8_could cX8_could 4 (some .int) 6 143 [.ref (ad 0), .int (iZ t), .int (iZ k), .int (iZ c)] μ (zpI (.int (iZ (sCould d k c))) (fun μ' => rFr μ μ' ∧ rLook d k c (sEnd d k).1 (sEnd d k).2.1 μ' ∧ μ' 0 13 = (sEnd d k).2.1)) := by
  refine zMet_of (by decide) (Nat.le_of_ble_eq_true rfl) (fun Γ hC => ?_)
  show Z Γ _ μ 0 [(0, .ref (ad 0)), (1, .int (iZ t)), (2, .int (iZ k)), (3, .int (iZ c))] []
  obtain ⟨hN0, hP, hB3, hB4⟩ := id hB
  obtain ⟨hN1, hN2⟩ := id hN0
  obtain ⟨hs0, hs1, hs2, hs3, hs4, hs6⟩ := hB3 k (by omega)
  have hg := sPos_b hB hk (sNum d k) (fun m hm => hF m hm) hL
  have hge : (0 ≤ (sEnd d k).1 ∧ (sEnd d k).1 ≤ 7) ∧ (0 ≤ (sEnd d k).2.1 ∧ (sEnd d k).2.1 ≤ 1999) := hg
  obtain ⟨hc0, hc1, hc2, hc3, hc4, hc5, hc6⟩ := hB4 c hc
  have hab := sArr_b (t := (sEnd d k).2.1) hP hs1 (hB4 c hc) hge.1
  refine z_aload_n hC dX8_could_0 rfl ?_
  refine z_iload_n hC dX8_could_1 rfl ?_
  refine z_iload_n hC dX8_could_2 rfl ?_
  refine z_callV hC [.int (iZ t), .int (iZ k)] 2 rfl dX8_could_3 (fun l => m_X8_goesAll l G ca ad _ μ d0 hd0 t ht d hd hpe hP0 k hB (by omega) hF) qM_X8_87 qI_X8_goesAll qS_X8_goesAll qi_X8 qC_X8_goesAll (by decide +kernel) (by decide) (by decide) rl_0 (rd_0 (ca := ca) (ad := ad)) rfl (Nat.le_of_ble_eq_true rfl) (zk_void (fun μ1 hμ1 => ?_)) rfl
  obtain ⟨hμ1f, hμ1g⟩ := id hμ1
  rw [sInT_all hL] at hμ1g
  obtain ⟨hμ112, hμ113, hμ114, hμ115⟩ := hμ1g
  have hμ1e12 : μ1 0 12 = (sEnd d k).1 := hμ112
  have hμ1e13 : μ1 0 13 = (sEnd d k).2.1 := hμ113
  have hμ1e14 : μ1 0 14 = (sEnd d k).2.2 := hμ114
  have hd2 : rv μ1 0 = d0 := by rw [rv_fr hμ1f]; exact hd0
  have hd3 : rv μ1 t = d := by rw [rv_fr hμ1f]; exact hd
  refine z_aload_n hC dX8_could_6 rfl ?_
  refine z_iload_n hC dX8_could_7 rfl ?_
  refine z_iload_n hC dX8_could_8 rfl ?_
  refine z_iload_n hC dX8_could_9 rfl ?_
  refine z_aload_n hC dX8_could_10 rfl ?_
  refine z_get hC iA_X8 rfl 12 (by decide) qF_X8_63 rfl dX8_could_11 rl_0 (rd_0 (ca := ca) (ad := ad)) rfl ?_
  refine z_top (b := (sEnd d k).1) (by rw [hμ1e12]) ?_
  refine z_aload_n hC dX8_could_14 rfl ?_
  refine z_get hC iA_X8 rfl 13 (by decide) qF_X8_66 rfl dX8_could_15 rl_0 (rd_0 (ca := ca) (ad := ad)) rfl ?_
  refine z_top (b := (sEnd d k).2.1) (by rw [hμ1e13]) ?_
  refine z_callV hC [.int (iZ t), .int (iZ k), .int (iZ c), .int (iZ ((sEnd d k).1)), .int (iZ ((sEnd d k).2.1))] 5 rfl dX8_could_18 (fun l => m_X8_looks l G ca ad _ μ1 d0 hd2 t ht d hd3 hpe hP0 k c ((sEnd d k).1) ((sEnd d k).2.1) (by omega) (by omega) (by omega) (hB4 _ hc) (by omega) (by omega)) qM_X8_75 qI_X8_looks qS_X8_looks qi_X8 qC_X8_looks (by decide +kernel) (by decide) (by decide) rl_0 (rd_0 (ca := ca) (ad := ad)) rfl (Nat.le_of_ble_eq_true rfl) (zk_void (fun μ4 hμ4 => ?_)) rfl
  obtain ⟨hμ4f, hμ4k, hμ48, hμ49, hμ4a, hμ4b⟩ := id hμ4
  have hd5 : rv μ4 0 = d0 := by rw [rv_fr hμ4f]; exact hd2
  have hd6 : rv μ4 t = d := by rw [rv_fr hμ4f]; exact hd3
  refine z_aload_n hC dX8_could_21 rfl ?_
  refine z_get hC iA_X8 rfl 0 (by decide) qF_X8_7 rfl dX8_could_22 rl_0 (rd_0 (ca := ca) (ad := ad)) rfl ?_
  refine z_iload_n hC dX8_could_25 rfl ?_
  refine z_iload_n hC dX8_could_26 rfl ?_
  refine z_iconst hC dX8_could_27 ?_
  refine z_callS hC [.int (iZ t), .int (iZ c), .int (iZ 0)] 3 rfl dX8_could_28 (fun l => m_X8_cargoAt l _ _ _ t c 0) qM_X8_44 qT_X8_cargoAt qi_X8 qC_X8_cargoAt (by decide +kernel) (by decide) (by decide) (Nat.le_of_ble_eq_true rfl) (zk_pure ?_) rfl
  refine z_iald hC dX8_could_31 rl_1 (rd_1 (ca := ca) (ad := ad)) (by omega) (by omega) (by decide) ?_
  refine z_top (b := d (16 + c) 0) ((rv_cargo (by omega) (by omega)).symm.trans (congrFun (congrFun hd6 _) _)) ?_
  refine z_aload_n hC dX8_could_32 rfl ?_
  refine z_get hC iA_X8 rfl 0 (by decide) qF_X8_7 rfl dX8_could_33 rl_0 (rd_0 (ca := ca) (ad := ad)) rfl ?_
  refine z_iload_n hC dX8_could_36 rfl ?_
  refine z_iload_n hC dX8_could_37 rfl ?_
  refine z_iconst hC dX8_could_38 ?_
  refine z_callS hC [.int (iZ t), .int (iZ k), .int (iZ 0)] 3 rfl dX8_could_39 (fun l => m_X8_shipAt l _ _ _ t k 0) qM_X8_37 qT_X8_shipAt qi_X8 qC_X8_shipAt (by decide +kernel) (by decide) (by decide) (Nat.le_of_ble_eq_true rfl) (zk_pure ?_) rfl
  refine z_iald hC dX8_could_42 rl_1 (rd_1 (ca := ca) (ad := ad)) (by omega) (by omega) (by decide) ?_
  refine z_top (b := d (6 + k) 0) ((rv_ship (by omega) (by omega)).symm.trans (congrFun (congrFun hd6 _) _)) ?_
  refine z_icmp_le hC 50 dX8_could_43 (by decide) (by omega) (by omega) (fun c_7 => ?_) (fun c_7 => ?_)
  · refine z_aload_n hC dX8_could_50 rfl ?_
    refine z_iload_n hC dX8_could_51 rfl ?_
    refine z_iload_n hC dX8_could_52 rfl ?_
    refine z_callV hC [.int (iZ t), .int (iZ c)] 2 rfl dX8_could_53 (fun l => m_X8_isLate l G ca ad _ μ4 t ht d hd6 c (sArr d k c ((sEnd d k).1) ((sEnd d k).2.1)) (by omega) (by omega) hμ48 (by omega)) qM_X8_79 qI_X8_isLate qS_X8_isLate qi_X8 qC_X8_isLate (by decide +kernel) (by decide) (by decide) rl_0 (rd_0 (ca := ca) (ad := ad)) rfl (Nat.le_of_ble_eq_true rfl) (zk_pure ?_) rfl
    refine z_ifb_eq hC 63 dX8_could_56 (by decide) (fun c_8 => ?_) (fun c_8 => ?_)
    · refine z_iconst hC dX8_could_63 ?_
      exact z_iret hC dX8_could_64 ⟨by unfold sCould; rw [if_neg (by omega), if_neg (by unfold sMarg; omega)], rFr_tr hμ1f hμ4f, ⟨hμ48, hμ49, hμ4a, hμ4b⟩, by rw [hμ4k 13 (by omega)]; exact hμ1e13⟩
    · refine z_iconst hC dX8_could_59 ?_
      refine z_goto hC 64 dX8_could_60 (by decide) ?_
      exact z_iret hC dX8_could_64 ⟨by unfold sCould; rw [if_neg (by omega), if_pos (by unfold sMarg; omega)], rFr_tr hμ1f hμ4f, ⟨hμ48, hμ49, hμ4a, hμ4b⟩, by rw [hμ4k 13 (by omega)]; exact hμ1e13⟩
  · refine z_iconst hC dX8_could_46 ?_
    refine z_goto hC 64 dX8_could_47 (by decide) ?_
    exact z_iret hC dX8_could_64 ⟨by unfold sCould; rw [if_pos (by omega)], rFr_tr hμ1f hμ4f, ⟨hμ48, hμ49, hμ4a, hμ4b⟩, by rw [hμ4k 13 (by omega)]; exact hμ1e13⟩

set_option maxHeartbeats 4000000 in
set_option maxRecDepth 100000 in
/-- fixes(t, k, c) -/
theorem m_X8_fixes (l : Launch) (G : va_G) (ca : Nat → ClassId) (ad : Int → Nat) (A : Nat → Prop) (μ : zM) (t : Int) (ht : 0 ≤ t ∧ t ≤ 6) (d : zM) (hd : rv μ t = d) (k c : Int) (hk : 0 ≤ k ∧ k < 5) (hc : 0 ≤ c ∧ c < 10) (hn : 0 ≤ d (6 + k) 6 ∧ d (6 + k) 6 < 10) : zMet l (rω G ca ad) A yX8_fixes cX8_fixes 5 none 1 22 [.ref (ad 0), .int (iZ t), .int (iZ k), .int (iZ c)] μ (zpV (fun μ' => rv μ' t = zup (zup (zup (zup d (11 + k) (d (6 + k) 6) c) (6 + k) 6 (d (6 + k) 6 + 1)) (16 + c) 6 1) (16 + c) 7 k ∧ rF1 t μ μ')) := by
  refine zMet_of (by decide) (Nat.le_of_ble_eq_true rfl) (fun Γ hC => ?_)
  show Z Γ _ μ 0 [(0, .ref (ad 0)), (1, .int (iZ t)), (2, .int (iZ k)), (3, .int (iZ c))] []
  refine z_iload_n hC dX8_fixes_0 rfl ?_
  refine z_iload_n hC dX8_fixes_1 rfl ?_
  refine z_bipush hC dX8_fixes_2 (by decide) ?_
  refine z_callS hC [.int (iZ t), .int (iZ k), .int (iZ 6)] 3 rfl dX8_fixes_4 (fun l => m_X8_shipAt l _ _ _ t k 6) qM_X8_37 qT_X8_shipAt qi_X8 qC_X8_shipAt (by decide +kernel) (by decide) (by decide) (Nat.le_of_ble_eq_true rfl) (zk_pure ?_) rfl
  refine z_istore hC dX8_fixes_7 (by decide) rfl ?_
  refine z_aload_n hC dX8_fixes_9 rfl ?_
  refine z_get hC iA_X8 rfl 0 (by decide) qF_X8_7 rfl dX8_fixes_10 rl_0 (rd_0 (ca := ca) (ad := ad)) rfl ?_
  refine z_iload_n hC dX8_fixes_13 rfl ?_
  refine z_iload_n hC dX8_fixes_14 rfl ?_
  refine z_bipush hC dX8_fixes_15 (by decide) ?_
  refine z_aload_n hC dX8_fixes_17 rfl ?_
  refine z_get hC iA_X8 rfl 0 (by decide) qF_X8_7 rfl dX8_fixes_18 rl_0 (rd_0 (ca := ca) (ad := ad)) rfl ?_
  refine z_iload hC dX8_fixes_21 rfl ?_
  refine z_iald hC dX8_fixes_23 rl_1 (rd_1 (ca := ca) (ad := ad)) (by omega) (by omega) (by decide) ?_
  refine z_top (b := d (6 + k) 6) ((rv_ship (by omega) (by omega)).symm.trans (congrFun (congrFun hd _) _)) ?_
  refine z_iadd hC dX8_fixes_24 ?_
  refine z_callS hC [.int (iZ t), .int (iZ k), .int (iZ (7 + (d (6 + k) 6)))] 3 rfl dX8_fixes_25 (fun l => m_X8_shipAt l _ _ _ t k (7 + (d (6 + k) 6))) qM_X8_37 qT_X8_shipAt qi_X8 qC_X8_shipAt (by decide +kernel) (by decide) (by decide) (Nat.le_of_ble_eq_true rfl) (zk_pure ?_) rfl
  refine z_iload_n hC dX8_fixes_28 rfl ?_
  refine z_iast hC dX8_fixes_29 rl_1 (rd_1 (ca := ca) (ad := ad)) (by omega) (by omega) (by decide) ?_
  refine z_nm (fun μ1 hμ1 => ?_)
  obtain ⟨d3, hd3⟩ : ∃ q9 : zM, q9 = zup d (11 + k) (d (6 + k) 6) c := ⟨_, rfl⟩
  have hd2 : rv μ1 t = d3 := by rw [hμ1, rv_up (t := t) (o := (11 + k)) (i := (d (6 + k) 6)) (x := (190 * t + 17 + 18 * k + (7 + (d (6 + k) 6)))) (by unfold zrel; omega) (by rw [rp_fx (by omega)]; omega), hd, hd3]
  refine z_aload_n hC dX8_fixes_30 rfl ?_
  refine z_get hC iA_X8 rfl 0 (by decide) qF_X8_7 rfl dX8_fixes_31 rl_0 (rd_0 (ca := ca) (ad := ad)) rfl ?_
  refine z_iload hC dX8_fixes_34 rfl ?_
  refine z_dup2 hC dX8_fixes_36 rfl rfl ?_
  refine z_iald hC dX8_fixes_37 rl_1 (rd_1 (ca := ca) (ad := ad)) (by omega) (by omega) (by decide) ?_
  refine z_top (b := d3 (6 + k) 6) ((rv_ship (by omega) (by omega)).symm.trans (congrFun (congrFun hd2 _) _)) ?_
  refine z_top (b := d (6 + k) 6) (by rw [hd3, zup_n (by omega)]) ?_
  refine z_iconst hC dX8_fixes_38 ?_
  refine z_iadd hC dX8_fixes_39 ?_
  refine z_iast hC dX8_fixes_40 rl_1 (rd_1 (ca := ca) (ad := ad)) (by omega) (by omega) (by decide) ?_
  refine z_nm (fun μ4 hμ4 => ?_)
  obtain ⟨d6, hd6⟩ : ∃ q9 : zM, q9 = zup d3 (6 + k) 6 ((d (6 + k) 6) + 1) := ⟨_, rfl⟩
  have hd5 : rv μ4 t = d6 := by rw [hμ4, rv_up (t := t) (o := (6 + k)) (i := 6) (x := (190 * t + 17 + 18 * k + 6)) (by unfold zrel; omega) (by rw [rp_ship (by omega)]; omega), hd2, hd6]
  refine z_aload_n hC dX8_fixes_41 rfl ?_
  refine z_get hC iA_X8 rfl 0 (by decide) qF_X8_7 rfl dX8_fixes_42 rl_0 (rd_0 (ca := ca) (ad := ad)) rfl ?_
  refine z_iload_n hC dX8_fixes_45 rfl ?_
  refine z_iload_n hC dX8_fixes_46 rfl ?_
  refine z_bipush hC dX8_fixes_47 (by decide) ?_
  refine z_callS hC [.int (iZ t), .int (iZ c), .int (iZ 6)] 3 rfl dX8_fixes_49 (fun l => m_X8_cargoAt l _ _ _ t c 6) qM_X8_44 qT_X8_cargoAt qi_X8 qC_X8_cargoAt (by decide +kernel) (by decide) (by decide) (Nat.le_of_ble_eq_true rfl) (zk_pure ?_) rfl
  refine z_iconst hC dX8_fixes_52 ?_
  refine z_iast hC dX8_fixes_53 rl_1 (rd_1 (ca := ca) (ad := ad)) (by omega) (by omega) (by decide) ?_
  refine z_nm (fun μ7 hμ7 => ?_)
  obtain ⟨d9, hd9⟩ : ∃ q9 : zM, q9 = zup d6 (16 + c) 6 1 := ⟨_, rfl⟩
  have hd8 : rv μ7 t = d9 := by rw [hμ7, rv_up (t := t) (o := (16 + c)) (i := 6) (x := (190 * t + 108 + 8 * c + 6)) (by unfold zrel; omega) (by rw [rp_cargo (by omega)]; omega), hd5, hd9]
  refine z_aload_n hC dX8_fixes_54 rfl ?_
  refine z_get hC iA_X8 rfl 0 (by decide) qF_X8_7 rfl dX8_fixes_55 rl_0 (rd_0 (ca := ca) (ad := ad)) rfl ?_
  refine z_iload_n hC dX8_fixes_58 rfl ?_
  refine z_iload_n hC dX8_fixes_59 rfl ?_
  refine z_bipush hC dX8_fixes_60 (by decide) ?_
  refine z_callS hC [.int (iZ t), .int (iZ c), .int (iZ 7)] 3 rfl dX8_fixes_62 (fun l => m_X8_cargoAt l _ _ _ t c 7) qM_X8_44 qT_X8_cargoAt qi_X8 qC_X8_cargoAt (by decide +kernel) (by decide) (by decide) (Nat.le_of_ble_eq_true rfl) (zk_pure ?_) rfl
  refine z_iload_n hC dX8_fixes_65 rfl ?_
  refine z_iast hC dX8_fixes_66 rl_1 (rd_1 (ca := ca) (ad := ad)) (by omega) (by omega) (by decide) ?_
  refine z_nm (fun μ10 hμ10 => ?_)
  obtain ⟨d12, hd12⟩ : ∃ q9 : zM, q9 = zup d9 (16 + c) 7 k := ⟨_, rfl⟩
  have hd11 : rv μ10 t = d12 := by rw [hμ10, rv_up (t := t) (o := (16 + c)) (i := 7) (x := (190 * t + 108 + 8 * c + 7)) (by unfold zrel; omega) (by rw [rp_cargo (by omega)]; omega), hd8, hd12]
  exact z_vret hC dX8_fixes_67 ⟨rfl, by rw [hd11, hd12, hd9, hd6, hd3], fun c9 hc9 => by rw [hμ10, zup_o hc9, hμ7, zup_o hc9, hμ4, zup_o hc9, hμ1, zup_o hc9], fun x9 hx9 => by rw [hμ10, zup_n (by omega), hμ7, zup_n (by omega), hμ4, zup_n (by omega), hμ1, zup_n (by omega)]⟩

/-- what an order leaves: all behind slot 0, what was typed and told, the object's numbers below 8 -/
def rSl (μ μ' : zM) : Prop := (∀ c, 2 ≤ c → μ' c = μ c) ∧ (∀ i, i < 8 → μ' 0 i = μ 0 i) ∧ ∀ x, 190 ≤ x → μ' 1 x = μ 1 x
