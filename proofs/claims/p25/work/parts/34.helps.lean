/-! THE LAW'S HELPS: a ship's fixtures hang together; all hangs together -/
set_option maxHeartbeats 4000000 in
set_option maxRecDepth 100000 in
/-- hangs(o, k) -/
theorem m_L_hangs (l : Launch) (G : va_G) (ca : Nat → ClassId) (ad : Int → Nat) (A : Nat → Prop) (μ : zM) (d : zM) (n : Int) (h : Int → zM) (L : Int) (t : Int → Int) (hX : zSt μ d n h L t) (hI2 : zIn2 d) (k : Int) (hk : 0 ≤ k ∧ k < d 0 4) : zMet l (cω G ca ad) A yL_hangs cL_hangs 14 (some .boolean) 5 134 [.ref (ad 156), .int (iZ k)] μ (zpI (.int (iZ 1)) (fun μ' => zSt μ' d n h L t)) := by
  refine zMet_of (by decide) (Nat.le_of_ble_eq_true rfl) (fun Γ hC => ?_)
  show Z Γ _ μ 0 [(0, .ref (ad 156)), (1, .int (iZ k))] []
  have hI : zInv d := hI2.1
  obtain ⟨hB, _⟩ := id hI
  obtain ⟨hN, hP, hB3, hB4⟩ := id hB
  obtain ⟨hN1, hN2⟩ := id hN
  have hG := zInv_G hI
  obtain ⟨hs0, hs1, hs2, hs3, hs4, hs6⟩ := hB3 k hk
  have hNe := sNum_e (d := d) (k := k) hs6.1
  refine z_aload_n hC dL_hangs_0 rfl ?_
  refine z_iload_n hC dL_hangs_1 rfl ?_
  refine z_iconst hC dL_hangs_2 ?_
  refine z_callV hC [.int (iZ k), .int (iZ 5)] 2 rfl dL_hangs_3 (fun l => m_X7_shipOf l G ca ad _ μ d n h L t hX hI k 5 (by omega) (by omega)) qM_L_8 qI_X7_shipOf qS_X7_shipOf qi_X7 qC_X7_shipOf (by decide +kernel) (by decide) (by decide) cl_main (cd_main (ca := ca) (ad := ad)) rfl (Nat.le_of_ble_eq_true rfl) (zk_int (fun μ1 hμ1 => ?_)) rfl
  refine z_top (b := d (6 + k) 3) (ask_s5 (by omega)) ?_
  refine z_istore_n hC dL_hangs_6 (by decide) rfl ?_
  refine z_aload_n hC dL_hangs_7 rfl ?_
  refine z_iload_n hC dL_hangs_8 rfl ?_
  refine z_bipush hC dL_hangs_9 (by decide) ?_
  refine z_callV hC [.int (iZ k), .int (iZ 6)] 2 rfl dL_hangs_11 (fun l => m_X7_shipOf l G ca ad _ μ1 d n h L t hμ1 hI k 6 (by omega) (by omega)) qM_L_8 qI_X7_shipOf qS_X7_shipOf qi_X7 qC_X7_shipOf (by decide +kernel) (by decide) (by decide) cl_main (cd_main (ca := ca) (ad := ad)) rfl (Nat.le_of_ble_eq_true rfl) (zk_int (fun μ2 hμ2 => ?_)) rfl
  refine z_top (b := d (6 + k) 4) (ask_s6 (by omega)) ?_
  refine z_istore_n hC dL_hangs_14 (by decide) rfl ?_
  refine z_aload_n hC dL_hangs_15 rfl ?_
  refine z_iload_n hC dL_hangs_16 rfl ?_
  refine z_bipush hC dL_hangs_17 (by decide) ?_
  refine z_callV hC [.int (iZ k), .int (iZ 7)] 2 rfl dL_hangs_19 (fun l => m_X7_shipOf l G ca ad _ μ2 d n h L t hμ2 hI k 7 (by omega) (by omega)) qM_L_8 qI_X7_shipOf qS_X7_shipOf qi_X7 qC_X7_shipOf (by decide +kernel) (by decide) (by decide) cl_main (cd_main (ca := ca) (ad := ad)) rfl (Nat.le_of_ble_eq_true rfl) (zk_int (fun μ3 hμ3 => ?_)) rfl
  refine z_top (b := d (6 + k) 6) (ask_s7 (by omega)) ?_
  refine z_istore hC dL_hangs_22 (by decide) rfl ?_
  refine z_iconst hC dL_hangs_24 ?_
  refine z_istore hC dL_hangs_25 (by decide) rfl ?_
  refine z_aload_n hC dL_hangs_27 rfl ?_
  refine z_iload_n hC dL_hangs_28 rfl ?_
  refine z_iload hC dL_hangs_29 rfl ?_
  refine z_iconst hC dL_hangs_31 ?_
  refine z_callV hC [.int (iZ k), .int (iZ (d (6 + k) 6)), .int (iZ 0)] 3 rfl dL_hangs_32 (fun l => m_X7_fixtureOf l G ca ad _ μ3 d n h L t hμ3 hI k (d (6 + k) 6) 0 (by omega) (by omega) (by omega)) qM_L_14 qI_X7_fixtureOf qS_X7_fixtureOf qi_X7 qC_X7_fixtureOf (by decide +kernel) (by decide) (by decide) cl_main (cd_main (ca := ca) (ad := ad)) rfl (Nat.le_of_ble_eq_true rfl) (zk_int (fun μ4 hμ4 => ?_)) rfl
  refine z_top (b := -1000004) (ask_fe (by omega) (by omega) (Int.le_refl _)) ?_
  refine z_ldc hC (-1000004) qc_L_18 rfl dL_hangs_35 ?_
  refine z_sameN hC 44 (rfl) dL_hangs_37 (by decide) ?_
  refine z_iconst hC dL_hangs_40 ?_
  refine z_goto hC 45 dL_hangs_41 (by decide) ?_
  refine z_istore hC dL_hangs_45 (by decide) rfl ?_
  refine z_iconst hC dL_hangs_47 ?_
  refine z_istore hC dL_hangs_48 (by decide) rfl ?_
  have LOOP : ∀ (r i : Nat), i + r = sNum d k → ∀ (μ1 : zM) (P T S : Int), P = (sPos d k i).1 → T = (sPos d k i).2.1 → S = (sPos d k i).2.2 → zSt μ1 d n h L t → Z Γ (cω G ca ad) μ1 50 [(7, .int (iZ (i : Int))), (6, .int (iZ 1)), (5, .int (iZ S)), (4, .int (iZ (d (6 + k) 6))), (3, .int (iZ T)), (2, .int (iZ P)), (1, .int (iZ k)), (0, .ref (ad 156))] [] := by
    intro r
    induction r with
    | zero =>
      intro i hi μ1 P T S hP1 hT1 hS1 hμ1
      refine z_iload hC dL_hangs_50 rfl ?_
      refine z_iload hC dL_hangs_52 rfl ?_
      refine z_icmp_ge hC 354 dL_hangs_54 (by decide) (by omega) (by omega) (fun c_5 => ?_) (fun c_5 => ?_)
      · obtain rfl : i = sNum d k := by omega
        refine z_iload hC dL_hangs_354 rfl ?_
        refine z_if_eq hC 413 dL_hangs_356 (by decide) (by omega) (fun c_6 => ?_) (fun c_6 => ?_)
        · exfalso; omega
        · refine z_aload_n hC dL_hangs_359 rfl ?_
          refine z_iload_n hC dL_hangs_360 rfl ?_
          refine z_iconst hC dL_hangs_361 ?_
          refine z_callV hC [.int (iZ k), .int (iZ 3)] 2 rfl dL_hangs_362 (fun l => m_X7_shipOf l G ca ad _ μ1 d n h L t hμ1 hI k 3 (by omega) (by omega)) qM_L_8 qI_X7_shipOf qS_X7_shipOf qi_X7 qC_X7_shipOf (by decide +kernel) (by decide) (by decide) cl_main (cd_main (ca := ca) (ad := ad)) rfl (Nat.le_of_ble_eq_true rfl) (zk_int (fun μ7 hμ7 => ?_)) rfl
          refine z_top (b := (sEnd d k).1) (ask_s3 (by omega)) ?_
          refine z_iload_n hC dL_hangs_365 rfl ?_
          refine z_sameN hC 413 (congrArg iZ hP1.symm) dL_hangs_366 (by decide) ?_
          refine z_aload_n hC dL_hangs_369 rfl ?_
          refine z_iload_n hC dL_hangs_370 rfl ?_
          refine z_iconst hC dL_hangs_371 ?_
          refine z_callV hC [.int (iZ k), .int (iZ 4)] 2 rfl dL_hangs_372 (fun l => m_X7_shipOf l G ca ad _ μ7 d n h L t hμ7 hI k 4 (by omega) (by omega)) qM_L_8 qI_X7_shipOf qS_X7_shipOf qi_X7 qC_X7_shipOf (by decide +kernel) (by decide) (by decide) cl_main (cd_main (ca := ca) (ad := ad)) rfl (Nat.le_of_ble_eq_true rfl) (zk_int (fun μ8 hμ8 => ?_)) rfl
          refine z_top (b := (sEnd d k).2.1) (ask_s4 (by omega)) ?_
          refine z_iload_n hC dL_hangs_375 rfl ?_
          refine z_sameN hC 413 (congrArg iZ hT1.symm) dL_hangs_376 (by decide) ?_
          refine z_aload_n hC dL_hangs_379 rfl ?_
          refine z_iload_n hC dL_hangs_380 rfl ?_
          refine z_bipush hC dL_hangs_381 (by decide) ?_
          refine z_callV hC [.int (iZ k), .int (iZ 9)] 2 rfl dL_hangs_383 (fun l => m_X7_shipOf l G ca ad _ μ8 d n h L t hμ8 hI k 9 (by omega) (by omega)) qM_L_8 qI_X7_shipOf qS_X7_shipOf qi_X7 qC_X7_shipOf (by decide +kernel) (by decide) (by decide) cl_main (cd_main (ca := ca) (ad := ad)) rfl (Nat.le_of_ble_eq_true rfl) (zk_int (fun μ9 hμ9 => ?_)) rfl
          refine z_top (b := (sEnd d k).2.2 + 1000000) (ask_s9 (by omega)) ?_
          refine z_iload hC dL_hangs_386 rfl ?_
          refine z_ldc hC (1000000) qc_L_25 rfl dL_hangs_388 ?_
          refine z_iadd hC dL_hangs_390 ?_
          refine z_sameN hC 413 (by rw [hS1]; rfl) dL_hangs_391 (by decide) ?_
          refine z_iload hC dL_hangs_394 rfl ?_
          refine z_if_gt hC 409 dL_hangs_396 (by decide) (by omega) (fun c_10 => ?_) (fun c_10 => ?_)
          · refine z_iconst hC dL_hangs_409 ?_
            refine z_goto hC 414 dL_hangs_410 (by decide) ?_
            exact z_zret1 hC dL_hangs_414 ⟨rfl, hμ9⟩
          · refine z_aload_n hC dL_hangs_399 rfl ?_
            refine z_iload_n hC dL_hangs_400 rfl ?_
            refine z_callV hC [.int (iZ k)] 1 rfl dL_hangs_401 (fun l => m_X7_slack l G ca ad _ μ9 d n h L t hμ9 hI k (by omega)) qM_L_26 qI_X7_slack qS_X7_slack qi_X7 qC_X7_slack (by decide +kernel) (by decide) (by decide) cl_main (cd_main (ca := ca) (ad := ad)) rfl (Nat.le_of_ble_eq_true rfl) (zk_int (fun μ11 hμ11 => ?_)) rfl
            refine z_top (b := sL d k (sNum d k)) (ask_k (by omega)) ?_
            refine z_ldc hC (-1000004) qc_L_18 rfl dL_hangs_404 ?_
            refine z_sameN hC 413 (by rw [show sNum d k = 0 by omega]; rfl) dL_hangs_406 (by decide) ?_
            refine z_iconst hC dL_hangs_409 ?_
            refine z_goto hC 414 dL_hangs_410 (by decide) ?_
            exact z_zret1 hC dL_hangs_414 ⟨rfl, hμ11⟩
      · exfalso; omega
    | succ r ih =>
      intro i hi μ1 P T S hP1 hT1 hS1 hμ1
      obtain ⟨c, hc⟩ : ∃ c, c = d (11 + k) (i : Int) := ⟨_, rfl⟩
      have hcr := zInv_F hI k hk (i : Int) (by omega)
      rw [← hc] at hcr
      have hg2 := (zInv_G hI k hk).2 i (by omega)
      rw [← hP1, ← hT1] at hg2
      have hcc := hB4 c hcr
      obtain ⟨hc0, hc1, hc2, hc3, hc4, hc5, hc6⟩ := id hcc
      have hm := hI.2.2.2.2.2.2 k hk i (by omega)
      rw [← hc, ← hP1, ← hT1] at hm
      have hst := hI.2.2.2.2.1 k hk (i : Int) (by omega)
      rw [← hc] at hst
      have hft := hI2.2.2 k hk (i : Int) (by omega)
      rw [← hc] at hft
      have hf1 := sFar_b hP hg2.1 hc1
      have hf2 := sFar_b hP hc1 hc2
      have hq1 := sArr_b (t := T) hP hs1 hcc hg2.1
      have hq2 := sLoad_b (t := T) hP hs1 hcc hg2.1
      have hq3 := sFree_b (t := T) hP hs1 hcc hg2.1
      have hle : sArr d k c P T ≤ d (16 + c) 4 := by unfold sMarg at hm; omega
      refine z_iload hC dL_hangs_50 rfl ?_
      refine z_iload hC dL_hangs_52 rfl ?_
      refine z_icmp_ge hC 354 dL_hangs_54 (by decide) (by omega) (by omega) (fun c_12 => ?_) (fun c_12 => ?_)
      · exfalso; omega
      · refine z_iload hC dL_hangs_57 rfl ?_
        refine z_if_eq hC 354 dL_hangs_59 (by decide) (by omega) (fun c_13 => ?_) (fun c_13 => ?_)
        · exfalso; omega
        · refine z_aload_n hC dL_hangs_62 rfl ?_
          refine z_iload_n hC dL_hangs_63 rfl ?_
          refine z_iload hC dL_hangs_64 rfl ?_
          refine z_iconst hC dL_hangs_66 ?_
          refine z_callV hC [.int (iZ k), .int (iZ (i : Int)), .int (iZ 0)] 3 rfl dL_hangs_67 (fun l => m_X7_fixtureOf l G ca ad _ μ1 d n h L t hμ1 hI k (i : Int) 0 (by omega) (by omega) (by omega)) qM_L_14 qI_X7_fixtureOf qS_X7_fixtureOf qi_X7 qC_X7_fixtureOf (by decide +kernel) (by decide) (by decide) cl_main (cd_main (ca := ca) (ad := ad)) rfl (Nat.le_of_ble_eq_true rfl) (zk_int (fun μ14 hμ14 => ?_)) rfl
          refine z_top (b := c) ((ask_f0 (by omega) (by omega)).trans hc.symm) ?_
          refine z_istore hC dL_hangs_70 (by decide) rfl ?_
          refine z_bipush hC dL_hangs_72 (by decide) ?_
          refine z_aload_n hC dL_hangs_74 rfl ?_
          refine z_iload_n hC dL_hangs_75 rfl ?_
          refine z_iconst hC dL_hangs_76 ?_
          refine z_callV hC [.int (iZ k), .int (iZ 1)] 2 rfl dL_hangs_77 (fun l => m_X7_shipOf l G ca ad _ μ14 d n h L t hμ14 hI k 1 (by omega) (by omega)) qM_L_8 qI_X7_shipOf qS_X7_shipOf qi_X7 qC_X7_shipOf (by decide +kernel) (by decide) (by decide) cl_main (cd_main (ca := ca) (ad := ad)) rfl (Nat.le_of_ble_eq_true rfl) (zk_int (fun μ15 hμ15 => ?_)) rfl
          refine z_top (b := d (6 + k) 1) (ask_s1 (by omega)) ?_
          refine z_imul hC dL_hangs_80 ?_
          refine z_istore hC dL_hangs_81 (by decide) rfl ?_
          refine z_iload_n hC dL_hangs_83 rfl ?_
          refine z_aload_n hC dL_hangs_84 rfl ?_
          refine z_iload_n hC dL_hangs_85 rfl ?_
          refine z_aload_n hC dL_hangs_86 rfl ?_
          refine z_iload hC dL_hangs_87 rfl ?_
          refine z_iconst hC dL_hangs_89 ?_
          refine z_callV hC [.int (iZ c), .int (iZ 1)] 2 rfl dL_hangs_90 (fun l => m_X7_cargoOf l G ca ad _ μ15 d n h L t hμ15 hI c 1 (by omega) (by omega)) qM_L_19 qI_X7_cargoOf qS_X7_cargoOf qi_X7 qC_X7_cargoOf (by decide +kernel) (by decide) (by decide) cl_main (cd_main (ca := ca) (ad := ad)) rfl (Nat.le_of_ble_eq_true rfl) (zk_int (fun μ16 hμ16 => ?_)) rfl
          refine z_top (b := d (16 + c) 1) (ask_c1 (by omega)) ?_
          refine z_callV hC [.int (iZ P), .int (iZ (d (16 + c) 1))] 2 rfl dL_hangs_93 (fun l => m_X7_distance l G ca ad _ μ16 d n h L t hμ16 hI P (d (16 + c) 1) (by omega) (by omega)) qM_L_22 qI_X7_distance qS_X7_distance qi_X7 qC_X7_distance (by decide +kernel) (by decide) (by decide) cl_main (cd_main (ca := ca) (ad := ad)) rfl (Nat.le_of_ble_eq_true rfl) (zk_int (fun μ17 hμ17 => ?_)) rfl
          refine z_top (b := sFar d P (d (16 + c) 1)) (ask_d (by omega) (by omega)) ?_
          refine z_iload hC dL_hangs_96 rfl ?_
          refine z_iadd hC dL_hangs_98 ?_
          refine z_iconst hC dL_hangs_99 ?_
          refine z_isub hC dL_hangs_100 ?_
          refine z_iload hC dL_hangs_101 rfl ?_
          refine z_idiv hC dL_hangs_103 (by omega) (by omega) ?_
          refine z_iadd hC dL_hangs_104 ?_
          refine z_top (b := sArr d k c P T) (rfl) ?_
          refine z_istore hC dL_hangs_105 (by decide) rfl ?_
          have J : ∀ μ2 : zM, zSt μ2 d n h L t → Z Γ (cω G ca ad) μ2 131 [(10, .int (iZ (sArr d k c P T))), (9, .int (iZ (24 * d (6 + k) 1))), (8, .int (iZ c)), (7, .int (iZ (i : Int))), (6, .int (iZ 1)), (5, .int (iZ S)), (4, .int (iZ (d (6 + k) 6))), (3, .int (iZ T)), (2, .int (iZ P)), (1, .int (iZ k)), (0, .ref (ad 156))] [.int (iZ (sLoad d k c P T))] := by
            intro μ2 hμ2
            refine z_istore hC dL_hangs_131 (by decide) rfl ?_
            refine z_iload hC dL_hangs_133 rfl ?_
            refine z_iconst hC dL_hangs_135 ?_
            refine z_iadd hC dL_hangs_136 ?_
            refine z_aload_n hC dL_hangs_137 rfl ?_
            refine z_aload_n hC dL_hangs_138 rfl ?_
            refine z_iload hC dL_hangs_139 rfl ?_
            refine z_iconst hC dL_hangs_141 ?_
            refine z_callV hC [.int (iZ c), .int (iZ 1)] 2 rfl dL_hangs_142 (fun l => m_X7_cargoOf l G ca ad _ μ2 d n h L t hμ2 hI c 1 (by omega) (by omega)) qM_L_19 qI_X7_cargoOf qS_X7_cargoOf qi_X7 qC_X7_cargoOf (by decide +kernel) (by decide) (by decide) cl_main (cd_main (ca := ca) (ad := ad)) rfl (Nat.le_of_ble_eq_true rfl) (zk_int (fun μ18 hμ18 => ?_)) rfl
            refine z_top (b := d (16 + c) 1) (ask_c1 (by omega)) ?_
            refine z_aload_n hC dL_hangs_145 rfl ?_
            refine z_iload hC dL_hangs_146 rfl ?_
            refine z_iconst hC dL_hangs_148 ?_
            refine z_callV hC [.int (iZ c), .int (iZ 2)] 2 rfl dL_hangs_149 (fun l => m_X7_cargoOf l G ca ad _ μ18 d n h L t hμ18 hI c 2 (by omega) (by omega)) qM_L_19 qI_X7_cargoOf qS_X7_cargoOf qi_X7 qC_X7_cargoOf (by decide +kernel) (by decide) (by decide) cl_main (cd_main (ca := ca) (ad := ad)) rfl (Nat.le_of_ble_eq_true rfl) (zk_int (fun μ19 hμ19 => ?_)) rfl
            refine z_top (b := d (16 + c) 2) (ask_c2 (by omega)) ?_
            refine z_callV hC [.int (iZ (d (16 + c) 1)), .int (iZ (d (16 + c) 2))] 2 rfl dL_hangs_152 (fun l => m_X7_distance l G ca ad _ μ19 d n h L t hμ19 hI (d (16 + c) 1) (d (16 + c) 2) (by omega) (by omega)) qM_L_22 qI_X7_distance qS_X7_distance qi_X7 qC_X7_distance (by decide +kernel) (by decide) (by decide) cl_main (cd_main (ca := ca) (ad := ad)) rfl (Nat.le_of_ble_eq_true rfl) (zk_int (fun μ20 hμ20 => ?_)) rfl
            refine z_top (b := sFar d (d (16 + c) 1) (d (16 + c) 2)) (ask_d (by omega) (by omega)) ?_
            refine z_iload hC dL_hangs_155 rfl ?_
            refine z_iadd hC dL_hangs_157 ?_
            refine z_iconst hC dL_hangs_158 ?_
            refine z_isub hC dL_hangs_159 ?_
            refine z_iload hC dL_hangs_160 rfl ?_
            refine z_idiv hC dL_hangs_162 (by omega) (by omega) ?_
            refine z_top (b := sSail d k (d (16 + c) 1) (d (16 + c) 2)) (rfl) ?_
            refine z_iadd hC dL_hangs_163 ?_
            refine z_top (b := sFree d k c P T) (by unfold sFree; omega) ?_
            refine z_istore hC dL_hangs_164 (by decide) rfl ?_
            refine z_aload_n hC dL_hangs_166 rfl ?_
            refine z_iload hC dL_hangs_167 rfl ?_
            refine z_iconst hC dL_hangs_169 ?_
            refine z_callV hC [.int (iZ c), .int (iZ 0)] 2 rfl dL_hangs_170 (fun l => m_X7_cargoOf l G ca ad _ μ20 d n h L t hμ20 hI c 0 (by omega) (by omega)) qM_L_19 qI_X7_cargoOf qS_X7_cargoOf qi_X7 qC_X7_cargoOf (by decide +kernel) (by decide) (by decide) cl_main (cd_main (ca := ca) (ad := ad)) rfl (Nat.le_of_ble_eq_true rfl) (zk_int (fun μ21 hμ21 => ?_)) rfl
            refine z_top (b := d (16 + c) 0) (ask_c0 (by omega)) ?_
            refine z_aload_n hC dL_hangs_173 rfl ?_
            refine z_iload hC dL_hangs_174 rfl ?_
            refine z_iconst hC dL_hangs_176 ?_
            refine z_callV hC [.int (iZ c), .int (iZ 5)] 2 rfl dL_hangs_177 (fun l => m_X7_cargoOf l G ca ad _ μ21 d n h L t hμ21 hI c 5 (by omega) (by omega)) qM_L_19 qI_X7_cargoOf qS_X7_cargoOf qi_X7 qC_X7_cargoOf (by decide +kernel) (by decide) (by decide) cl_main (cd_main (ca := ca) (ad := ad)) rfl (Nat.le_of_ble_eq_true rfl) (zk_int (fun μ22 hμ22 => ?_)) rfl
            refine z_top (b := d (16 + c) 5) (ask_c5 (by omega)) ?_
            refine z_imul hC dL_hangs_180 ?_
            refine z_iload hC dL_hangs_181 rfl ?_
            refine z_iload_n hC dL_hangs_183 rfl ?_
            refine z_isub hC dL_hangs_184 ?_
            refine z_aload_n hC dL_hangs_185 rfl ?_
            refine z_iload_n hC dL_hangs_186 rfl ?_
            refine z_iconst hC dL_hangs_187 ?_
            refine z_callV hC [.int (iZ k), .int (iZ 2)] 2 rfl dL_hangs_188 (fun l => m_X7_shipOf l G ca ad _ μ22 d n h L t hμ22 hI k 2 (by omega) (by omega)) qM_L_8 qI_X7_shipOf qS_X7_shipOf qi_X7 qC_X7_shipOf (by decide +kernel) (by decide) (by decide) cl_main (cd_main (ca := ca) (ad := ad)) rfl (Nat.le_of_ble_eq_true rfl) (zk_int (fun μ23 hμ23 => ?_)) rfl
            refine z_top (b := d (6 + k) 2) (ask_s2 (by omega)) ?_
            refine z_imul hC dL_hangs_191 ?_
            refine z_isub hC dL_hangs_192 ?_
            refine z_top (b := sEarn d k c P T) (rfl) ?_
            refine z_istore hC dL_hangs_193 (by decide) rfl ?_
            refine z_aload_n hC dL_hangs_195 rfl ?_
            refine z_iload hC dL_hangs_196 rfl ?_
            refine z_bipush hC dL_hangs_198 (by decide) ?_
            refine z_callV hC [.int (iZ c), .int (iZ 6)] 2 rfl dL_hangs_200 (fun l => m_X7_cargoOf l G ca ad _ μ23 d n h L t hμ23 hI c 6 (by omega) (by omega)) qM_L_19 qI_X7_cargoOf qS_X7_cargoOf qi_X7 qC_X7_cargoOf (by decide +kernel) (by decide) (by decide) cl_main (cd_main (ca := ca) (ad := ad)) rfl (Nat.le_of_ble_eq_true rfl) (zk_int (fun μ24 hμ24 => ?_)) rfl
            refine z_top (b := d (16 + c) 6) (ask_c6 (by omega)) ?_
            refine z_iconst hC dL_hangs_203 ?_
            refine z_sameN hC 327 (congrArg iZ hst) dL_hangs_204 (by decide) ?_
            refine z_aload_n hC dL_hangs_207 rfl ?_
            refine z_iload hC dL_hangs_208 rfl ?_
            refine z_bipush hC dL_hangs_210 (by decide) ?_
            refine z_callV hC [.int (iZ c), .int (iZ 7)] 2 rfl dL_hangs_212 (fun l => m_X7_cargoOf l G ca ad _ μ24 d n h L t hμ24 hI c 7 (by omega) (by omega)) qM_L_19 qI_X7_cargoOf qS_X7_cargoOf qi_X7 qC_X7_cargoOf (by decide +kernel) (by decide) (by decide) cl_main (cd_main (ca := ca) (ad := ad)) rfl (Nat.le_of_ble_eq_true rfl) (zk_int (fun μ25 hμ25 => ?_)) rfl
            refine z_top (b := d (16 + c) 7) (ask_c7 (by omega) hst) ?_
            refine z_iload_n hC dL_hangs_215 rfl ?_
            refine z_sameN hC 327 (congrArg iZ hft.1) dL_hangs_216 (by decide) ?_
            refine z_aload_n hC dL_hangs_219 rfl ?_
            refine z_iload hC dL_hangs_220 rfl ?_
            refine z_iconst hC dL_hangs_222 ?_
            refine z_callV hC [.int (iZ c), .int (iZ 0)] 2 rfl dL_hangs_223 (fun l => m_X7_cargoOf l G ca ad _ μ25 d n h L t hμ25 hI c 0 (by omega) (by omega)) qM_L_19 qI_X7_cargoOf qS_X7_cargoOf qi_X7 qC_X7_cargoOf (by decide +kernel) (by decide) (by decide) cl_main (cd_main (ca := ca) (ad := ad)) rfl (Nat.le_of_ble_eq_true rfl) (zk_int (fun μ26 hμ26 => ?_)) rfl
            refine z_top (b := d (16 + c) 0) (ask_c0 (by omega)) ?_
            refine z_aload_n hC dL_hangs_226 rfl ?_
            refine z_iload_n hC dL_hangs_227 rfl ?_
            refine z_iconst hC dL_hangs_228 ?_
            refine z_callV hC [.int (iZ k), .int (iZ 0)] 2 rfl dL_hangs_229 (fun l => m_X7_shipOf l G ca ad _ μ26 d n h L t hμ26 hI k 0 (by omega) (by omega)) qM_L_8 qI_X7_shipOf qS_X7_shipOf qi_X7 qC_X7_shipOf (by decide +kernel) (by decide) (by decide) cl_main (cd_main (ca := ca) (ad := ad)) rfl (Nat.le_of_ble_eq_true rfl) (zk_int (fun μ27 hμ27 => ?_)) rfl
            refine z_top (b := d (6 + k) 0) (ask_s0 (by omega)) ?_
            refine z_icmp_gt hC 327 dL_hangs_232 (by decide) (by omega) (by omega) (fun c_28 => ?_) (fun c_28 => ?_)
            · exfalso; omega
            · refine z_iload hC dL_hangs_235 rfl ?_
              refine z_aload_n hC dL_hangs_237 rfl ?_
              refine z_iload hC dL_hangs_238 rfl ?_
              refine z_iconst hC dL_hangs_240 ?_
              refine z_callV hC [.int (iZ c), .int (iZ 4)] 2 rfl dL_hangs_241 (fun l => m_X7_cargoOf l G ca ad _ μ27 d n h L t hμ27 hI c 4 (by omega) (by omega)) qM_L_19 qI_X7_cargoOf qS_X7_cargoOf qi_X7 qC_X7_cargoOf (by decide +kernel) (by decide) (by decide) cl_main (cd_main (ca := ca) (ad := ad)) rfl (Nat.le_of_ble_eq_true rfl) (zk_int (fun μ29 hμ29 => ?_)) rfl
              refine z_top (b := d (16 + c) 4) (ask_c4 (by omega)) ?_
              refine z_icmp_gt hC 327 dL_hangs_244 (by decide) (by omega) (by omega) (fun c_30 => ?_) (fun c_30 => ?_)
              · exfalso; omega
              · refine z_aload_n hC dL_hangs_247 rfl ?_
                refine z_iload_n hC dL_hangs_248 rfl ?_
                refine z_iload hC dL_hangs_249 rfl ?_
                refine z_iconst hC dL_hangs_251 ?_
                refine z_callV hC [.int (iZ k), .int (iZ (i : Int)), .int (iZ 1)] 3 rfl dL_hangs_252 (fun l => m_X7_fixtureOf l G ca ad _ μ29 d n h L t hμ29 hI k (i : Int) 1 (by omega) (by omega) (by omega)) qM_L_14 qI_X7_fixtureOf qS_X7_fixtureOf qi_X7 qC_X7_fixtureOf (by decide +kernel) (by decide) (by decide) cl_main (cd_main (ca := ca) (ad := ad)) rfl (Nat.le_of_ble_eq_true rfl) (zk_int (fun μ31 hμ31 => ?_)) rfl
                refine z_top (b := sArr d k c P T) ((ask_f1 (by omega) (by omega)).trans (by rw [← hc, ← hP1, ← hT1])) ?_
                refine z_iload hC dL_hangs_255 rfl ?_
                refine z_sameN hC 327 (rfl) dL_hangs_257 (by decide) ?_
                refine z_aload_n hC dL_hangs_260 rfl ?_
                refine z_iload_n hC dL_hangs_261 rfl ?_
                refine z_iload hC dL_hangs_262 rfl ?_
                refine z_iconst hC dL_hangs_264 ?_
                refine z_callV hC [.int (iZ k), .int (iZ (i : Int)), .int (iZ 2)] 3 rfl dL_hangs_265 (fun l => m_X7_fixtureOf l G ca ad _ μ31 d n h L t hμ31 hI k (i : Int) 2 (by omega) (by omega) (by omega)) qM_L_14 qI_X7_fixtureOf qS_X7_fixtureOf qi_X7 qC_X7_fixtureOf (by decide +kernel) (by decide) (by decide) cl_main (cd_main (ca := ca) (ad := ad)) rfl (Nat.le_of_ble_eq_true rfl) (zk_int (fun μ32 hμ32 => ?_)) rfl
                refine z_top (b := sLoad d k c P T) ((ask_f2 (by omega) (by omega)).trans (by rw [← hc, ← hP1, ← hT1])) ?_
                refine z_iload hC dL_hangs_268 rfl ?_
                refine z_sameN hC 327 (rfl) dL_hangs_270 (by decide) ?_
                refine z_aload_n hC dL_hangs_273 rfl ?_
                refine z_iload_n hC dL_hangs_274 rfl ?_
                refine z_iload hC dL_hangs_275 rfl ?_
                refine z_iconst hC dL_hangs_277 ?_
                refine z_callV hC [.int (iZ k), .int (iZ (i : Int)), .int (iZ 3)] 3 rfl dL_hangs_278 (fun l => m_X7_fixtureOf l G ca ad _ μ32 d n h L t hμ32 hI k (i : Int) 3 (by omega) (by omega) (by omega)) qM_L_14 qI_X7_fixtureOf qS_X7_fixtureOf qi_X7 qC_X7_fixtureOf (by decide +kernel) (by decide) (by decide) cl_main (cd_main (ca := ca) (ad := ad)) rfl (Nat.le_of_ble_eq_true rfl) (zk_int (fun μ33 hμ33 => ?_)) rfl
                refine z_top (b := sFree d k c P T) ((ask_f3 (by omega) (by omega)).trans (by rw [← hc, ← hP1, ← hT1])) ?_
                refine z_iload hC dL_hangs_281 rfl ?_
                refine z_sameN hC 327 (rfl) dL_hangs_283 (by decide) ?_
                refine z_aload_n hC dL_hangs_286 rfl ?_
                refine z_iload_n hC dL_hangs_287 rfl ?_
                refine z_iload hC dL_hangs_288 rfl ?_
                refine z_iconst hC dL_hangs_290 ?_
                refine z_callV hC [.int (iZ k), .int (iZ (i : Int)), .int (iZ 4)] 3 rfl dL_hangs_291 (fun l => m_X7_fixtureOf l G ca ad _ μ33 d n h L t hμ33 hI k (i : Int) 4 (by omega) (by omega) (by omega)) qM_L_14 qI_X7_fixtureOf qS_X7_fixtureOf qi_X7 qC_X7_fixtureOf (by decide +kernel) (by decide) (by decide) cl_main (cd_main (ca := ca) (ad := ad)) rfl (Nat.le_of_ble_eq_true rfl) (zk_int (fun μ34 hμ34 => ?_)) rfl
                refine z_top (b := sEarn d k c P T + 1000000) ((ask_f4 (by omega) (by omega)).trans (by rw [← hc, ← hP1, ← hT1])) ?_
                refine z_iload hC dL_hangs_294 rfl ?_
                refine z_ldc hC (1000000) qc_L_25 rfl dL_hangs_296 ?_
                refine z_iadd hC dL_hangs_298 ?_
                refine z_sameN hC 327 (rfl) dL_hangs_299 (by decide) ?_
                refine z_aload_n hC dL_hangs_302 rfl ?_
                refine z_iload_n hC dL_hangs_303 rfl ?_
                refine z_iload hC dL_hangs_304 rfl ?_
                refine z_iconst hC dL_hangs_306 ?_
                refine z_callV hC [.int (iZ k), .int (iZ (i : Int)), .int (iZ 5)] 3 rfl dL_hangs_307 (fun l => m_X7_fixtureOf l G ca ad _ μ34 d n h L t hμ34 hI k (i : Int) 5 (by omega) (by omega) (by omega)) qM_L_14 qI_X7_fixtureOf qS_X7_fixtureOf qi_X7 qC_X7_fixtureOf (by decide +kernel) (by decide) (by decide) cl_main (cd_main (ca := ca) (ad := ad)) rfl (Nat.le_of_ble_eq_true rfl) (zk_int (fun μ35 hμ35 => ?_)) rfl
                refine z_top (b := sMarg d k c P T) ((ask_f5 (by omega) (by omega)).trans (by rw [← hc, ← hP1, ← hT1])) ?_
                refine z_aload_n hC dL_hangs_310 rfl ?_
                refine z_iload hC dL_hangs_311 rfl ?_
                refine z_iconst hC dL_hangs_313 ?_
                refine z_callV hC [.int (iZ c), .int (iZ 4)] 2 rfl dL_hangs_314 (fun l => m_X7_cargoOf l G ca ad _ μ35 d n h L t hμ35 hI c 4 (by omega) (by omega)) qM_L_19 qI_X7_cargoOf qS_X7_cargoOf qi_X7 qC_X7_cargoOf (by decide +kernel) (by decide) (by decide) cl_main (cd_main (ca := ca) (ad := ad)) rfl (Nat.le_of_ble_eq_true rfl) (zk_int (fun μ36 hμ36 => ?_)) rfl
                refine z_top (b := d (16 + c) 4) (ask_c4 (by omega)) ?_
                refine z_iload hC dL_hangs_317 rfl ?_
                refine z_isub hC dL_hangs_319 ?_
                refine z_sameN hC 327 (rfl) dL_hangs_320 (by decide) ?_
                refine z_iconst hC dL_hangs_323 ?_
                refine z_goto hC 328 dL_hangs_324 (by decide) ?_
                refine z_istore hC dL_hangs_328 (by decide) rfl ?_
                refine z_iload hC dL_hangs_330 rfl ?_
                refine z_iload hC dL_hangs_332 rfl ?_
                refine z_iadd hC dL_hangs_334 ?_
                refine z_istore hC dL_hangs_335 (by decide) rfl ?_
                refine z_aload_n hC dL_hangs_337 rfl ?_
                refine z_iload hC dL_hangs_338 rfl ?_
                refine z_iconst hC dL_hangs_340 ?_
                refine z_callV hC [.int (iZ c), .int (iZ 2)] 2 rfl dL_hangs_341 (fun l => m_X7_cargoOf l G ca ad _ μ36 d n h L t hμ36 hI c 2 (by omega) (by omega)) qM_L_19 qI_X7_cargoOf qS_X7_cargoOf qi_X7 qC_X7_cargoOf (by decide +kernel) (by decide) (by decide) cl_main (cd_main (ca := ca) (ad := ad)) rfl (Nat.le_of_ble_eq_true rfl) (zk_int (fun μ37 hμ37 => ?_)) rfl
                refine z_top (b := d (16 + c) 2) (ask_c2 (by omega)) ?_
                refine z_istore_n hC dL_hangs_344 (by decide) rfl ?_
                refine z_iload hC dL_hangs_345 rfl ?_
                refine z_istore_n hC dL_hangs_347 (by decide) rfl ?_
                refine z_iinc hC dL_hangs_348 rfl (by decide) rfl ?_
                refine z_goto hC 50 dL_hangs_351 (by decide) ?_
                refine z_weak (L' := [(7, .int (iZ ((i + 1 : Nat) : Int))), (6, .int (iZ 1)), (5, .int (iZ (S + sEarn d k c P T))), (4, .int (iZ (d (6 + k) 6))), (3, .int (iZ (sFree d k c P T))), (2, .int (iZ (d (16 + c) 2))), (1, .int (iZ k)), (0, .ref (ad 156))]) ⟨rfl, rfl, rfl, rfl, rfl, rfl, rfl, rfl, trivial⟩ ?_
                exact ih (i + 1) (by omega) _ _ _ _ (by rw [hc]; rfl) (by rw [hc, hP1, hT1]; rfl) (by rw [hc, hP1, hT1, hS1]; rfl) hμ37
          refine z_iload hC dL_hangs_107 rfl ?_
          refine z_aload_n hC dL_hangs_109 rfl ?_
          refine z_iload hC dL_hangs_110 rfl ?_
          refine z_iconst hC dL_hangs_112 ?_
          refine z_callV hC [.int (iZ c), .int (iZ 3)] 2 rfl dL_hangs_113 (fun l => m_X7_cargoOf l G ca ad _ μ17 d n h L t hμ17 hI c 3 (by omega) (by omega)) qM_L_19 qI_X7_cargoOf qS_X7_cargoOf qi_X7 qC_X7_cargoOf (by decide +kernel) (by decide) (by decide) cl_main (cd_main (ca := ca) (ad := ad)) rfl (Nat.le_of_ble_eq_true rfl) (zk_int (fun μ38 hμ38 => ?_)) rfl
          refine z_top (b := d (16 + c) 3) (ask_c3 (by omega)) ?_
          refine z_icmp_ge hC 129 dL_hangs_116 (by decide) (by omega) (by omega) (fun c_39 => ?_) (fun c_39 => ?_)
          · refine z_iload hC dL_hangs_129 rfl ?_
            refine z_top (b := sLoad d k c P T) (if_neg (by omega)).symm ?_
            refine z_weak (L' := [(10, .int (iZ (sArr d k c P T))), (9, .int (iZ (24 * d (6 + k) 1))), (8, .int (iZ c)), (7, .int (iZ (i : Int))), (6, .int (iZ 1)), (5, .int (iZ S)), (4, .int (iZ (d (6 + k) 6))), (3, .int (iZ T)), (2, .int (iZ P)), (1, .int (iZ k)), (0, .ref (ad 156))]) ⟨rfl, rfl, rfl, rfl, rfl, rfl, rfl, rfl, rfl, rfl, rfl, trivial⟩ ?_
            exact J _ hμ38
          · refine z_aload_n hC dL_hangs_119 rfl ?_
            refine z_iload hC dL_hangs_120 rfl ?_
            refine z_iconst hC dL_hangs_122 ?_
            refine z_callV hC [.int (iZ c), .int (iZ 3)] 2 rfl dL_hangs_123 (fun l => m_X7_cargoOf l G ca ad _ μ38 d n h L t hμ38 hI c 3 (by omega) (by omega)) qM_L_19 qI_X7_cargoOf qS_X7_cargoOf qi_X7 qC_X7_cargoOf (by decide +kernel) (by decide) (by decide) cl_main (cd_main (ca := ca) (ad := ad)) rfl (Nat.le_of_ble_eq_true rfl) (zk_int (fun μ40 hμ40 => ?_)) rfl
            refine z_top (b := d (16 + c) 3) (ask_c3 (by omega)) ?_
            refine z_goto hC 131 dL_hangs_126 (by decide) ?_
            refine z_top (b := sLoad d k c P T) (if_pos (by omega)).symm ?_
            refine z_weak (L' := [(10, .int (iZ (sArr d k c P T))), (9, .int (iZ (24 * d (6 + k) 1))), (8, .int (iZ c)), (7, .int (iZ (i : Int))), (6, .int (iZ 1)), (5, .int (iZ S)), (4, .int (iZ (d (6 + k) 6))), (3, .int (iZ T)), (2, .int (iZ P)), (1, .int (iZ k)), (0, .ref (ad 156))]) ⟨rfl, rfl, rfl, rfl, rfl, rfl, rfl, rfl, rfl, rfl, rfl, trivial⟩ ?_
            exact J _ hμ40
  refine z_weak (L' := [(7, .int (iZ ((0 : Nat) : Int))), (6, .int (iZ 1)), (5, .int (iZ 0)), (4, .int (iZ (d (6 + k) 6))), (3, .int (iZ (d (6 + k) 4))), (2, .int (iZ (d (6 + k) 3))), (1, .int (iZ k)), (0, .ref (ad 156))]) ⟨rfl, rfl, rfl, rfl, rfl, rfl, rfl, rfl, trivial⟩ ?_
  exact LOOP (sNum d k) 0 (by omega) _ _ _ _ rfl rfl rfl hμ4

set_option maxHeartbeats 4000000 in
set_option maxRecDepth 100000 in
/-- all(o) -/
theorem m_L_all (l : Launch) (G : va_G) (ca : Nat → ClassId) (ad : Int → Nat) (A : Nat → Prop) (μ : zM) (d : zM) (n : Int) (h : Int → zM) (L : Int) (t : Int → Int) (hX : zSt μ d n h L t) (hI2 : zIn2 d) : zMet l (cω G ca ad) A yL_all cL_all 6 (some .boolean) 6 167 [.ref (ad 156)] μ (zpI (.int (iZ 1)) (fun μ' => zSt μ' d n h L t)) := by
  refine zMet_of (by decide) (Nat.le_of_ble_eq_true rfl) (fun Γ hC => ?_)
  show Z Γ _ μ 0 [(0, .ref (ad 156))] []
  have hI : zInv d := hI2.1
  obtain ⟨hB, _⟩ := id hI
  obtain ⟨hN, hP, hB3, hB4⟩ := id hB
  obtain ⟨hN1, hN2⟩ := id hN
  have hG := zInv_G hI
  refine z_iconst hC dL_all_0 ?_
  refine z_istore_n hC dL_all_1 (by decide) rfl ?_
  refine z_ldc hC (1000000) qc_L_25 rfl dL_all_2 ?_
  refine z_istore_n hC dL_all_4 (by decide) rfl ?_
  refine z_iconst hC dL_all_5 ?_
  refine z_istore_n hC dL_all_6 (by decide) rfl ?_
  refine z_iconst hC dL_all_7 ?_
  refine z_istore hC dL_all_8 (by decide) rfl ?_
  have LOOP : ∀ (r i : Nat), i + r = (d 0 4).toNat → ∀ μ1 : zM, zSt μ1 d n h L t → Z Γ (cω G ca ad) μ1 10 [(4, .int (iZ (i : Int))), (3, .int (iZ 1)), (2, .int (iZ (sAcc d i + 1000000))), (1, .int (iZ (sFx d i))), (0, .ref (ad 156))] [] := by
    intro r
    induction r with
    | zero =>
      intro i hi μ1 hμ1
      refine z_iload hC dL_all_10 rfl ?_
      refine z_aload_n hC dL_all_12 rfl ?_
      refine z_iconst hC dL_all_13 ?_
      refine z_callV hC [.int (iZ 0)] 1 rfl dL_all_14 (fun l => m_X7_count l G ca ad _ μ1 d n h L t hμ1 hI 0 (by omega)) qM_L_30 qI_X7_count qS_X7_count qi_X7 qC_X7_count (by decide +kernel) (by decide) (by decide) cl_main (cd_main (ca := ca) (ad := ad)) rfl (Nat.le_of_ble_eq_true rfl) (zk_int (fun μ1 hμ1 => ?_)) rfl
      refine z_top (b := d 0 4) (ask_n0) ?_
      refine z_icmp_ge hC 78 dL_all_17 (by decide) (by omega) (by omega) (fun c_2 => ?_) (fun c_2 => ?_)
      · obtain rfl : i = (d 0 4).toNat := by omega
        refine z_iconst hC dL_all_78 ?_
        refine z_istore hC dL_all_79 (by decide) rfl ?_
        refine z_iconst hC dL_all_81 ?_
        refine z_istore hC dL_all_82 (by decide) rfl ?_
        have LOOP2 : ∀ (q j : Nat), j + q = (d 0 5).toNat → ∀ μ8 : zM, zSt μ8 d n h L t → Z Γ (cω G ca ad) μ8 84 [(5, .int (iZ (j : Int))), (4, .int (iZ (sCnt d 0 j))), (3, .int (iZ 1)), (2, .int (iZ (sAcc d (d 0 4).toNat + 1000000))), (1, .int (iZ (sFx d (d 0 4).toNat))), (0, .ref (ad 156))] [] := by
          intro q
          induction q with
          | zero =>
            intro j hj μ8 hμ8
            refine z_iload hC dL_all_84 rfl ?_
            refine z_aload_n hC dL_all_86 rfl ?_
            refine z_iconst hC dL_all_87 ?_
            refine z_callV hC [.int (iZ 1)] 1 rfl dL_all_88 (fun l => m_X7_count l G ca ad _ μ8 d n h L t hμ8 hI 1 (by omega)) qM_L_30 qI_X7_count qS_X7_count qi_X7 qC_X7_count (by decide +kernel) (by decide) (by decide) cl_main (cd_main (ca := ca) (ad := ad)) rfl (Nat.le_of_ble_eq_true rfl) (zk_int (fun μ3 hμ3 => ?_)) rfl
            refine z_top (b := d 0 5) (ask_n1) ?_
            refine z_icmp_ge hC 156 dL_all_91 (by decide) (by omega) (by omega) (fun c_4 => ?_) (fun c_4 => ?_)
            · obtain rfl : j = (d 0 5).toNat := by omega
              refine z_iload_n hC dL_all_156 rfl ?_
              refine z_if_eq hC 192 dL_all_157 (by decide) (by omega) (fun c_5 => ?_) (fun c_5 => ?_)
              · exfalso; omega
              · refine z_aload_n hC dL_all_160 rfl ?_
                refine z_iconst hC dL_all_161 ?_
                refine z_callV hC [.int (iZ 3)] 1 rfl dL_all_162 (fun l => m_X7_count l G ca ad _ μ3 d n h L t hμ3 hI 3 (by omega)) qM_L_30 qI_X7_count qS_X7_count qi_X7 qC_X7_count (by decide +kernel) (by decide) (by decide) cl_main (cd_main (ca := ca) (ad := ad)) rfl (Nat.le_of_ble_eq_true rfl) (zk_int (fun μ6 hμ6 => ?_)) rfl
                refine z_top (b := sCnt d 1 (d 0 5).toNat) (ask_n3) ?_
                refine z_iload_n hC dL_all_165 rfl ?_
                refine z_sameN hC 192 (congrArg iZ hI2.2.1) dL_all_166 (by decide) ?_
                refine z_aload_n hC dL_all_169 rfl ?_
                refine z_iconst hC dL_all_170 ?_
                refine z_callV hC [.int (iZ 2)] 1 rfl dL_all_171 (fun l => m_X7_count l G ca ad _ μ6 d n h L t hμ6 hI 2 (by omega)) qM_L_30 qI_X7_count qS_X7_count qi_X7 qC_X7_count (by decide +kernel) (by decide) (by decide) cl_main (cd_main (ca := ca) (ad := ad)) rfl (Nat.le_of_ble_eq_true rfl) (zk_int (fun μ7 hμ7 => ?_)) rfl
                refine z_top (b := sCnt d 0 (d 0 5).toNat) (ask_n2) ?_
                refine z_iload hC dL_all_174 rfl ?_
                refine z_sameN hC 192 (rfl) dL_all_176 (by decide) ?_
                refine z_aload_n hC dL_all_179 rfl ?_
                refine z_iconst hC dL_all_180 ?_
                refine z_callV hC [.int (iZ 4)] 1 rfl dL_all_181 (fun l => m_X7_count l G ca ad _ μ7 d n h L t hμ7 hI 4 (by omega)) qM_L_30 qI_X7_count qS_X7_count qi_X7 qC_X7_count (by decide +kernel) (by decide) (by decide) cl_main (cd_main (ca := ca) (ad := ad)) rfl (Nat.le_of_ble_eq_true rfl) (zk_int (fun μ8 hμ8 => ?_)) rfl
                refine z_top (b := sAcc d (d 0 4).toNat + 1000000) (ask_n4) ?_
                refine z_iload_n hC dL_all_184 rfl ?_
                refine z_sameN hC 192 (rfl) dL_all_185 (by decide) ?_
                refine z_iconst hC dL_all_188 ?_
                refine z_goto hC 193 dL_all_189 (by decide) ?_
                exact z_zret1 hC dL_all_193 ⟨rfl, hμ8⟩
            · exfalso; omega
          | succ q jh =>
            intro j hj μ8 hμ8
            obtain ⟨hc0, hc1, hc2, hc3, hc4, hc5, hc6⟩ := hB4 (j : Int) (by omega)
            refine z_iload hC dL_all_84 rfl ?_
            refine z_aload_n hC dL_all_86 rfl ?_
            refine z_iconst hC dL_all_87 ?_
            refine z_callV hC [.int (iZ 1)] 1 rfl dL_all_88 (fun l => m_X7_count l G ca ad _ μ8 d n h L t hμ8 hI 1 (by omega)) qM_L_30 qI_X7_count qS_X7_count qi_X7 qC_X7_count (by decide +kernel) (by decide) (by decide) cl_main (cd_main (ca := ca) (ad := ad)) rfl (Nat.le_of_ble_eq_true rfl) (zk_int (fun μ9 hμ9 => ?_)) rfl
            refine z_top (b := d 0 5) (ask_n1) ?_
            refine z_icmp_ge hC 156 dL_all_91 (by decide) (by omega) (by omega) (fun c_10 => ?_) (fun c_10 => ?_)
            · exfalso; omega
            · refine z_iload_n hC dL_all_94 rfl ?_
              refine z_if_eq hC 156 dL_all_95 (by decide) (by omega) (fun c_11 => ?_) (fun c_11 => ?_)
              · exfalso; omega
              · refine z_iload hC dL_all_98 rfl ?_
                refine z_aload_n hC dL_all_100 rfl ?_
                refine z_iload hC dL_all_101 rfl ?_
                refine z_bipush hC dL_all_103 (by decide) ?_
                refine z_callV hC [.int (iZ (j : Int)), .int (iZ 6)] 2 rfl dL_all_105 (fun l => m_X7_cargoOf l G ca ad _ μ9 d n h L t hμ9 hI (j : Int) 6 (by omega) (by omega)) qM_L_19 qI_X7_cargoOf qS_X7_cargoOf qi_X7 qC_X7_cargoOf (by decide +kernel) (by decide) (by decide) cl_main (cd_main (ca := ca) (ad := ad)) rfl (Nat.le_of_ble_eq_true rfl) (zk_int (fun μ12 hμ12 => ?_)) rfl
                refine z_top (b := d (16 + (j : Int)) 6) (ask_c6 (by omega)) ?_
                refine z_if_ne hC 115 dL_all_108 (by decide) (by omega) (fun c_13 => ?_) (fun c_13 => ?_)
                · refine z_iconst hC dL_all_115 ?_
                  refine z_iadd hC dL_all_116 ?_
                  refine z_top (b := sCnt d 0 (j + 1)) (by show _ = sCnt d 0 j + (if d (16 + (j : Int)) 6 = 0 then 1 else 0); split <;> omega) ?_
                  refine z_istore hC dL_all_117 (by decide) rfl ?_
                  by_cases z9 : d (16 + (j : Int)) 6 = 1
                  · refine z_aload_n hC dL_all_119 rfl ?_
                    refine z_iload hC dL_all_120 rfl ?_
                    refine z_bipush hC dL_all_122 (by decide) ?_
                    refine z_callV hC [.int (iZ (j : Int)), .int (iZ 7)] 2 rfl dL_all_124 (fun l => m_X7_cargoOf l G ca ad _ μ12 d n h L t hμ12 hI (j : Int) 7 (by omega) (by omega)) qM_L_19 qI_X7_cargoOf qS_X7_cargoOf qi_X7 qC_X7_cargoOf (by decide +kernel) (by decide) (by decide) cl_main (cd_main (ca := ca) (ad := ad)) rfl (Nat.le_of_ble_eq_true rfl) (zk_int (fun μ14 hμ14 => ?_)) rfl
                    refine z_top (b := d (16 + (j : Int)) 7) (ask_c7 (by omega) z9) ?_
                    refine z_ldc hC (-1000004) qc_L_18 rfl dL_all_127 ?_
                    refine z_anyE hC 144 dL_all_129 (by decide) ?_ ?_
                    · refine z_iconst hC dL_all_144 ?_
                      refine z_goto hC 149 dL_all_145 (by decide) ?_
                      refine z_istore_n hC dL_all_149 (by decide) rfl ?_
                      refine z_iinc hC dL_all_150 rfl (by decide) rfl ?_
                      refine z_goto hC 84 dL_all_153 (by decide) ?_
                      refine z_weak (L' := [(5, .int (iZ ((j + 1 : Nat) : Int))), (4, .int (iZ (sCnt d 0 (j + 1)))), (3, .int (iZ 1)), (2, .int (iZ (sAcc d (d 0 4).toNat + 1000000))), (1, .int (iZ (sFx d (d 0 4).toNat))), (0, .ref (ad 156))]) ⟨rfl, rfl, rfl, rfl, rfl, rfl, trivial⟩ ?_
                      exact jh (j + 1) (by omega) _ hμ14
                    · refine z_aload_n hC dL_all_132 rfl ?_
                      refine z_iload hC dL_all_133 rfl ?_
                      refine z_bipush hC dL_all_135 (by decide) ?_
                      refine z_callV hC [.int (iZ (j : Int)), .int (iZ 6)] 2 rfl dL_all_137 (fun l => m_X7_cargoOf l G ca ad _ μ14 d n h L t hμ14 hI (j : Int) 6 (by omega) (by omega)) qM_L_19 qI_X7_cargoOf qS_X7_cargoOf qi_X7 qC_X7_cargoOf (by decide +kernel) (by decide) (by decide) cl_main (cd_main (ca := ca) (ad := ad)) rfl (Nat.le_of_ble_eq_true rfl) (zk_int (fun μ15 hμ15 => ?_)) rfl
                      refine z_top (b := d (16 + (j : Int)) 6) (ask_c6 (by omega)) ?_
                      refine z_iconst hC dL_all_140 ?_
                      refine z_sameN hC 148 (congrArg iZ z9) dL_all_141 (by decide) ?_
                      refine z_iconst hC dL_all_144 ?_
                      refine z_goto hC 149 dL_all_145 (by decide) ?_
                      refine z_istore_n hC dL_all_149 (by decide) rfl ?_
                      refine z_iinc hC dL_all_150 rfl (by decide) rfl ?_
                      refine z_goto hC 84 dL_all_153 (by decide) ?_
                      refine z_weak (L' := [(5, .int (iZ ((j + 1 : Nat) : Int))), (4, .int (iZ (sCnt d 0 (j + 1)))), (3, .int (iZ 1)), (2, .int (iZ (sAcc d (d 0 4).toNat + 1000000))), (1, .int (iZ (sFx d (d 0 4).toNat))), (0, .ref (ad 156))]) ⟨rfl, rfl, rfl, rfl, rfl, rfl, trivial⟩ ?_
                      exact jh (j + 1) (by omega) _ hμ15
                  · refine z_aload_n hC dL_all_119 rfl ?_
                    refine z_iload hC dL_all_120 rfl ?_
                    refine z_bipush hC dL_all_122 (by decide) ?_
                    refine z_callV hC [.int (iZ (j : Int)), .int (iZ 7)] 2 rfl dL_all_124 (fun l => m_X7_cargoOf l G ca ad _ μ12 d n h L t hμ12 hI (j : Int) 7 (by omega) (by omega)) qM_L_19 qI_X7_cargoOf qS_X7_cargoOf qi_X7 qC_X7_cargoOf (by decide +kernel) (by decide) (by decide) cl_main (cd_main (ca := ca) (ad := ad)) rfl (Nat.le_of_ble_eq_true rfl) (zk_int (fun μ16 hμ16 => ?_)) rfl
                    refine z_top (b := -1000004) (ask_c7n (by omega) (by omega)) ?_
                    refine z_ldc hC (-1000004) qc_L_18 rfl dL_all_127 ?_
                    refine z_icmp_eq hC 144 dL_all_129 (by decide) (by omega) (by omega) (fun c_17 => ?_) (fun c_17 => ?_)
                    · refine z_iconst hC dL_all_144 ?_
                      refine z_goto hC 149 dL_all_145 (by decide) ?_
                      refine z_istore_n hC dL_all_149 (by decide) rfl ?_
                      refine z_iinc hC dL_all_150 rfl (by decide) rfl ?_
                      refine z_goto hC 84 dL_all_153 (by decide) ?_
                      refine z_weak (L' := [(5, .int (iZ ((j + 1 : Nat) : Int))), (4, .int (iZ (sCnt d 0 (j + 1)))), (3, .int (iZ 1)), (2, .int (iZ (sAcc d (d 0 4).toNat + 1000000))), (1, .int (iZ (sFx d (d 0 4).toNat))), (0, .ref (ad 156))]) ⟨rfl, rfl, rfl, rfl, rfl, rfl, trivial⟩ ?_
                      exact jh (j + 1) (by omega) _ hμ16
                    · exfalso; omega
                · refine z_iconst hC dL_all_111 ?_
                  refine z_goto hC 116 dL_all_112 (by decide) ?_
                  refine z_iadd hC dL_all_116 ?_
                  refine z_top (b := sCnt d 0 (j + 1)) (by show _ = sCnt d 0 j + (if d (16 + (j : Int)) 6 = 0 then 1 else 0); split <;> omega) ?_
                  refine z_istore hC dL_all_117 (by decide) rfl ?_
                  by_cases z9 : d (16 + (j : Int)) 6 = 1
                  · refine z_aload_n hC dL_all_119 rfl ?_
                    refine z_iload hC dL_all_120 rfl ?_
                    refine z_bipush hC dL_all_122 (by decide) ?_
                    refine z_callV hC [.int (iZ (j : Int)), .int (iZ 7)] 2 rfl dL_all_124 (fun l => m_X7_cargoOf l G ca ad _ μ12 d n h L t hμ12 hI (j : Int) 7 (by omega) (by omega)) qM_L_19 qI_X7_cargoOf qS_X7_cargoOf qi_X7 qC_X7_cargoOf (by decide +kernel) (by decide) (by decide) cl_main (cd_main (ca := ca) (ad := ad)) rfl (Nat.le_of_ble_eq_true rfl) (zk_int (fun μ18 hμ18 => ?_)) rfl
                    refine z_top (b := d (16 + (j : Int)) 7) (ask_c7 (by omega) z9) ?_
                    refine z_ldc hC (-1000004) qc_L_18 rfl dL_all_127 ?_
                    refine z_anyE hC 144 dL_all_129 (by decide) ?_ ?_
                    · refine z_iconst hC dL_all_144 ?_
                      refine z_goto hC 149 dL_all_145 (by decide) ?_
                      refine z_istore_n hC dL_all_149 (by decide) rfl ?_
                      refine z_iinc hC dL_all_150 rfl (by decide) rfl ?_
                      refine z_goto hC 84 dL_all_153 (by decide) ?_
                      refine z_weak (L' := [(5, .int (iZ ((j + 1 : Nat) : Int))), (4, .int (iZ (sCnt d 0 (j + 1)))), (3, .int (iZ 1)), (2, .int (iZ (sAcc d (d 0 4).toNat + 1000000))), (1, .int (iZ (sFx d (d 0 4).toNat))), (0, .ref (ad 156))]) ⟨rfl, rfl, rfl, rfl, rfl, rfl, trivial⟩ ?_
                      exact jh (j + 1) (by omega) _ hμ18
                    · refine z_aload_n hC dL_all_132 rfl ?_
                      refine z_iload hC dL_all_133 rfl ?_
                      refine z_bipush hC dL_all_135 (by decide) ?_
                      refine z_callV hC [.int (iZ (j : Int)), .int (iZ 6)] 2 rfl dL_all_137 (fun l => m_X7_cargoOf l G ca ad _ μ18 d n h L t hμ18 hI (j : Int) 6 (by omega) (by omega)) qM_L_19 qI_X7_cargoOf qS_X7_cargoOf qi_X7 qC_X7_cargoOf (by decide +kernel) (by decide) (by decide) cl_main (cd_main (ca := ca) (ad := ad)) rfl (Nat.le_of_ble_eq_true rfl) (zk_int (fun μ19 hμ19 => ?_)) rfl
                      refine z_top (b := d (16 + (j : Int)) 6) (ask_c6 (by omega)) ?_
                      refine z_iconst hC dL_all_140 ?_
                      refine z_sameN hC 148 (congrArg iZ z9) dL_all_141 (by decide) ?_
                      refine z_iconst hC dL_all_144 ?_
                      refine z_goto hC 149 dL_all_145 (by decide) ?_
                      refine z_istore_n hC dL_all_149 (by decide) rfl ?_
                      refine z_iinc hC dL_all_150 rfl (by decide) rfl ?_
                      refine z_goto hC 84 dL_all_153 (by decide) ?_
                      refine z_weak (L' := [(5, .int (iZ ((j + 1 : Nat) : Int))), (4, .int (iZ (sCnt d 0 (j + 1)))), (3, .int (iZ 1)), (2, .int (iZ (sAcc d (d 0 4).toNat + 1000000))), (1, .int (iZ (sFx d (d 0 4).toNat))), (0, .ref (ad 156))]) ⟨rfl, rfl, rfl, rfl, rfl, rfl, trivial⟩ ?_
                      exact jh (j + 1) (by omega) _ hμ19
                  · refine z_aload_n hC dL_all_119 rfl ?_
                    refine z_iload hC dL_all_120 rfl ?_
                    refine z_bipush hC dL_all_122 (by decide) ?_
                    refine z_callV hC [.int (iZ (j : Int)), .int (iZ 7)] 2 rfl dL_all_124 (fun l => m_X7_cargoOf l G ca ad _ μ12 d n h L t hμ12 hI (j : Int) 7 (by omega) (by omega)) qM_L_19 qI_X7_cargoOf qS_X7_cargoOf qi_X7 qC_X7_cargoOf (by decide +kernel) (by decide) (by decide) cl_main (cd_main (ca := ca) (ad := ad)) rfl (Nat.le_of_ble_eq_true rfl) (zk_int (fun μ20 hμ20 => ?_)) rfl
                    refine z_top (b := -1000004) (ask_c7n (by omega) (by omega)) ?_
                    refine z_ldc hC (-1000004) qc_L_18 rfl dL_all_127 ?_
                    refine z_icmp_eq hC 144 dL_all_129 (by decide) (by omega) (by omega) (fun c_21 => ?_) (fun c_21 => ?_)
                    · refine z_iconst hC dL_all_144 ?_
                      refine z_goto hC 149 dL_all_145 (by decide) ?_
                      refine z_istore_n hC dL_all_149 (by decide) rfl ?_
                      refine z_iinc hC dL_all_150 rfl (by decide) rfl ?_
                      refine z_goto hC 84 dL_all_153 (by decide) ?_
                      refine z_weak (L' := [(5, .int (iZ ((j + 1 : Nat) : Int))), (4, .int (iZ (sCnt d 0 (j + 1)))), (3, .int (iZ 1)), (2, .int (iZ (sAcc d (d 0 4).toNat + 1000000))), (1, .int (iZ (sFx d (d 0 4).toNat))), (0, .ref (ad 156))]) ⟨rfl, rfl, rfl, rfl, rfl, rfl, trivial⟩ ?_
                      exact jh (j + 1) (by omega) _ hμ20
                    · exfalso; omega
        refine z_weak (L' := [(5, .int (iZ ((0 : Nat) : Int))), (4, .int (iZ (0))), (3, .int (iZ 1)), (2, .int (iZ (sAcc d (d 0 4).toNat + 1000000))), (1, .int (iZ (sFx d (d 0 4).toNat))), (0, .ref (ad 156))]) ⟨rfl, rfl, rfl, rfl, rfl, rfl, trivial⟩ ?_
        exact LOOP2 (d 0 5).toNat 0 (by omega) _ hμ1
      · exfalso; omega
    | succ r ih =>
      intro i hi μ1 hμ1
      refine z_iload hC dL_all_10 rfl ?_
      refine z_aload_n hC dL_all_12 rfl ?_
      refine z_iconst hC dL_all_13 ?_
      refine z_callV hC [.int (iZ 0)] 1 rfl dL_all_14 (fun l => m_X7_count l G ca ad _ μ1 d n h L t hμ1 hI 0 (by omega)) qM_L_30 qI_X7_count qS_X7_count qi_X7 qC_X7_count (by decide +kernel) (by decide) (by decide) cl_main (cd_main (ca := ca) (ad := ad)) rfl (Nat.le_of_ble_eq_true rfl) (zk_int (fun μ22 hμ22 => ?_)) rfl
      refine z_top (b := d 0 4) (ask_n0) ?_
      refine z_icmp_ge hC 78 dL_all_17 (by decide) (by omega) (by omega) (fun c_23 => ?_) (fun c_23 => ?_)
      · exfalso; omega
      · refine z_iload_n hC dL_all_20 rfl ?_
        refine z_if_eq hC 78 dL_all_21 (by decide) (by omega) (fun c_24 => ?_) (fun c_24 => ?_)
        · exfalso; omega
        · refine z_aload_n hC dL_all_24 rfl ?_
          refine z_iload hC dL_all_25 rfl ?_
          refine z_callS hC [.ref (ad 156), .int (iZ (i : Int))] 2 rfl dL_all_27 (fun l => m_L_hangs l G ca ad _ μ22 d n h L t hμ22 hI2 (i : Int) (by omega)) qM_L_33 qT_L_hangs qi_L qC_L_hangs (by decide +kernel) (by decide) (by decide) (Nat.le_of_ble_eq_true rfl) (zk_int (fun μ25 hμ25 => ?_)) rfl
          refine z_istore_n hC dL_all_30 (by decide) rfl ?_
          refine z_iload_n hC dL_all_31 rfl ?_
          refine z_iload_n hC dL_all_32 rfl ?_
          refine z_if_eq hC 47 dL_all_33 (by decide) (by omega) (fun c_26 => ?_) (fun c_26 => ?_)
          · exfalso; omega
          · refine z_aload_n hC dL_all_36 rfl ?_
            refine z_iload hC dL_all_37 rfl ?_
            refine z_bipush hC dL_all_39 (by decide) ?_
            refine z_callV hC [.int (iZ (i : Int)), .int (iZ 7)] 2 rfl dL_all_41 (fun l => m_X7_shipOf l G ca ad _ μ25 d n h L t hμ25 hI (i : Int) 7 (by omega) (by omega)) qM_L_8 qI_X7_shipOf qS_X7_shipOf qi_X7 qC_X7_shipOf (by decide +kernel) (by decide) (by decide) cl_main (cd_main (ca := ca) (ad := ad)) rfl (Nat.le_of_ble_eq_true rfl) (zk_int (fun μ27 hμ27 => ?_)) rfl
            refine z_top (b := d (6 + (i : Int)) 6) (ask_s7 (by omega)) ?_
            refine z_goto hC 48 dL_all_44 (by decide) ?_
            refine z_iadd hC dL_all_48 ?_
            refine z_top (b := sFx d (i + 1)) (rfl) ?_
            refine z_istore_n hC dL_all_49 (by decide) rfl ?_
            refine z_iload_n hC dL_all_50 rfl ?_
            refine z_iload_n hC dL_all_51 rfl ?_
            refine z_if_eq hC 69 dL_all_52 (by decide) (by omega) (fun c_28 => ?_) (fun c_28 => ?_)
            · exfalso; omega
            · refine z_aload_n hC dL_all_55 rfl ?_
              refine z_iload hC dL_all_56 rfl ?_
              refine z_bipush hC dL_all_58 (by decide) ?_
              refine z_callV hC [.int (iZ (i : Int)), .int (iZ 8)] 2 rfl dL_all_60 (fun l => m_X7_shipOf l G ca ad _ μ27 d n h L t hμ27 hI (i : Int) 8 (by omega) (by omega)) qM_L_8 qI_X7_shipOf qS_X7_shipOf qi_X7 qC_X7_shipOf (by decide +kernel) (by decide) (by decide) cl_main (cd_main (ca := ca) (ad := ad)) rfl (Nat.le_of_ble_eq_true rfl) (zk_int (fun μ29 hμ29 => ?_)) rfl
              refine z_top (b := d (6 + (i : Int)) 5 + 1000000) (ask_s8 (by omega)) ?_
              refine z_ldc hC (1000000) qc_L_25 rfl dL_all_63 ?_
              refine z_isub hC dL_all_65 ?_
              refine z_goto hC 70 dL_all_66 (by decide) ?_
              refine z_iadd hC dL_all_70 ?_
              refine z_top (b := sAcc d (i + 1) + 1000000) (by show _ = sAcc d i + d (6 + (i : Int)) 5 + 1000000; omega) ?_
              refine z_istore_n hC dL_all_71 (by decide) rfl ?_
              refine z_iinc hC dL_all_72 rfl (by decide) rfl ?_
              refine z_goto hC 10 dL_all_75 (by decide) ?_
              refine z_weak (L' := [(4, .int (iZ ((i + 1 : Nat) : Int))), (3, .int (iZ 1)), (2, .int (iZ (sAcc d (i + 1) + 1000000))), (1, .int (iZ (sFx d (i + 1)))), (0, .ref (ad 156))]) ⟨rfl, rfl, rfl, rfl, rfl, trivial⟩ ?_
              exact ih (i + 1) (by omega) _ hμ29
  refine z_weak (L' := [(4, .int (iZ ((0 : Nat) : Int))), (3, .int (iZ 1)), (2, .int (iZ (1000000))), (1, .int (iZ (0))), (0, .ref (ad 156))]) ⟨rfl, rfl, rfl, rfl, rfl, trivial⟩ ?_
  exact LOOP (d 0 4).toNat 0 (by omega) _ hX
