/-! THE LAW'S LOOPS -/
set_option maxHeartbeats 4000000 in
set_option maxRecDepth 100000 in
/-- the law's end -/
theorem law_end {Γ : zG} {G : va_G} {ca : Nat → ClassId} {ac : Int → Nat} {b Lx : Nat} {xs : Nat → Int32} (hC : xC Γ G ca ac b Lx xs) {μ d : zM} {n : Int} {h : Int → zM} {L9 : Int} {t : Int → Int} (hX : zSt μ d n h L9 t) (hI2 : zIn2 d) {S C : Int} (hS4 : d 0 4 = S) (hC5 : d 0 5 = C) (hSr : 1 ≤ S ∧ S ≤ 5) (hCr : 1 ≤ C ∧ C ≤ 10) {i : Int} : X Γ G ca ac μ 1001 [(5, .int (iZ i)), (4, .int (iZ C)), (3, .int (iZ S)), (2, .int (iZ 1)), (1, .ref (ac 156)), (0, .ref b)] [] := by
  have hI : zInv d := hI2.1
  have hcb := sCnt_b d 1 (d 0 5).toNat
  have hN5 := hI.1.1.2
  refine x_iload_n hC dL_law_1001 rfl ?_
  refine x_if_eq hC 1029 dL_law_1002 (by decide) (by omega) (fun c_1 => ?_) (fun c_1 => ?_)
  · exfalso; omega
  · refine x_aload_n hC dL_law_1005 rfl ?_
    refine x_iconst hC dL_law_1006 ?_
    refine x_callV hC [.int (iZ 3)] 1 rfl dL_law_1007 (fun l => m_X7_count l G ca ac (cA ac 163) μ d n h L9 t hX (hI2).1 3 (by omega)) qM_L_30 qI_X7_count qS_X7_count qi_X7 qC_X7_count (by decide +kernel) (by decide) (by decide) rfl (Nat.le_of_ble_eq_true rfl) (xk (fun μ2 hμ2 => ?_)) rfl
    refine x_top (b9 := sCnt d 1 (d 0 5).toNat) (ask_n3) ?_
    refine x_if_eq hC 1025 dL_law_1010 (by decide) (by omega) (fun c_3 => ?_) (fun c_3 => ?_)
    · refine x_iconst hC dL_law_1025 ?_
      refine x_goto hC 1030 dL_law_1026 (by decide) ?_
      refine x_istore_n hC dL_law_1030 (by decide) rfl ?_
      refine x_iload_n hC dL_law_1031 rfl ?_
      refine x_if_eq hC 1096 dL_law_1032 (by decide) (by omega) (fun c_4 => ?_) (fun c_4 => ?_)
      · exfalso; omega
      · refine x_aload_n hC dL_law_1035 rfl ?_
        refine x_iload_n hC dL_law_1036 rfl ?_
        refine x_iconst hC dL_law_1037 ?_
        refine x_callV hC [.int (iZ S), .int (iZ 0)] 2 rfl dL_law_1038 (fun l => m_X7_fix l G ca ac (cA ac 163) μ2 d n h L9 t hμ2 (hI2).1 S 0 (by omega) (by omega) (inv_fix (hI2).1 S 0).2.1) qM_L_69 qI_X7_fix qS_X7_fix qi_X7 qC_X7_fix (by decide +kernel) (by decide) (by decide) rfl (Nat.le_of_ble_eq_true rfl) (xk (fun μ5 hμ5 => ?_)) rfl
        have eμ5 : opFix d S 0 = (-1000001, d) := fx_bad (by omega)
        have kμ5 := keep_err (r := opFix d S 0) (by rw [eμ5]; show (-1000004 : Int) ≤ -1000001 ∧ (-1000001 : Int) ≤ -1000001; decide) hμ5
        refine x_top (b9 := -1000001) (by rw [eμ5]) ?_
        refine x_ldc hC (-1000001) qc_L_43 rfl dL_law_1041 ?_
        refine x_sameN hC 1096 (rfl) dL_law_1043 (by decide) ?_
        refine x_aload_n hC dL_law_1046 rfl ?_
        refine x_iconst hC dL_law_1047 ?_
        refine x_iload hC dL_law_1048 rfl ?_
        refine x_callV hC [.int (iZ 0), .int (iZ C)] 2 rfl dL_law_1050 (fun l => m_X7_fix l G ca ac (cA ac 163) μ5 d n h L9 t kμ5 (hI2).1 0 C (by omega) (by omega) (inv_fix (hI2).1 0 C).2.1) qM_L_69 qI_X7_fix qS_X7_fix qi_X7 qC_X7_fix (by decide +kernel) (by decide) (by decide) rfl (Nat.le_of_ble_eq_true rfl) (xk (fun μ6 hμ6 => ?_)) rfl
        have eμ6 : opFix d 0 C = (-1000001, d) := fx_bad (by omega)
        have kμ6 := keep_err (r := opFix d 0 C) (by rw [eμ6]; show (-1000004 : Int) ≤ -1000001 ∧ (-1000001 : Int) ≤ -1000001; decide) hμ6
        refine x_top (b9 := -1000001) (by rw [eμ6]) ?_
        refine x_ldc hC (-1000001) qc_L_43 rfl dL_law_1053 ?_
        refine x_sameN hC 1096 (rfl) dL_law_1055 (by decide) ?_
        refine x_aload_n hC dL_law_1058 rfl ?_
        refine x_iconst hC dL_law_1059 ?_
        refine x_iconst hC dL_law_1060 ?_
        refine x_iconst hC dL_law_1061 ?_
        refine x_callV hC [.int (iZ 0), .int (iZ (-1)), .int (iZ 0)] 3 rfl dL_law_1062 (fun l => m_X7_fixtureOf l G ca ac (cA ac 163) μ6 d n h L9 t kμ6 (hI2).1 0 (-1) 0 (by omega) (by omega) (by omega)) qM_L_14 qI_X7_fixtureOf qS_X7_fixtureOf qi_X7 qC_X7_fixtureOf (by decide +kernel) (by decide) (by decide) rfl (Nat.le_of_ble_eq_true rfl) (xk (fun μ7 hμ7 => ?_)) rfl
        refine x_top (b9 := -1000001) (ask_fb) ?_
        refine x_ldc hC (-1000001) qc_L_43 rfl dL_law_1065 ?_
        refine x_sameN hC 1096 (rfl) dL_law_1067 (by decide) ?_
        refine x_aload_n hC dL_law_1070 rfl ?_
        refine x_iconst hC dL_law_1071 ?_
        refine x_bipush hC dL_law_1072 (by decide) ?_
        refine x_callV hC [.int (iZ 0), .int (iZ 100)] 2 rfl dL_law_1074 (fun l => m_X7_delay l G ca ac (cA ac 163) μ7 d n h L9 t hμ7 (hI2).1 0 100 (by omega) (by omega) (inv_delay (hI2).1 0 100).2.1) qM_L_58 qI_X7_delay qS_X7_delay qi_X7 qC_X7_delay (by decide +kernel) (by decide) (by decide) rfl (Nat.le_of_ble_eq_true rfl) (xk (fun μ8 hμ8 => ?_)) rfl
        have eμ8 : opDelay d 0 100 = (-1000001, d) := dl_bad
        have kμ8 := keep_err (r := opDelay d 0 100) (by rw [eμ8]; show (-1000004 : Int) ≤ -1000001 ∧ (-1000001 : Int) ≤ -1000001; decide) hμ8
        refine x_top (b9 := -1000001) (by rw [eμ8]) ?_
        refine x_ldc hC (-1000001) qc_L_43 rfl dL_law_1077 ?_
        refine x_sameN hC 1096 (rfl) dL_law_1079 (by decide) ?_
        refine x_aload_n hC dL_law_1082 rfl ?_
        refine x_iconst hC dL_law_1083 ?_
        refine x_callV hC [.int (iZ 4)] 1 rfl dL_law_1084 (fun l => m_X7_plan l G ca ac (cA ac 163) μ8 d n h L9 t kμ8) qM_L_86 qI_X7_plan qS_X7_plan qi_X7 qC_X7_plan (by decide +kernel) (by decide) (by decide) rfl (Nat.le_of_ble_eq_true rfl) (xk (fun μ9 hμ9 => ?_)) rfl
        refine x_ldc hC (-1000001) qc_L_43 rfl dL_law_1087 ?_
        refine x_sameN hC 1096 (rfl) dL_law_1089 (by decide) ?_
        refine x_iconst hC dL_law_1092 ?_
        refine x_goto hC 1097 dL_law_1093 (by decide) ?_
        exact x_end hC dL_law_1097
    · refine x_aload_n hC dL_law_1013 rfl ?_
      refine x_iconst hC dL_law_1014 ?_
      refine x_iconst hC dL_law_1015 ?_
      refine x_iconst hC dL_law_1016 ?_
      refine x_callV hC [.int (iZ 0), .int (iZ 1), .int (iZ 1)] 3 rfl dL_law_1017 (fun l => m_X7_port l G ca ac (cA ac 163) μ2 d n h L9 t hμ2 (hI2).1 0 1 1 (by omega) (by omega) (by omega) (inv_port (hI2).1 0 1 1).2.1) qM_L_83 qI_X7_port qS_X7_port qi_X7 qC_X7_port (by decide +kernel) (by decide) (by decide) rfl (Nat.le_of_ble_eq_true rfl) (xk (fun μ10 hμ10 => ?_)) rfl
      have eμ10 : opPort d 0 1 1 = (-1000002, d) := pt_no c_3
      have kμ10 := keep_err (r := opPort d 0 1 1) (by rw [eμ10]; show (-1000004 : Int) ≤ -1000002 ∧ (-1000002 : Int) ≤ -1000001; decide) hμ10
      refine x_top (b9 := -1000002) (by rw [eμ10]) ?_
      refine x_ldc hC (-1000002) qc_L_65 rfl dL_law_1020 ?_
      refine x_sameN hC 1029 (rfl) dL_law_1022 (by decide) ?_
      refine x_iconst hC dL_law_1025 ?_
      refine x_goto hC 1030 dL_law_1026 (by decide) ?_
      refine x_istore_n hC dL_law_1030 (by decide) rfl ?_
      refine x_iload_n hC dL_law_1031 rfl ?_
      refine x_if_eq hC 1096 dL_law_1032 (by decide) (by omega) (fun c_11 => ?_) (fun c_11 => ?_)
      · exfalso; omega
      · refine x_aload_n hC dL_law_1035 rfl ?_
        refine x_iload_n hC dL_law_1036 rfl ?_
        refine x_iconst hC dL_law_1037 ?_
        refine x_callV hC [.int (iZ S), .int (iZ 0)] 2 rfl dL_law_1038 (fun l => m_X7_fix l G ca ac (cA ac 163) μ10 d n h L9 t kμ10 (hI2).1 S 0 (by omega) (by omega) (inv_fix (hI2).1 S 0).2.1) qM_L_69 qI_X7_fix qS_X7_fix qi_X7 qC_X7_fix (by decide +kernel) (by decide) (by decide) rfl (Nat.le_of_ble_eq_true rfl) (xk (fun μ12 hμ12 => ?_)) rfl
        have eμ12 : opFix d S 0 = (-1000001, d) := fx_bad (by omega)
        have kμ12 := keep_err (r := opFix d S 0) (by rw [eμ12]; show (-1000004 : Int) ≤ -1000001 ∧ (-1000001 : Int) ≤ -1000001; decide) hμ12
        refine x_top (b9 := -1000001) (by rw [eμ12]) ?_
        refine x_ldc hC (-1000001) qc_L_43 rfl dL_law_1041 ?_
        refine x_sameN hC 1096 (rfl) dL_law_1043 (by decide) ?_
        refine x_aload_n hC dL_law_1046 rfl ?_
        refine x_iconst hC dL_law_1047 ?_
        refine x_iload hC dL_law_1048 rfl ?_
        refine x_callV hC [.int (iZ 0), .int (iZ C)] 2 rfl dL_law_1050 (fun l => m_X7_fix l G ca ac (cA ac 163) μ12 d n h L9 t kμ12 (hI2).1 0 C (by omega) (by omega) (inv_fix (hI2).1 0 C).2.1) qM_L_69 qI_X7_fix qS_X7_fix qi_X7 qC_X7_fix (by decide +kernel) (by decide) (by decide) rfl (Nat.le_of_ble_eq_true rfl) (xk (fun μ13 hμ13 => ?_)) rfl
        have eμ13 : opFix d 0 C = (-1000001, d) := fx_bad (by omega)
        have kμ13 := keep_err (r := opFix d 0 C) (by rw [eμ13]; show (-1000004 : Int) ≤ -1000001 ∧ (-1000001 : Int) ≤ -1000001; decide) hμ13
        refine x_top (b9 := -1000001) (by rw [eμ13]) ?_
        refine x_ldc hC (-1000001) qc_L_43 rfl dL_law_1053 ?_
        refine x_sameN hC 1096 (rfl) dL_law_1055 (by decide) ?_
        refine x_aload_n hC dL_law_1058 rfl ?_
        refine x_iconst hC dL_law_1059 ?_
        refine x_iconst hC dL_law_1060 ?_
        refine x_iconst hC dL_law_1061 ?_
        refine x_callV hC [.int (iZ 0), .int (iZ (-1)), .int (iZ 0)] 3 rfl dL_law_1062 (fun l => m_X7_fixtureOf l G ca ac (cA ac 163) μ13 d n h L9 t kμ13 (hI2).1 0 (-1) 0 (by omega) (by omega) (by omega)) qM_L_14 qI_X7_fixtureOf qS_X7_fixtureOf qi_X7 qC_X7_fixtureOf (by decide +kernel) (by decide) (by decide) rfl (Nat.le_of_ble_eq_true rfl) (xk (fun μ14 hμ14 => ?_)) rfl
        refine x_top (b9 := -1000001) (ask_fb) ?_
        refine x_ldc hC (-1000001) qc_L_43 rfl dL_law_1065 ?_
        refine x_sameN hC 1096 (rfl) dL_law_1067 (by decide) ?_
        refine x_aload_n hC dL_law_1070 rfl ?_
        refine x_iconst hC dL_law_1071 ?_
        refine x_bipush hC dL_law_1072 (by decide) ?_
        refine x_callV hC [.int (iZ 0), .int (iZ 100)] 2 rfl dL_law_1074 (fun l => m_X7_delay l G ca ac (cA ac 163) μ14 d n h L9 t hμ14 (hI2).1 0 100 (by omega) (by omega) (inv_delay (hI2).1 0 100).2.1) qM_L_58 qI_X7_delay qS_X7_delay qi_X7 qC_X7_delay (by decide +kernel) (by decide) (by decide) rfl (Nat.le_of_ble_eq_true rfl) (xk (fun μ15 hμ15 => ?_)) rfl
        have eμ15 : opDelay d 0 100 = (-1000001, d) := dl_bad
        have kμ15 := keep_err (r := opDelay d 0 100) (by rw [eμ15]; show (-1000004 : Int) ≤ -1000001 ∧ (-1000001 : Int) ≤ -1000001; decide) hμ15
        refine x_top (b9 := -1000001) (by rw [eμ15]) ?_
        refine x_ldc hC (-1000001) qc_L_43 rfl dL_law_1077 ?_
        refine x_sameN hC 1096 (rfl) dL_law_1079 (by decide) ?_
        refine x_aload_n hC dL_law_1082 rfl ?_
        refine x_iconst hC dL_law_1083 ?_
        refine x_callV hC [.int (iZ 4)] 1 rfl dL_law_1084 (fun l => m_X7_plan l G ca ac (cA ac 163) μ15 d n h L9 t kμ15) qM_L_86 qI_X7_plan qS_X7_plan qi_X7 qC_X7_plan (by decide +kernel) (by decide) (by decide) rfl (Nat.le_of_ble_eq_true rfl) (xk (fun μ16 hμ16 => ?_)) rfl
        refine x_ldc hC (-1000001) qc_L_43 rfl dL_law_1087 ?_
        refine x_sameN hC 1096 (rfl) dL_law_1089 (by decide) ?_
        refine x_iconst hC dL_law_1092 ?_
        refine x_goto hC 1097 dL_law_1093 (by decide) ?_
        exact x_end hC dL_law_1097

set_option maxHeartbeats 4000000 in
set_option maxRecDepth 100000 in
/-- the 24 steps -/
theorem law_main {Γ : zG} {G : va_G} {ca : Nat → ClassId} {ac : Int → Nat} {b Lx : Nat} {xs : Nat → Int32} (hC : xC Γ G ca ac b Lx xs) {S C : Int} (hSr : 1 ≤ S ∧ S ≤ 5) (hCr : 1 ≤ C ∧ C ≤ 10) {L9 : Int} {t : Int → Int} : ∀ (r : Nat) (i : Int) (μ d : zM) (n : Int) (h : Int → zM), 0 ≤ i → i + (r : Int) = 24 → zSt μ d n h L9 t → zIn2 d → d 0 4 = S → d 0 5 = C → X Γ G ca ac μ 276 [(5, .int (iZ i)), (4, .int (iZ C)), (3, .int (iZ S)), (2, .int (iZ 1)), (1, .ref (ac 156)), (0, .ref b)] [] := by
  intro r
  induction r with
  | zero =>
    intro i μ d n h hi hr hX hI2 hS4 hC5
    refine x_iload hC dL_law_276 rfl ?_
    refine x_bipush hC dL_law_278 (by decide) ?_
    refine x_icmp_ge hC 1001 dL_law_280 (by decide) (by omega) (by omega) (fun c_1 => ?_) (fun c_1 => ?_)
    · exact law_end hC hX hI2 hS4 hC5 hSr hCr
    · exfalso; omega
  | succ r ih =>
    intro i μ d n h hi hr hX hI2 hS4 hC5
    have kk : ∀ (μ9 d9 : zM) (n9 : Int) (h9 : Int → zM), zSt μ9 d9 n9 h9 L9 t → zIn2 d9 → d9 0 4 = S → d9 0 5 = C → X Γ G ca ac μ9 978 [(5, .int (iZ i)), (4, .int (iZ C)), (3, .int (iZ S)), (2, .int (iZ 1)), (1, .ref (ac 156)), (0, .ref b)] [] := by
      intro μ9 d9 n9 h9 g9 z9 e4 e5
      refine x_iload_n hC dL_law_978 rfl ?_
      refine x_if_eq hC 993 dL_law_979 (by decide) (by omega) (fun c_1 => ?_) (fun c_1 => ?_)
      · exfalso; omega
      · refine x_aload_n hC dL_law_982 rfl ?_
        refine x_callS hC [.ref (ac 156)] 1 rfl dL_law_983 (fun l => m_L_all l G ca ac (cA ac 163) μ9 d9 n9 h9 L9 t g9 z9) qM_L_79 qT_L_all qi_L qC_L_all (by decide +kernel) (by decide) (by decide) (Nat.le_of_ble_eq_true rfl) (xk (fun μ2 hμ2 => ?_)) rfl
        refine x_if_eq hC 993 dL_law_986 (by decide) (by omega) (fun c_3 => ?_) (fun c_3 => ?_)
        · exfalso; omega
        · refine x_iconst hC dL_law_989 ?_
          refine x_goto hC 994 dL_law_990 (by decide) ?_
          refine x_istore_n hC dL_law_994 (by decide) rfl ?_
          refine x_iinc hC dL_law_995 rfl (by decide) rfl ?_
          refine x_goto hC 276 dL_law_998 (by decide) ?_
          refine x_weak (L' := [(5, .int (iZ (i + 1))), (4, .int (iZ C)), (3, .int (iZ S)), (2, .int (iZ 1)), (1, .ref (ac 156)), (0, .ref b)]) ⟨rfl, rfl, rfl, rfl, rfl, rfl, trivial⟩ ?_
          exact ih (i + 1) _ _ _ _ (by omega) (by omega) hμ2 z9 e4 e5
    have hI : zInv d := hI2.1
    have hB := hI.1
    obtain ⟨hN, hP, hB3, hB4⟩ := id hB
    obtain ⟨hN1, hN2⟩ := id hN
    refine x_iload hC dL_law_276 rfl ?_
    refine x_bipush hC dL_law_278 (by decide) ?_
    refine x_icmp_ge hC 1001 dL_law_280 (by decide) (by omega) (by omega) (fun c_1 => ?_) (fun c_1 => ?_)
    · exfalso; omega
    · refine x_iload_n hC dL_law_283 rfl ?_
      refine x_if_eq hC 1001 dL_law_284 (by decide) (by omega) (fun c_2 => ?_) (fun c_2 => ?_)
      · exfalso; omega
      · refine x_aload_n hC dL_law_287 rfl ?_
        refine x_bipush hC dL_law_288 (by decide) ?_
        refine x_iload hC dL_law_290 rfl ?_
        refine x_iadd hC dL_law_292 ?_
        refine x_cell hC (by omega) dL_law_293 (Nat.le_of_ble_eq_true rfl) (fun y hy => ?_)
        refine x_istore hC dL_law_296 (by decide) rfl ?_
        refine x_iload hC dL_law_298 rfl ?_
        refine x_bipush hC dL_law_300 (by decide) ?_
        refine x_idiv hC dL_law_302 (by omega) (by omega) ?_
        refine x_iload_n hC dL_law_303 rfl ?_
        refine x_irem hC dL_law_304 (by omega) (by omega) ?_
        refine x_topn (fun k hk => ?_)
        have hk0 : 0 ≤ k ∧ k < S := by rw [hk]; exact ⟨Int.emod_nonneg _ (by omega), Int.emod_lt_of_pos _ (by omega)⟩
        obtain ⟨hs0, hs1, hs2, hs3, hs4, hs6⟩ := hB3 k (by omega)
        refine x_istore hC dL_law_305 (by decide) rfl ?_
        refine x_iload hC dL_law_307 rfl ?_
        refine x_bipush hC dL_law_309 (by decide) ?_
        refine x_idiv hC dL_law_311 (by omega) (by omega) ?_
        refine x_iload hC dL_law_312 rfl ?_
        refine x_irem hC dL_law_314 (by omega) (by omega) ?_
        refine x_topn (fun c hc => ?_)
        have hc0 : 0 ≤ c ∧ c < C := by rw [hc]; exact ⟨Int.emod_nonneg _ (by omega), Int.emod_lt_of_pos _ (by omega)⟩
        refine x_istore hC dL_law_315 (by decide) rfl ?_
        refine x_aload_n hC dL_law_317 rfl ?_
        refine x_iload hC dL_law_318 rfl ?_
        refine x_bipush hC dL_law_320 (by decide) ?_
        refine x_callV hC [.int (iZ k), .int (iZ 7)] 2 rfl dL_law_322 (fun l => m_X7_shipOf l G ca ac (cA ac 163) μ d n h L9 t hX (hI2).1 k 7 (by omega) (by omega)) qM_L_8 qI_X7_shipOf qS_X7_shipOf qi_X7 qC_X7_shipOf (by decide +kernel) (by decide) (by decide) rfl (Nat.le_of_ble_eq_true rfl) (xk (fun μ3 hμ3 => ?_)) rfl
        refine x_top (b9 := d (6 + k) 6) (ask_s7 (by omega)) ?_
        refine x_istore hC dL_law_325 (by decide) rfl ?_
        refine x_iload hC dL_law_327 rfl ?_
        refine x_bipush hC dL_law_329 (by decide) ?_
        refine x_irem hC dL_law_331 (by omega) (by omega) ?_
        rcases (show y % 8 = 0 ∨ y % 8 = 1 ∨ y % 8 = 2 ∨ (y % 8 < 0 ∨ 2 < y % 8) by omega) with w_4 | w_4 | w_4 | w_4
        · refine x_tableIn hC 360 dL_law_332 (by omega) (by omega) (by omega) (by rw [w_4]; rfl) (by decide) ?_
          refine x_weak (L' := [(9, .int (iZ (d (6 + k) 6))), (8, .int (iZ c)), (7, .int (iZ k)), (6, .int (iZ y)), (5, .int (iZ i)), (4, .int (iZ C)), (3, .int (iZ S)), (2, .int (iZ 1)), (1, .ref (ac 156)), (0, .ref b)]) ⟨rfl, rfl, rfl, rfl, rfl, rfl, rfl, rfl, rfl, rfl, trivial⟩ ?_
          exact law_delay hC hμ3 hI2 hS4 hC5 hy hk0 hc0 kk
        · refine x_tableIn hC 503 dL_law_332 (by omega) (by omega) (by omega) (by rw [w_4]; rfl) (by decide) ?_
          refine x_weak (L' := [(9, .int (iZ (d (6 + k) 6))), (8, .int (iZ c)), (7, .int (iZ k)), (6, .int (iZ y)), (5, .int (iZ i)), (4, .int (iZ C)), (3, .int (iZ S)), (2, .int (iZ 1)), (1, .ref (ac 156)), (0, .ref b)]) ⟨rfl, rfl, rfl, rfl, rfl, rfl, rfl, rfl, rfl, rfl, trivial⟩ ?_
          exact law_off hC hμ3 hI2 hS4 hC5 hy hk0 hc0 kk
        · refine x_tableIn hC 672 dL_law_332 (by omega) (by omega) (by omega) (by rw [w_4]; rfl) (by decide) ?_
          refine x_weak (L' := [(9, .int (iZ (d (6 + k) 6))), (8, .int (iZ c)), (7, .int (iZ k)), (6, .int (iZ y)), (5, .int (iZ i)), (4, .int (iZ C)), (3, .int (iZ S)), (2, .int (iZ 1)), (1, .ref (ac 156)), (0, .ref b)]) ⟨rfl, rfl, rfl, rfl, rfl, rfl, rfl, rfl, rfl, rfl, trivial⟩ ?_
          exact law_settle hC hμ3 hI2 hS4 hC5 hy hk0 hc0 kk
        · refine x_tableOut hC 821 dL_law_332 (by omega) (by omega) (by decide) ?_
          refine x_weak (L' := [(9, .int (iZ (d (6 + k) 6))), (8, .int (iZ c)), (7, .int (iZ k)), (6, .int (iZ y)), (5, .int (iZ i)), (4, .int (iZ C)), (3, .int (iZ S)), (2, .int (iZ 1)), (1, .ref (ac 156)), (0, .ref b)]) ⟨rfl, rfl, rfl, rfl, rfl, rfl, rfl, rfl, rfl, rfl, trivial⟩ ?_
          exact law_best hC hμ3 hI2 hS4 hC5 hy hk0 hc0 kk

set_option maxHeartbeats 4000000 in
set_option maxRecDepth 100000 in
/-- the cargoes come -/
theorem law_cargoes {Γ : zG} {G : va_G} {ca : Nat → ClassId} {ac : Int → Nat} {b Lx : Nat} {xs : Nat → Int32} (hC : xC Γ G ca ac b Lx xs) {S C : Int} (hSr : 1 ≤ S ∧ S ≤ 5) (hCr : 1 ≤ C ∧ C ≤ 10) {L9 : Int} {t : Int → Int} : ∀ (r : Nat) (i : Int) (μ d : zM) (n : Int) (h : Int → zM), 0 ≤ i → i + (r : Int) = C → zSt μ d n h L9 t → zIn2 d → d 0 4 = S → d 0 5 = i → X Γ G ca ac μ 151 [(5, .int (iZ i)), (4, .int (iZ C)), (3, .int (iZ S)), (2, .int (iZ 1)), (1, .ref (ac 156)), (0, .ref b)] [] := by
  intro r
  induction r with
  | zero =>
    intro i μ d n h hi hr hX hI2 hS4 hC5
    have hN5 := hI2.1.1.1.2
    refine x_iload hC dL_law_151 rfl ?_
    refine x_iload hC dL_law_153 rfl ?_
    refine x_icmp_ge hC 273 dL_law_155 (by decide) (by omega) (by omega) (fun c_1 => ?_) (fun c_1 => ?_)
    · refine x_iconst hC dL_law_273 ?_
      refine x_istore hC dL_law_274 (by decide) rfl ?_
      refine x_weak (L' := [(5, .int (iZ 0)), (4, .int (iZ C)), (3, .int (iZ S)), (2, .int (iZ 1)), (1, .ref (ac 156)), (0, .ref b)]) ⟨rfl, rfl, rfl, rfl, rfl, rfl, trivial⟩ ?_
      exact law_main hC hSr hCr 24 0 _ _ _ _ (by omega) (by omega) hX hI2 hS4 (by omega)
    · exfalso; omega
  | succ r ih =>
    intro i μ d n h hi hr hX hI2 hS4 hC5
    have hN5 := hI2.1.1.1.2
    refine x_iload hC dL_law_151 rfl ?_
    refine x_iload hC dL_law_153 rfl ?_
    refine x_icmp_ge hC 273 dL_law_155 (by decide) (by omega) (by omega) (fun c_1 => ?_) (fun c_1 => ?_)
    · exfalso; omega
    · refine x_iload_n hC dL_law_158 rfl ?_
      refine x_if_eq hC 273 dL_law_159 (by decide) (by omega) (fun c_2 => ?_) (fun c_2 => ?_)
      · exfalso; omega
      · refine x_aload_n hC dL_law_162 rfl ?_
        refine x_iconst hC dL_law_163 ?_
        refine x_iload hC dL_law_164 rfl ?_
        refine x_iadd hC dL_law_166 ?_
        refine x_cell hC (by omega) dL_law_167 (Nat.le_of_ble_eq_true rfl) (fun y hy => ?_)
        refine x_istore hC dL_law_170 (by decide) rfl ?_
        refine x_aload_n hC dL_law_172 rfl ?_
        refine x_bipush hC dL_law_173 (by decide) ?_
        refine x_iload hC dL_law_175 rfl ?_
        refine x_iadd hC dL_law_177 ?_
        refine x_cell hC (by omega) dL_law_178 (Nat.le_of_ble_eq_true rfl) (fun z hz => ?_)
        refine x_istore hC dL_law_181 (by decide) rfl ?_
        refine x_iload hC dL_law_183 rfl ?_
        refine x_bipush hC dL_law_185 (by decide) ?_
        refine x_irem hC dL_law_187 (by omega) (by omega) ?_
        refine x_topn (fun l5 hl5 => ?_)
        refine x_istore hC dL_law_188 (by decide) rfl ?_
        refine x_iload hC dL_law_190 rfl ?_
        refine x_sipush hC dL_law_192 (by decide) ?_
        refine x_irem hC dL_law_195 (by omega) (by omega) ?_
        refine x_topn (fun f5 hf5 => ?_)
        refine x_istore hC dL_law_196 (by decide) rfl ?_
        refine x_aload_n hC dL_law_198 rfl ?_
        refine x_iconst hC dL_law_199 ?_
        refine x_iload hC dL_law_200 rfl ?_
        refine x_bipush hC dL_law_202 (by decide) ?_
        refine x_idiv hC dL_law_204 (by omega) (by omega) ?_
        refine x_bipush hC dL_law_205 (by decide) ?_
        refine x_irem hC dL_law_207 (by omega) (by omega) ?_
        refine x_iadd hC dL_law_208 ?_
        refine x_topn (fun a5 ha5 => ?_)
        refine x_iload hC dL_law_209 rfl ?_
        refine x_iload hC dL_law_211 rfl ?_
        refine x_iconst hC dL_law_213 ?_
        refine x_iadd hC dL_law_214 ?_
        refine x_iload hC dL_law_215 rfl ?_
        refine x_sipush hC dL_law_217 (by decide) ?_
        refine x_idiv hC dL_law_220 (by omega) (by omega) ?_
        refine x_bipush hC dL_law_221 (by decide) ?_
        refine x_irem hC dL_law_223 (by omega) (by omega) ?_
        refine x_iadd hC dL_law_224 ?_
        refine x_bipush hC dL_law_225 (by decide) ?_
        refine x_irem hC dL_law_227 (by omega) (by omega) ?_
        refine x_topn (fun u5 hu5 => ?_)
        refine x_iload hC dL_law_228 rfl ?_
        refine x_iload hC dL_law_230 rfl ?_
        refine x_iload hC dL_law_232 rfl ?_
        refine x_sipush hC dL_law_234 (by decide) ?_
        refine x_idiv hC dL_law_237 (by omega) (by omega) ?_
        refine x_bipush hC dL_law_238 (by decide) ?_
        refine x_irem hC dL_law_240 (by omega) (by omega) ?_
        refine x_iadd hC dL_law_241 ?_
        refine x_topn (fun t5 ht5 => ?_)
        refine x_iconst hC dL_law_242 ?_
        refine x_iload hC dL_law_243 rfl ?_
        refine x_sipush hC dL_law_245 (by decide) ?_
        refine x_idiv hC dL_law_248 (by omega) (by omega) ?_
        refine x_bipush hC dL_law_249 (by decide) ?_
        refine x_irem hC dL_law_251 (by omega) (by omega) ?_
        refine x_iadd hC dL_law_252 ?_
        refine x_topn (fun w5 hw5 => ?_)
        refine x_callV hC [.int (iZ a5), .int (iZ l5), .int (iZ u5), .int (iZ f5), .int (iZ t5), .int (iZ w5)] 6 rfl dL_law_253 (fun l => m_X7_cargo l G ca ac (cA ac 163) μ d n h L9 t hX (hI2).1 a5 l5 u5 f5 t5 w5 (by omega) (by omega) (by omega) (by omega) (by omega) (by omega) (inv_cargo (hI2).1 a5 l5 u5 f5 t5 w5).2.1) qM_L_54 qI_X7_cargo qS_X7_cargo qi_X7 qC_X7_cargo (by decide +kernel) (by decide) (by decide) rfl (Nat.le_of_ble_eq_true rfl) (xk (fun μ3 hμ3 => ?_)) rfl
        have hs9 := cg_ok (d := d) (a := a5) (g := l5) (u := u5) (f := f5) (t := t5) (w := w5) (by omega) (by omega)
        obtain ⟨r9, D, hRμ3⟩ : ∃ r D, opCargo d a5 l5 u5 f5 t5 w5 = (r, D) := ⟨_, _, rfl⟩
        have z2 := in2_cargo hI2 a5 l5 u5 f5 t5 w5
        rw [hRμ3] at hs9 z2
        change r9 = d 0 5 ∧ D 0 5 = d 0 5 + 1 ∧ D 0 4 = d 0 4 at hs9
        change zIn2 D at z2
        have kμ3 := keep_ok (r := opCargo d a5 l5 u5 f5 t5 w5) (by rw [hRμ3]; exact (by show 0 ≤ r9; omega)) hμ3
        rw [hRμ3] at kμ3
        change zSt μ3 D (sPushN n) (sPushH n h d) L9 t at kμ3
        refine x_top (b9 := i) (by rw [hRμ3]; show r9 = i; omega) ?_
        refine x_iload hC dL_law_256 rfl ?_
        refine x_sameN hC 265 (rfl) dL_law_258 (by decide) ?_
        refine x_iconst hC dL_law_261 ?_
        refine x_goto hC 266 dL_law_262 (by decide) ?_
        refine x_istore_n hC dL_law_266 (by decide) rfl ?_
        refine x_iinc hC dL_law_267 rfl (by decide) rfl ?_
        refine x_goto hC 151 dL_law_270 (by decide) ?_
        refine x_weak (L' := [(5, .int (iZ (i + 1))), (4, .int (iZ C)), (3, .int (iZ S)), (2, .int (iZ 1)), (1, .ref (ac 156)), (0, .ref b)]) ⟨rfl, rfl, rfl, rfl, rfl, rfl, trivial⟩ ?_
        exact ih (i + 1) _ _ _ _ (by omega) (by omega) kμ3 z2 (by omega) (by omega)

set_option maxHeartbeats 4000000 in
set_option maxRecDepth 100000 in
/-- the ships come -/
theorem law_ships {Γ : zG} {G : va_G} {ca : Nat → ClassId} {ac : Int → Nat} {b Lx : Nat} {xs : Nat → Int32} (hC : xC Γ G ca ac b Lx xs) {S : Int} (hSr : 1 ≤ S ∧ S ≤ 5) {L9 : Int} {t : Int → Int} : ∀ (r : Nat) (i : Int) (μ d : zM) (n : Int) (h : Int → zM), 0 ≤ i → i + (r : Int) = S → zSt μ d n h L9 t → zIn2 d → d 0 4 = i → d 0 5 = 0 → X Γ G ca ac μ 49 [(4, .int (iZ i)), (3, .int (iZ S)), (2, .int (iZ 1)), (1, .ref (ac 156)), (0, .ref b)] [] := by
  intro r
  induction r with
  | zero =>
    intro i μ d n h hi hr hX hI2 hS4 hC5
    have hN5 := hI2.1.1.1.1
    refine x_iload hC dL_law_49 rfl ?_
    refine x_iload_n hC dL_law_51 rfl ?_
    refine x_icmp_ge hC 136 dL_law_52 (by decide) (by omega) (by omega) (fun c_1 => ?_) (fun c_1 => ?_)
    · refine x_iconst hC dL_law_136 ?_
      refine x_aload_n hC dL_law_137 rfl ?_
      refine x_iconst hC dL_law_138 ?_
      refine x_cell hC (by omega) dL_law_139 (Nat.le_of_ble_eq_true rfl) (fun v1 hv1 => ?_)
      refine x_bipush hC dL_law_142 (by decide) ?_
      refine x_irem hC dL_law_144 (by omega) (by omega) ?_
      refine x_iadd hC dL_law_145 ?_
      refine x_topn (fun K hK => ?_)
      refine x_istore hC dL_law_146 (by decide) rfl ?_
      refine x_iconst hC dL_law_148 ?_
      refine x_istore hC dL_law_149 (by decide) rfl ?_
      refine x_weak (L' := [(5, .int (iZ 0)), (4, .int (iZ K)), (3, .int (iZ S)), (2, .int (iZ 1)), (1, .ref (ac 156)), (0, .ref b)]) ⟨rfl, rfl, rfl, rfl, rfl, rfl, trivial⟩ ?_
      exact law_cargoes hC hSr (by omega) K.toNat 0 _ _ _ _ (by omega) (by omega) hX hI2 (by omega) (by omega)
    · exfalso; omega
  | succ r ih =>
    intro i μ d n h hi hr hX hI2 hS4 hC5
    have hN5 := hI2.1.1.1.1
    refine x_iload hC dL_law_49 rfl ?_
    refine x_iload_n hC dL_law_51 rfl ?_
    refine x_icmp_ge hC 136 dL_law_52 (by decide) (by omega) (by omega) (fun c_1 => ?_) (fun c_1 => ?_)
    · exfalso; omega
    · refine x_iload_n hC dL_law_55 rfl ?_
      refine x_if_eq hC 136 dL_law_56 (by decide) (by omega) (fun c_2 => ?_) (fun c_2 => ?_)
      · exfalso; omega
      · refine x_aload_n hC dL_law_59 rfl ?_
        refine x_iconst hC dL_law_60 ?_
        refine x_iload hC dL_law_61 rfl ?_
        refine x_iadd hC dL_law_63 ?_
        refine x_cell hC (by omega) dL_law_64 (Nat.le_of_ble_eq_true rfl) (fun y hy => ?_)
        refine x_istore hC dL_law_67 (by decide) rfl ?_
        refine x_aload_n hC dL_law_69 rfl ?_
        refine x_bipush hC dL_law_70 (by decide) ?_
        refine x_iload hC dL_law_72 rfl ?_
        refine x_bipush hC dL_law_74 (by decide) ?_
        refine x_irem hC dL_law_76 (by omega) (by omega) ?_
        refine x_iadd hC dL_law_77 ?_
        refine x_topn (fun zs hzs => ?_)
        refine x_iconst hC dL_law_78 ?_
        refine x_iload hC dL_law_79 rfl ?_
        refine x_sipush hC dL_law_81 (by decide) ?_
        refine x_idiv hC dL_law_84 (by omega) (by omega) ?_
        refine x_bipush hC dL_law_85 (by decide) ?_
        refine x_irem hC dL_law_87 (by omega) (by omega) ?_
        refine x_iadd hC dL_law_88 ?_
        refine x_topn (fun vs hvs => ?_)
        refine x_iconst hC dL_law_89 ?_
        refine x_iload hC dL_law_90 rfl ?_
        refine x_sipush hC dL_law_92 (by decide) ?_
        refine x_idiv hC dL_law_95 (by omega) (by omega) ?_
        refine x_bipush hC dL_law_96 (by decide) ?_
        refine x_irem hC dL_law_98 (by omega) (by omega) ?_
        refine x_iadd hC dL_law_99 ?_
        refine x_topn (fun us hus => ?_)
        refine x_iload hC dL_law_100 rfl ?_
        refine x_ldc hC (131072) qc_L_48 rfl dL_law_102 ?_
        refine x_idiv hC dL_law_104 (by omega) (by omega) ?_
        refine x_bipush hC dL_law_105 (by decide) ?_
        refine x_irem hC dL_law_107 (by omega) (by omega) ?_
        refine x_topn (fun ps hps => ?_)
        refine x_iload hC dL_law_108 rfl ?_
        refine x_ldc hC (1048576) qc_L_49 rfl dL_law_110 ?_
        refine x_idiv hC dL_law_112 (by omega) (by omega) ?_
        refine x_bipush hC dL_law_113 (by decide) ?_
        refine x_irem hC dL_law_115 (by omega) (by omega) ?_
        refine x_topn (fun ts hts => ?_)
        refine x_callV hC [.int (iZ zs), .int (iZ vs), .int (iZ us), .int (iZ ps), .int (iZ ts)] 5 rfl dL_law_116 (fun l => m_X7_ship l G ca ac (cA ac 163) μ d n h L9 t hX (hI2).1 zs vs us ps ts (by omega) (by omega) (by omega) (by omega) (by omega) (inv_ship (hI2).1 zs vs us ps ts).2.1) qM_L_50 qI_X7_ship qS_X7_ship qi_X7 qC_X7_ship (by decide +kernel) (by decide) (by decide) rfl (Nat.le_of_ble_eq_true rfl) (xk (fun μ3 hμ3 => ?_)) rfl
        have hs9 := sh_ok (d := d) (z := zs) (v := vs) (u := us) (p := ps) (t := ts) (by omega) (by omega)
        obtain ⟨r9, D, hRμ3⟩ : ∃ r D, opShip d zs vs us ps ts = (r, D) := ⟨_, _, rfl⟩
        have z2 := in2_ship hI2 zs vs us ps ts
        rw [hRμ3] at hs9 z2
        change r9 = d 0 4 ∧ D 0 4 = d 0 4 + 1 ∧ D 0 5 = d 0 5 at hs9
        change zIn2 D at z2
        have kμ3 := keep_ok (r := opShip d zs vs us ps ts) (by rw [hRμ3]; exact (by show 0 ≤ r9; omega)) hμ3
        rw [hRμ3] at kμ3
        change zSt μ3 D (sPushN n) (sPushH n h d) L9 t at kμ3
        refine x_top (b9 := i) (by rw [hRμ3]; show r9 = i; omega) ?_
        refine x_iload hC dL_law_119 rfl ?_
        refine x_sameN hC 128 (rfl) dL_law_121 (by decide) ?_
        refine x_iconst hC dL_law_124 ?_
        refine x_goto hC 129 dL_law_125 (by decide) ?_
        refine x_istore_n hC dL_law_129 (by decide) rfl ?_
        refine x_iinc hC dL_law_130 rfl (by decide) rfl ?_
        refine x_goto hC 49 dL_law_133 (by decide) ?_
        refine x_weak (L' := [(4, .int (iZ (i + 1))), (3, .int (iZ S)), (2, .int (iZ 1)), (1, .ref (ac 156)), (0, .ref b)]) ⟨rfl, rfl, rfl, rfl, rfl, trivial⟩ ?_
        exact ih (i + 1) _ _ _ _ (by omega) (by omega) kμ3 z2 (by omega) (by omega)

set_option maxHeartbeats 4000000 in
set_option maxRecDepth 100000 in
/-- from the new object on -/
theorem law_go {Γ : zG} {G : va_G} {ca : Nat → ClassId} {ac : Int → Nat} {b Lx : Nat} {xs : Nat → Int32} (hC : xC Γ G ca ac b Lx xs) {μ : zM} {n : Int} {h : Int → zM} {L9 : Int} {t : Int → Int} (hX : zSt μ d0 n h L9 t) : X Γ G ca ac μ 8 [(1, .ref (ac 156)), (0, .ref b)] [] := by
  refine x_aload_n hC dL_law_8 rfl ?_
  refine x_iconst hC dL_law_9 ?_
  refine x_iconst hC dL_law_10 ?_
  refine x_callV hC [.int (iZ 0), .int (iZ 4)] 2 rfl dL_law_11 (fun l => m_X7_distance l G ca ac (cA ac 163) μ d0 n h L9 t hX (in0).1 0 4 (by omega) (by omega)) qM_L_22 qI_X7_distance qS_X7_distance qi_X7 qC_X7_distance (by decide +kernel) (by decide) (by decide) rfl (Nat.le_of_ble_eq_true rfl) (xk (fun μ1 hμ1 => ?_)) rfl
  refine x_top (b9 := 450) ((ask_d (by omega) (by omega)).trans (by decide +kernel)) ?_
  refine x_sipush hC dL_law_14 (by decide) ?_
  refine x_sameN hC 34 (rfl) dL_law_17 (by decide) ?_
  refine x_aload_n hC dL_law_20 rfl ?_
  refine x_iconst hC dL_law_21 ?_
  refine x_callV hC [.int (iZ 0)] 1 rfl dL_law_22 (fun l => m_X7_bestCargo l G ca ac (cA ac 163) μ1 d0 n h L9 t hμ1 (in0).1 0 (by omega)) qM_L_40 qI_X7_bestCargo qS_X7_bestCargo qi_X7 qC_X7_bestCargo (by decide +kernel) (by decide) (by decide) rfl (Nat.le_of_ble_eq_true rfl) (xk (fun μ2 hμ2 => ?_)) rfl
  refine x_top (b9 := -1000001) (by unfold qBestC; rw [if_pos (by rw [show d0 0 4 = 0 by decide +kernel]; omega)]) ?_
  refine x_ldc hC (-1000001) qc_L_43 rfl dL_law_25 ?_
  refine x_sameN hC 34 (rfl) dL_law_27 (by decide) ?_
  refine x_iconst hC dL_law_30 ?_
  refine x_goto hC 35 dL_law_31 (by decide) ?_
  refine x_istore_n hC dL_law_35 (by decide) rfl ?_
  refine x_iconst hC dL_law_36 ?_
  refine x_aload_n hC dL_law_37 rfl ?_
  refine x_iconst hC dL_law_38 ?_
  refine x_cell hC (by omega) dL_law_39 (Nat.le_of_ble_eq_true rfl) (fun v0 hv0 => ?_)
  refine x_iconst hC dL_law_42 ?_
  refine x_irem hC dL_law_43 (by omega) (by omega) ?_
  refine x_iadd hC dL_law_44 ?_
  refine x_topn (fun S hS => ?_)
  refine x_istore_n hC dL_law_45 (by decide) rfl ?_
  refine x_iconst hC dL_law_46 ?_
  refine x_istore hC dL_law_47 (by decide) rfl ?_
  refine x_weak (L' := [(4, .int (iZ 0)), (3, .int (iZ S)), (2, .int (iZ 1)), (1, .ref (ac 156)), (0, .ref b)]) ⟨rfl, rfl, rfl, rfl, rfl, trivial⟩ ?_
  exact law_ships hC (by omega) S.toNat 0 _ _ _ _ (by omega) (by omega) hμ2 in0 (by decide +kernel) (by decide +kernel)
