set_option maxHeartbeats 4000000 in
set_option maxRecDepth 100000 in
/-- followAll(ship k) -/
theorem m_X2_followAll (l : Launch) (G : va_G) (ca : Nat → ClassId) (ad : Int → Nat) (A : Nat → Prop) (μ : zM) (b : Int) (hb : zb b) (d : zM) (hd : vw μ b = d) (k : Int) (hB : bD d) (hk : 0 ≤ k ∧ k < d 0 4) (hG : zGo d k (sNum d k)) : zMet l (cω G ca ad) A yX2_followAll cX2_followAll 2 (some (.object "ShipFixtures$Course")) 3 90 [.ref (ad b), .int (iZ k)] μ (zpI (.ref (ad (b + 5))) (zFo d b k (sNum d k) μ)) := by
  refine zMet_of (by decide) (Nat.le_of_ble_eq_true rfl) (fun Γ hC => ?_)
  show Z Γ _ μ 0 [(0, .ref (ad b)), (1, .int (iZ k))] []
  obtain ⟨hN, hP, hB3, hB4⟩ := id hB
  obtain ⟨hN1, hN2⟩ := id hN
  obtain ⟨hs0, hs1, hs2, hs3, hs4, hs6⟩ := hB3 k (by omega)
  refine z_aload_n hC dX2_followAll_0 rfl ?_
  refine z_iload_n hC dX2_followAll_1 rfl ?_
  refine z_bipush hC dX2_followAll_2 (by decide) ?_
  refine z_callV hC [.int (iZ k), .int (iZ 10)] 2 rfl dX2_followAll_4 (fun l => m_X2_follow l G ca ad _ μ b hb d hd k 10 (sNum d k) hB (by omega) (by omega) (Or.inr ⟨sNum_e (by omega), by omega⟩) hG) qM_X2_173 qI_X2_follow qS_X2_follow qi_X2 qC_X2_follow (by decide +kernel) (by decide) (by decide) (cl_desk hb) (cd_desk hb) rfl (Nat.le_of_ble_eq_true rfl) (zk_int (fun μ1 hμ1 => ?_)) rfl
  obtain ⟨hμ1f, hμ10, hμ11, hμ16, hμ1m⟩ := id hμ1
  have hd2 : vw μ1 b = d := by rw [vw_fr5 hμ1f]; exact hd
  exact z_aret hC dX2_followAll_7 ⟨rfl, hμ1⟩

set_option maxHeartbeats 4000000 in
set_option maxRecDepth 100000 in
/-- hindrance(ship k, cargo c) -/
theorem m_X2_hindrance (l : Launch) (G : va_G) (ca : Nat → ClassId) (ad : Int → Nat) (A : Nat → Prop) (μ : zM) (b : Int) (hb : zb b) (d : zM) (hd : vw μ b = d) (k c : Int) (hB : bD d) (hk : 0 ≤ k ∧ k < d 0 4) (hc : 0 ≤ c ∧ c < d 0 5) (hG : zGo d k (sNum d k)) : zMet l (cω G ca ad) A yX2_hindrance cX2_hindrance 3 (some .int) 3 90 [.ref (ad b), .int (iZ k), .int (iZ c)] μ (zpI (.int (iZ (sCould d k c))) (fun μ' => zCo μ b μ' (d (16 + c) 2) (sFree d k c (sEnd d k).1 ((sEnd d k).2.1)) (sArr d k c (sEnd d k).1 ((sEnd d k).2.1)) (sLoad d k c (sEnd d k).1 ((sEnd d k).2.1)) (sFree d k c (sEnd d k).1 ((sEnd d k).2.1) - (sEnd d k).2.1) (sEarn d k c (sEnd d k).1 ((sEnd d k).2.1)) ((sEnd d k).2.2 + sEarn d k c (sEnd d k).1 ((sEnd d k).2.1)) (sMarg d k c (sEnd d k).1 ((sEnd d k).2.1)))) := by
  refine zMet_of (by decide) (Nat.le_of_ble_eq_true rfl) (fun Γ hC => ?_)
  show Z Γ _ μ 0 [(0, .ref (ad b)), (1, .int (iZ k)), (2, .int (iZ c))] []
  obtain ⟨hN, hP, hB3, hB4⟩ := id hB
  obtain ⟨hN1, hN2⟩ := id hN
  obtain ⟨hs0, hs1, hs2, hs3, hs4, hs6⟩ := hB3 k (by omega)
  have hg : (0 ≤ (sEnd d k).1 ∧ (sEnd d k).1 ≤ 7) ∧ (0 ≤ (sEnd d k).2.1 ∧ (sEnd d k).2.1 ≤ 2000) := hG.2 _ (Nat.le_refl _)
  obtain ⟨hc0, hc1, hc2, hc3, hc4, hc5, hc6⟩ := hB4 c hc
  have hm := sMarg_b hP hs1 (hB4 c hc) hg.1 hg.2
  refine z_aload_n hC dX2_hindrance_0 rfl ?_
  refine z_iload_n hC dX2_hindrance_1 rfl ?_
  refine z_bipush hC dX2_hindrance_2 (by decide) ?_
  refine z_callV hC [.int (iZ k), .int (iZ 10)] 2 rfl dX2_hindrance_4 (fun l => m_X2_follow l G ca ad _ μ b hb d hd k 10 (sNum d k) hB (by omega) (by omega) (Or.inr ⟨sNum_e (by omega), by omega⟩) hG) qM_X2_173 qI_X2_follow qS_X2_follow qi_X2 qC_X2_follow (by decide +kernel) (by decide) (by decide) (cl_desk hb) (cd_desk hb) rfl (Nat.le_of_ble_eq_true rfl) (zk_int (fun μ1 hμ1 => ?_)) rfl
  obtain ⟨hμ1f, hμ10, hμ11, hμ16, hμ1m⟩ := id hμ1
  have hμ10 : μ1 (b + 5) 0 = (sEnd d k).1 := hμ10
  have hμ11 : μ1 (b + 5) 1 = (sEnd d k).2.1 := hμ11
  have hμ16 : μ1 (b + 5) 6 = (sEnd d k).2.2 := hμ16
  have hd2 : vw μ1 b = d := by rw [vw_fr5 hμ1f]; exact hd
  refine z_pop hC dX2_hindrance_7 rfl ?_
  refine z_aload_n hC dX2_hindrance_8 rfl ?_
  refine z_aload_n hC dX2_hindrance_9 rfl ?_
  refine z_get hC iA_X2 rfl 2 (by decide) qF_X2_20 rfl dX2_hindrance_10 (cl_desk hb) (cd_desk hb) rfl ?_
  refine z_iload_n hC dX2_hindrance_13 rfl ?_
  refine z_aald hC dX2_hindrance_14 2 rfl (cl_ships hb) (fun _ i => b + 6 + i) (cd_ships hb) (by omega) (by omega) (by decide) ?_
  refine z_iload_n hC dX2_hindrance_15 rfl ?_
  refine z_callV hC [.ref (ad (b + 6 + k)), .int (iZ c)] 2 rfl dX2_hindrance_16 (fun l => m_X2_sail l G ca ad _ μ1 b hb d hd2 k c ((sEnd d k).1) ((sEnd d k).2.1) ((sEnd d k).2.2) hN hP (by omega) (hB.2.2.1 _ (by omega)) (by omega) (hB.2.2.2 _ (by omega)) (by omega) (by omega) hμ10 hμ11 hμ16) qM_X2_169 qI_X2_sail qS_X2_sail qi_X2 qC_X2_sail (by decide +kernel) (by decide) (by decide) (cl_desk hb) (cd_desk hb) rfl (Nat.le_of_ble_eq_true rfl) (zk_void (fun μ3 hμ3 => ?_)) rfl
  obtain ⟨hμ3f, hμ30, hμ31, hμ32, hμ33, hμ34, hμ35, hμ36, hμ37⟩ := id hμ3
  have hd4 : vw μ3 b = d := by rw [vw_fr5 hμ3f]; exact hd2
  refine z_aload_n hC dX2_hindrance_19 rfl ?_
  refine z_get hC iA_X2 rfl 3 (by decide) qF_X2_26 rfl dX2_hindrance_20 (cl_desk hb) (cd_desk hb) rfl ?_
  refine z_iload_n hC dX2_hindrance_23 rfl ?_
  refine z_aald hC dX2_hindrance_24 3 rfl (cl_cargoes hb) (fun _ i => b + 16 + i) (cd_cargoes hb) (by omega) (by omega) (by decide) ?_
  refine z_get hC iA_X0 rfl 0 (by decide) qF_X2_95 rfl dX2_hindrance_25 (cl_cargo hb (by omega)) (cd_cargo hb (by omega)) rfl ?_
  refine z_top (b := d (16 + c) 0) ((vw_cargo (by omega) (by omega)).symm.trans (congrFun (congrFun hd4 _) _)) ?_
  refine z_aload_n hC dX2_hindrance_28 rfl ?_
  refine z_get hC iA_X2 rfl 2 (by decide) qF_X2_20 rfl dX2_hindrance_29 (cl_desk hb) (cd_desk hb) rfl ?_
  refine z_iload_n hC dX2_hindrance_32 rfl ?_
  refine z_aald hC dX2_hindrance_33 2 rfl (cl_ships hb) (fun _ i => b + 6 + i) (cd_ships hb) (by omega) (by omega) (by decide) ?_
  refine z_get hC iA_X6 rfl 0 (by decide) qF_X2_80 rfl dX2_hindrance_34 (cl_ship hb (by omega)) (cd_ship hb (by omega)) rfl ?_
  refine z_top (b := d (6 + k) 0) ((vw_ship (by omega) (by omega)).symm.trans (congrFun (congrFun hd4 _) _)) ?_
  refine z_icmp_le hC 42 dX2_hindrance_37 (by decide) (by omega) (by omega) (fun c_5 => ?_) (fun c_5 => ?_)
  · refine z_aload_n hC dX2_hindrance_42 rfl ?_
    refine z_get hC iA_X2 rfl 8 (by decide) qF_X2_33 rfl dX2_hindrance_43 (cl_desk hb) (cd_desk hb) rfl ?_
    refine z_get hC iA_X1 rfl 7 (by decide) qF_X2_183 rfl dX2_hindrance_46 (cl_course hb) (cd_course hb) rfl ?_
    refine z_top (b := sMarg d k c ((sEnd d k).1) ((sEnd d k).2.1)) (by rw [hμ37]) ?_
    refine z_if_ge hC 56 dX2_hindrance_49 (by decide) (by omega) (fun c_6 => ?_) (fun c_6 => ?_)
    · refine z_iconst hC dX2_hindrance_56 ?_
      exact z_iret hC dX2_hindrance_57 ⟨by unfold sCould; rw [if_neg (by omega), if_neg (by omega)], (fun c9 hc9 => (hμ3f c9 hc9).trans (hμ1f c9 hc9)), hμ30, hμ31, hμ32, hμ33, hμ34, hμ35, hμ36, hμ37⟩
    · refine z_iconst hC dX2_hindrance_52 ?_
      refine z_goto hC 57 dX2_hindrance_53 (by decide) ?_
      exact z_iret hC dX2_hindrance_57 ⟨by unfold sCould; rw [if_neg (by omega), if_pos (by omega)], (fun c9 hc9 => (hμ3f c9 hc9).trans (hμ1f c9 hc9)), hμ30, hμ31, hμ32, hμ33, hμ34, hμ35, hμ36, hμ37⟩
  · refine z_iconst hC dX2_hindrance_40 ?_
    exact z_iret hC dX2_hindrance_41 ⟨by unfold sCould; rw [if_pos (by omega)], (fun c9 hc9 => (hμ3f c9 hc9).trans (hμ1f c9 hc9)), hμ30, hμ31, hμ32, hμ33, hμ34, hμ35, hμ36, hμ37⟩

set_option maxHeartbeats 4000000 in
set_option maxRecDepth 100000 in
/-- fixturesInTime(ship k) -/
theorem m_X2_fixturesInTime (l : Launch) (G : va_G) (ca : Nat → ClassId) (ad : Int → Nat) (A : Nat → Prop) (μ : zM) (b : Int) (hb : zb b) (d : zM) (hd : vw μ b = d) (k : Int) (hB : bD d) (hk : 0 ≤ k ∧ k < d 0 4) (hF : ∀ n : Nat, n < sNum d k → 0 ≤ d (11 + k) (n : Int) ∧ d (11 + k) (n : Int) < d 0 5) : zMet l (cω G ca ad) A yX2_fixturesInTime cX2_fixturesInTime 4 (some .int) 2 66 [.ref (ad b), .int (iZ k)] μ (zpI (.int (iZ ((sInT d k : Nat) : Int))) (fun μ' => ∀ c, c ≠ b + 5 → μ' c = μ c)) := by
  refine zMet_of (by decide) (Nat.le_of_ble_eq_true rfl) (fun Γ hC => ?_)
  show Z Γ _ μ 0 [(0, .ref (ad b)), (1, .int (iZ k))] []
  obtain ⟨hN, hP, hB3, hB4⟩ := id hB
  obtain ⟨hN1, hN2⟩ := id hN
  obtain ⟨hs0, hs1, hs2, hs3, hs4, hs6⟩ := hB3 k (by omega)
  have hNe := sNum_e (d := d) (k := k) (by omega)
  refine z_aload_n hC dX2_fixturesInTime_0 rfl ?_
  refine z_get hC iA_X2 rfl 2 (by decide) qF_X2_20 rfl dX2_fixturesInTime_1 (cl_desk hb) (cd_desk hb) rfl ?_
  refine z_iload_n hC dX2_fixturesInTime_4 rfl ?_
  refine z_aald hC dX2_fixturesInTime_5 2 rfl (cl_ships hb) (fun _ i => b + 6 + i) (cd_ships hb) (by omega) (by omega) (by decide) ?_
  refine z_astore_n hC dX2_fixturesInTime_6 (by decide) rfl ?_
  refine z_aload_n hC dX2_fixturesInTime_7 rfl ?_
  refine z_get hC iA_X2 rfl 8 (by decide) qF_X2_33 rfl dX2_fixturesInTime_8 (cl_desk hb) (cd_desk hb) rfl ?_
  refine z_aload_n hC dX2_fixturesInTime_11 rfl ?_
  refine z_callV hC [.ref (ad (b + 6 + k))] 1 rfl dX2_fixturesInTime_12 (fun l => m_X1_begin l G ca ad _ μ b hb d hd k (by omega)) qM_X2_166 qI_X1_begin qS_X1_begin qi_X1 qC_X1_begin (by decide +kernel) (by decide) (by decide) (cl_course hb) (cd_course hb) rfl (Nat.le_of_ble_eq_true rfl) (zk_void (fun μ1 hμ1 => ?_)) rfl
  obtain ⟨hμ1f, hμ10, hμ11, hμ16⟩ := id hμ1
  have hd2 : vw μ1 b = d := by rw [vw_fr5 hμ1f]; exact hd
  refine z_iconst hC dX2_fixturesInTime_15 ?_
  refine z_istore_n hC dX2_fixturesInTime_16 (by decide) rfl ?_
  have LOOP : ∀ (r n : Nat), n + r = sNum d k → ∀ μ1 : zM, zFo d b k n μ μ1 → (∀ m : Nat, m < n → 0 ≤ sMarg d k (d (11 + k) (m : Int)) (sPos d k m).1 (sPos d k m).2.1) → sTime d k r n = sInT d k → Z Γ (cω G ca ad) μ1 17 [(3, .int (iZ (n : Int))), (0, .ref (ad b)), (2, .ref (ad (b + 6 + k)))] [] := by
    intro r
    induction r with
    | zero =>
      intro n hn μ1 hI ht hT
      obtain ⟨hI0, hI1, hI2, hI3, hI4⟩ := id hI
      have hd1 : vw μ1 b = d := by rw [vw_fr5 hI0]; exact hd
      refine z_iload_n hC dX2_fixturesInTime_17 rfl ?_
      refine z_aload_n hC dX2_fixturesInTime_18 rfl ?_
      refine z_get hC iA_X6 rfl 6 (by decide) qF_X2_126 rfl dX2_fixturesInTime_19 (cl_ship hb (by omega)) (cd_ship hb (by omega)) rfl ?_
      refine z_top (b := d (6 + k) 6) ((vw_ship (by omega) (by omega)).symm.trans (congrFun (congrFun hd1 _) _)) ?_
      refine z_icmp_ge hC 54 dX2_fixturesInTime_22 (by decide) (by omega) (by omega) (fun c_3 => ?_) (fun c_3 => ?_)
      · refine z_aload_n hC dX2_fixturesInTime_54 rfl ?_
        refine z_get hC iA_X6 rfl 6 (by decide) qF_X2_126 rfl dX2_fixturesInTime_55 (cl_ship hb (by omega)) (cd_ship hb (by omega)) rfl ?_
        refine z_top (b := d (6 + k) 6) ((vw_ship (by omega) (by omega)).symm.trans (congrFun (congrFun hd1 _) _)) ?_
        exact z_iret hC dX2_fixturesInTime_58 ⟨by rw [← hT, show d (6 + k) 6 = (n : Int) by omega]; rfl, hI0⟩
      · exfalso; omega
    | succ r ih =>
      intro n hn μ1 hI ht hT
      obtain ⟨hI0, hI1, hI2, hI3, hI4⟩ := id hI
      have hd1 : vw μ1 b = d := by rw [vw_fr5 hI0]; exact hd
      have hg1 := hF n (by omega)
      have hg2 := sPos_b hB (by omega) n (fun m hm => hF m (by omega)) ht
      have hm9 := sMarg_b (t := (sPos d k n).2.1) hP hs1 (hB4 _ hg1) hg2.1 (by omega)
      refine z_iload_n hC dX2_fixturesInTime_17 rfl ?_
      refine z_aload_n hC dX2_fixturesInTime_18 rfl ?_
      refine z_get hC iA_X6 rfl 6 (by decide) qF_X2_126 rfl dX2_fixturesInTime_19 (cl_ship hb (by omega)) (cd_ship hb (by omega)) rfl ?_
      refine z_top (b := d (6 + k) 6) ((vw_ship (by omega) (by omega)).symm.trans (congrFun (congrFun hd1 _) _)) ?_
      refine z_icmp_ge hC 54 dX2_fixturesInTime_22 (by decide) (by omega) (by omega) (fun c_4 => ?_) (fun c_4 => ?_)
      · exfalso; omega
      · refine z_aload_n hC dX2_fixturesInTime_25 rfl ?_
        refine z_aload_n hC dX2_fixturesInTime_26 rfl ?_
        refine z_aload_n hC dX2_fixturesInTime_27 rfl ?_
        refine z_get hC iA_X6 rfl 7 (by decide) qF_X2_129 rfl dX2_fixturesInTime_28 (cl_ship hb (by omega)) (cd_ship hb (by omega)) rfl ?_
        refine z_iload_n hC dX2_fixturesInTime_31 rfl ?_
        refine z_iald hC dX2_fixturesInTime_32 (cl_fx hb (by omega)) (cd_fx hb (by omega)) (by omega) (by omega) (by decide) ?_
        refine z_top (b := d (11 + k) (n : Int)) ((vw_fx (by omega) (by omega)).symm.trans (congrFun (congrFun hd1 _) _)) ?_
        refine z_callV hC [.ref (ad (b + 6 + k)), .int (iZ (d (11 + k) (n : Int)))] 2 rfl dX2_fixturesInTime_33 (fun l => m_X2_sail l G ca ad _ μ1 b hb d hd1 k (d (11 + k) (n : Int)) ((sPos d k n).1) ((sPos d k n).2.1) ((sPos d k n).2.2) hN hP (by omega) (hB.2.2.1 _ (by omega)) (by omega) (hB.2.2.2 _ (by omega)) (by omega) (by omega) hI1 hI2 hI3) qM_X2_169 qI_X2_sail qS_X2_sail qi_X2 qC_X2_sail (by decide +kernel) (by decide) (by decide) (cl_desk hb) (cd_desk hb) rfl (Nat.le_of_ble_eq_true rfl) (zk_void (fun μ5 hμ5 => ?_)) rfl
        obtain ⟨hμ5f, hμ50, hμ51, hμ52, hμ53, hμ54, hμ55, hμ56, hμ57⟩ := id hμ5
        have hd6 : vw μ5 b = d := by rw [vw_fr5 hμ5f]; exact hd1
        refine z_aload_n hC dX2_fixturesInTime_36 rfl ?_
        refine z_get hC iA_X2 rfl 8 (by decide) qF_X2_33 rfl dX2_fixturesInTime_37 (cl_desk hb) (cd_desk hb) rfl ?_
        refine z_get hC iA_X1 rfl 7 (by decide) qF_X2_183 rfl dX2_fixturesInTime_40 (cl_course hb) (cd_course hb) rfl ?_
        refine z_top (b := sMarg d k (d (11 + k) (n : Int)) ((sPos d k n).1) ((sPos d k n).2.1)) (by rw [hμ57]) ?_
        refine z_if_ge hC 48 dX2_fixturesInTime_43 (by decide) (by omega) (fun c_7 => ?_) (fun c_7 => ?_)
        · refine z_iinc hC dX2_fixturesInTime_48 rfl (by decide) rfl ?_
          refine z_goto hC 17 dX2_fixturesInTime_51 (by decide) ?_
          refine z_weak (L' := [(3, .int (iZ ((n + 1 : Nat) : Int))), (0, .ref (ad b)), (2, .ref (ad (b + 6 + k)))]) ⟨rfl, rfl, rfl, trivial⟩ ?_
          exact ih (n + 1) (by omega) _ (zFo_s hI hμ5) (fun m hm => by
            rcases Nat.lt_or_ge m n with q | q
            · exact ht m q
            · have e : m = n := by omega
              rw [e]
              omega) (by rw [← hT, sTime_n (by omega)])
        · refine z_iload_n hC dX2_fixturesInTime_46 rfl ?_
          exact z_iret hC dX2_fixturesInTime_47 ⟨by rw [← hT, sTime_p (by omega)], (fun c9 hc9 => (hμ5f c9 hc9).trans (hI0 c9 hc9))⟩
  refine z_weak (L' := [(3, .int (iZ ((0 : Nat) : Int))), (0, .ref (ad b)), (2, .ref (ad (b + 6 + k)))]) ⟨rfl, rfl, rfl, trivial⟩ ?_
  exact LOOP (sNum d k) 0 (by omega) _ ⟨hμ1f, hμ10, hμ11, hμ16, fun m hm => absurd hm (by omega)⟩ (fun m hm => absurd hm (by omega)) rfl

set_option maxHeartbeats 4000000 in
set_option maxRecDepth 100000 in
/-- slackOf(ship k) -/
theorem m_X2_slackOf (l : Launch) (G : va_G) (ca : Nat → ClassId) (ad : Int → Nat) (A : Nat → Prop) (μ : zM) (b : Int) (hb : zb b) (d : zM) (hd : vw μ b = d) (k : Int) (hB : bD d) (hk : 0 ≤ k ∧ k < d 0 4) (hG : zGo d k (sNum d k)) : zMet l (cω G ca ad) A yX2_slackOf cX2_slackOf 7 (some .int) 2 66 [.ref (ad b), .int (iZ k)] μ (zpI (.int (iZ (sL d k (sNum d k)))) (fun μ' => ∀ c, c ≠ b + 5 → μ' c = μ c)) := by
  refine zMet_of (by decide) (Nat.le_of_ble_eq_true rfl) (fun Γ hC => ?_)
  show Z Γ _ μ 0 [(0, .ref (ad b)), (1, .int (iZ k))] []
  obtain ⟨hN, hP, hB3, hB4⟩ := id hB
  obtain ⟨hN1, hN2⟩ := id hN
  obtain ⟨hs0, hs1, hs2, hs3, hs4, hs6⟩ := hB3 k (by omega)
  have hNe := sNum_e (d := d) (k := k) (by omega)
  refine z_aload_n hC dX2_slackOf_0 rfl ?_
  refine z_get hC iA_X2 rfl 2 (by decide) qF_X2_20 rfl dX2_slackOf_1 (cl_desk hb) (cd_desk hb) rfl ?_
  refine z_iload_n hC dX2_slackOf_4 rfl ?_
  refine z_aald hC dX2_slackOf_5 2 rfl (cl_ships hb) (fun _ i => b + 6 + i) (cd_ships hb) (by omega) (by omega) (by decide) ?_
  refine z_astore_n hC dX2_slackOf_6 (by decide) rfl ?_
  refine z_ldc hC (-1000004) qc_X2_200 rfl dX2_slackOf_7 ?_
  refine z_istore_n hC dX2_slackOf_9 (by decide) rfl ?_
  refine z_iconst hC dX2_slackOf_10 ?_
  refine z_istore hC dX2_slackOf_11 (by decide) rfl ?_
  refine z_aload_n hC dX2_slackOf_13 rfl ?_
  refine z_get hC iA_X2 rfl 8 (by decide) qF_X2_33 rfl dX2_slackOf_14 (cl_desk hb) (cd_desk hb) rfl ?_
  refine z_aload_n hC dX2_slackOf_17 rfl ?_
  refine z_callV hC [.ref (ad (b + 6 + k))] 1 rfl dX2_slackOf_18 (fun l => m_X1_begin l G ca ad _ μ b hb d hd k (by omega)) qM_X2_166 qI_X1_begin qS_X1_begin qi_X1 qC_X1_begin (by decide +kernel) (by decide) (by decide) (cl_course hb) (cd_course hb) rfl (Nat.le_of_ble_eq_true rfl) (zk_void (fun μ1 hμ1 => ?_)) rfl
  obtain ⟨hμ1f, hμ10, hμ11, hμ16⟩ := id hμ1
  have hd2 : vw μ1 b = d := by rw [vw_fr5 hμ1f]; exact hd
  refine z_iconst hC dX2_slackOf_21 ?_
  refine z_istore hC dX2_slackOf_22 (by decide) rfl ?_
  have LOOP : ∀ (r n : Nat), n + r = sNum d k → ∀ μ1 : zM, zFo d b k n μ μ1 → Z Γ (cω G ca ad) μ1 24 [(5, .int (iZ (n : Int))), (4, .int (iZ (sW d k n))), (3, .int (iZ (sL d k n))), (0, .ref (ad b)), (2, .ref (ad (b + 6 + k)))] [] := by
    intro r
    induction r with
    | zero =>
      intro n hn μ1 hI
      obtain ⟨hI0, hI1, hI2, hI3, hI4⟩ := id hI
      have hd1 : vw μ1 b = d := by rw [vw_fr5 hI0]; exact hd
      refine z_iload hC dX2_slackOf_24 rfl ?_
      refine z_aload_n hC dX2_slackOf_26 rfl ?_
      refine z_get hC iA_X6 rfl 6 (by decide) qF_X2_126 rfl dX2_slackOf_27 (cl_ship hb (by omega)) (cd_ship hb (by omega)) rfl ?_
      refine z_top (b := d (6 + k) 6) ((vw_ship (by omega) (by omega)).symm.trans (congrFun (congrFun hd1 _) _)) ?_
      refine z_icmp_ge hC 100 dX2_slackOf_30 (by decide) (by omega) (by omega) (fun c_3 => ?_) (fun c_3 => ?_)
      · refine z_iload_n hC dX2_slackOf_100 rfl ?_
        obtain rfl : n = sNum d k := by omega
        exact z_iret hC dX2_slackOf_101 ⟨rfl, hI0⟩
      · exfalso; omega
    | succ r ih =>
      intro n hn μ1 hI
      obtain ⟨hI0, hI1, hI2, hI3, hI4⟩ := id hI
      have hd1 : vw μ1 b = d := by rw [vw_fr5 hI0]; exact hd
      have hg1 := hG.1 n (by omega)
      have hg2 := hG.2 n (by omega)
      have hm9 := sMarg_b (t := (sPos d k n).2.1) hP hs1 (hB4 _ hg1) hg2.1 (by omega)
      have hw9 := sWL_b hB hk hG n (by omega)
      refine z_iload hC dX2_slackOf_24 rfl ?_
      refine z_aload_n hC dX2_slackOf_26 rfl ?_
      refine z_get hC iA_X6 rfl 6 (by decide) qF_X2_126 rfl dX2_slackOf_27 (cl_ship hb (by omega)) (cd_ship hb (by omega)) rfl ?_
      refine z_top (b := d (6 + k) 6) ((vw_ship (by omega) (by omega)).symm.trans (congrFun (congrFun hd1 _) _)) ?_
      refine z_icmp_ge hC 100 dX2_slackOf_30 (by decide) (by omega) (by omega) (fun c_4 => ?_) (fun c_4 => ?_)
      · exfalso; omega
      · refine z_aload_n hC dX2_slackOf_33 rfl ?_
        refine z_aload_n hC dX2_slackOf_34 rfl ?_
        refine z_aload_n hC dX2_slackOf_35 rfl ?_
        refine z_get hC iA_X6 rfl 7 (by decide) qF_X2_129 rfl dX2_slackOf_36 (cl_ship hb (by omega)) (cd_ship hb (by omega)) rfl ?_
        refine z_iload hC dX2_slackOf_39 rfl ?_
        refine z_iald hC dX2_slackOf_41 (cl_fx hb (by omega)) (cd_fx hb (by omega)) (by omega) (by omega) (by decide) ?_
        refine z_top (b := d (11 + k) (n : Int)) ((vw_fx (by omega) (by omega)).symm.trans (congrFun (congrFun hd1 _) _)) ?_
        refine z_callV hC [.ref (ad (b + 6 + k)), .int (iZ (d (11 + k) (n : Int)))] 2 rfl dX2_slackOf_42 (fun l => m_X2_sail l G ca ad _ μ1 b hb d hd1 k (d (11 + k) (n : Int)) ((sPos d k n).1) ((sPos d k n).2.1) ((sPos d k n).2.2) hN hP (by omega) (hB.2.2.1 _ (by omega)) (by omega) (hB.2.2.2 _ (by omega)) (by omega) (by omega) hI1 hI2 hI3) qM_X2_169 qI_X2_sail qS_X2_sail qi_X2 qC_X2_sail (by decide +kernel) (by decide) (by decide) (cl_desk hb) (cd_desk hb) rfl (Nat.le_of_ble_eq_true rfl) (zk_void (fun μ5 hμ5 => ?_)) rfl
        obtain ⟨hμ5f, hμ50, hμ51, hμ52, hμ53, hμ54, hμ55, hμ56, hμ57⟩ := id hμ5
        have hd6 : vw μ5 b = d := by rw [vw_fr5 hμ5f]; exact hd1
        refine z_aload_n hC dX2_slackOf_45 rfl ?_
        refine z_get hC iA_X2 rfl 8 (by decide) qF_X2_33 rfl dX2_slackOf_46 (cl_desk hb) (cd_desk hb) rfl ?_
        refine z_get hC iA_X1 rfl 7 (by decide) qF_X2_183 rfl dX2_slackOf_49 (cl_course hb) (cd_course hb) rfl ?_
        refine z_top (b := sMarg d k (d (11 + k) (n : Int)) ((sPos d k n).1) ((sPos d k n).2.1)) (by rw [hμ57]) ?_
        refine z_iload hC dX2_slackOf_52 rfl ?_
        refine z_iadd hC dX2_slackOf_54 ?_
        refine z_istore hC dX2_slackOf_55 (by decide) rfl ?_
        refine z_iload hC dX2_slackOf_57 rfl ?_
        refine z_if_ne hC 67 dX2_slackOf_59 (by decide) (by omega) (fun c_7 => ?_) (fun c_7 => ?_)
        · refine z_iload_n hC dX2_slackOf_67 rfl ?_
          refine z_iload hC dX2_slackOf_68 rfl ?_
          refine z_min hC qM_X2_201 dX2_slackOf_70 (by omega) (by omega) (by decide) (Nat.le_of_ble_eq_true rfl) ?_
          refine z_top (b := sL d k (n + 1)) (sL_s (by omega)) ?_
          refine z_istore_n hC dX2_slackOf_73 (by decide) rfl ?_
          refine z_iload hC dX2_slackOf_74 rfl ?_
          refine z_aload_n hC dX2_slackOf_76 rfl ?_
          refine z_get hC iA_X2 rfl 8 (by decide) qF_X2_33 rfl dX2_slackOf_77 (cl_desk hb) (cd_desk hb) rfl ?_
          refine z_get hC iA_X1 rfl 3 (by decide) qF_X2_191 rfl dX2_slackOf_80 (cl_course hb) (cd_course hb) rfl ?_
          refine z_top (b := sLoad d k (d (11 + k) (n : Int)) ((sPos d k n).1) ((sPos d k n).2.1)) (by rw [hμ53]) ?_
          refine z_aload_n hC dX2_slackOf_83 rfl ?_
          refine z_get hC iA_X2 rfl 8 (by decide) qF_X2_33 rfl dX2_slackOf_84 (cl_desk hb) (cd_desk hb) rfl ?_
          refine z_get hC iA_X1 rfl 2 (by decide) qF_X2_180 rfl dX2_slackOf_87 (cl_course hb) (cd_course hb) rfl ?_
          refine z_top (b := sArr d k (d (11 + k) (n : Int)) ((sPos d k n).1) ((sPos d k n).2.1)) (by rw [hμ52]) ?_
          refine z_isub hC dX2_slackOf_90 ?_
          refine z_iadd hC dX2_slackOf_91 ?_
          refine z_top (b := sW d k (n + 1)) rfl ?_
          refine z_istore hC dX2_slackOf_92 (by decide) rfl ?_
          refine z_iinc hC dX2_slackOf_94 rfl (by decide) rfl ?_
          refine z_goto hC 24 dX2_slackOf_97 (by decide) ?_
          refine z_weak (L' := [(5, .int (iZ ((n + 1 : Nat) : Int))), (4, .int (iZ (sW d k (n + 1)))), (3, .int (iZ (sL d k (n + 1)))), (0, .ref (ad b)), (2, .ref (ad (b + 6 + k)))]) ⟨rfl, rfl, rfl, rfl, rfl, trivial⟩ ?_
          exact ih (n + 1) (by omega) _ (zFo_s hI hμ5)
        · refine z_iload hC dX2_slackOf_62 rfl ?_
          refine z_goto hC 73 dX2_slackOf_64 (by decide) ?_
          refine z_top (b := sL d k (n + 1)) (sL_f (by omega)) ?_
          refine z_istore_n hC dX2_slackOf_73 (by decide) rfl ?_
          refine z_iload hC dX2_slackOf_74 rfl ?_
          refine z_aload_n hC dX2_slackOf_76 rfl ?_
          refine z_get hC iA_X2 rfl 8 (by decide) qF_X2_33 rfl dX2_slackOf_77 (cl_desk hb) (cd_desk hb) rfl ?_
          refine z_get hC iA_X1 rfl 3 (by decide) qF_X2_191 rfl dX2_slackOf_80 (cl_course hb) (cd_course hb) rfl ?_
          refine z_top (b := sLoad d k (d (11 + k) (n : Int)) ((sPos d k n).1) ((sPos d k n).2.1)) (by rw [hμ53]) ?_
          refine z_aload_n hC dX2_slackOf_83 rfl ?_
          refine z_get hC iA_X2 rfl 8 (by decide) qF_X2_33 rfl dX2_slackOf_84 (cl_desk hb) (cd_desk hb) rfl ?_
          refine z_get hC iA_X1 rfl 2 (by decide) qF_X2_180 rfl dX2_slackOf_87 (cl_course hb) (cd_course hb) rfl ?_
          refine z_top (b := sArr d k (d (11 + k) (n : Int)) ((sPos d k n).1) ((sPos d k n).2.1)) (by rw [hμ52]) ?_
          refine z_isub hC dX2_slackOf_90 ?_
          refine z_iadd hC dX2_slackOf_91 ?_
          refine z_top (b := sW d k (n + 1)) rfl ?_
          refine z_istore hC dX2_slackOf_92 (by decide) rfl ?_
          refine z_iinc hC dX2_slackOf_94 rfl (by decide) rfl ?_
          refine z_goto hC 24 dX2_slackOf_97 (by decide) ?_
          refine z_weak (L' := [(5, .int (iZ ((n + 1 : Nat) : Int))), (4, .int (iZ (sW d k (n + 1)))), (3, .int (iZ (sL d k (n + 1)))), (0, .ref (ad b)), (2, .ref (ad (b + 6 + k)))]) ⟨rfl, rfl, rfl, rfl, rfl, trivial⟩ ?_
          exact ih (n + 1) (by omega) _ (zFo_s hI hμ5)
  refine z_weak (L' := [(5, .int (iZ ((0 : Nat) : Int))), (4, .int (iZ (sW d k 0))), (3, .int (iZ (sL d k 0))), (0, .ref (ad b)), (2, .ref (ad (b + 6 + k)))]) ⟨rfl, rfl, rfl, rfl, rfl, trivial⟩ ?_
  exact LOOP (sNum d k) 0 (by omega) _ ⟨hμ1f, hμ10, hμ11, hμ16, fun m hm => absurd hm (by omega)⟩

set_option maxHeartbeats 4000000 in
set_option maxRecDepth 100000 in
/-- cargoesThatAre(st) -/
theorem m_X2_cargoesThatAre (l : Launch) (G : va_G) (ca : Nat → ClassId) (ad : Int → Nat) (A : Nat → Prop) (μ : zM) (b : Int) (hb : zb b) (d : zM) (hd : vw μ b = d) (st : Int) (hst : -2147483648 ≤ st ∧ st ≤ 2147483647) (N : Nat) (hNN : (N : Int) = d 0 5) (hB : bD d) : zMet l (cω G ca ad) A yX2_cargoesThatAre cX2_cargoesThatAre 4 (some .int) 0 0 [.ref (ad b), .int (iZ st)] μ (zpI (.int (iZ (sCnt d st N))) (fun m => m = μ)) := by
  refine zMet_of (by decide) (Nat.le_of_ble_eq_true rfl) (fun Γ hC => ?_)
  show Z Γ _ μ 0 [(0, .ref (ad b)), (1, .int (iZ st))] []
  obtain ⟨hN, hP, hB3, hB4⟩ := id hB
  obtain ⟨hN1, hN2⟩ := id hN
  refine z_iconst hC dX2_cargoesThatAre_0 ?_
  refine z_istore_n hC dX2_cargoesThatAre_1 (by decide) rfl ?_
  refine z_iconst hC dX2_cargoesThatAre_2 ?_
  refine z_istore_n hC dX2_cargoesThatAre_3 (by decide) rfl ?_
  have LOOP : ∀ (r n : Nat), n + r = N → ∀ a : Int, a = sCnt d st n → Z Γ (cω G ca ad) μ 4 [(3, .int (iZ (n : Int))), (2, .int (iZ a)), (0, .ref (ad b)), (1, .int (iZ st))] [] := by
    intro r
    induction r with
    | zero =>
      intro n hn a ha
      refine z_iload_n hC dX2_cargoesThatAre_4 rfl ?_
      refine z_aload_n hC dX2_cargoesThatAre_5 rfl ?_
      refine z_get hC iA_X2 rfl 5 (by decide) qF_X2_56 rfl dX2_cargoesThatAre_6 (cl_desk hb) (cd_desk hb) rfl ?_
      refine z_top (b := d 0 5) ((vw_Cn).symm.trans (congrFun (congrFun hd _) _)) ?_
      refine z_icmp_ge hC 34 dX2_cargoesThatAre_9 (by decide) (by omega) (by omega) (fun c_1 => ?_) (fun c_1 => ?_)
      · refine z_iload_n hC dX2_cargoesThatAre_34 rfl ?_
        obtain rfl : n = N := by omega
        exact z_iret hC dX2_cargoesThatAre_35 ⟨by rw [ha], rfl⟩
      · exfalso; omega
    | succ r ih =>
      intro n hn a ha
      have hn9 : (n : Int) < d 0 5 := by omega
      obtain ⟨hc0, hc1, hc2, hc3, hc4, hc5, hc6⟩ := hB4 (n : Int) (by omega)
      refine z_iload_n hC dX2_cargoesThatAre_4 rfl ?_
      refine z_aload_n hC dX2_cargoesThatAre_5 rfl ?_
      refine z_get hC iA_X2 rfl 5 (by decide) qF_X2_56 rfl dX2_cargoesThatAre_6 (cl_desk hb) (cd_desk hb) rfl ?_
      refine z_top (b := d 0 5) ((vw_Cn).symm.trans (congrFun (congrFun hd _) _)) ?_
      refine z_icmp_ge hC 34 dX2_cargoesThatAre_9 (by decide) (by omega) (by omega) (fun c_2 => ?_) (fun c_2 => ?_)
      · exfalso; omega
      · refine z_aload_n hC dX2_cargoesThatAre_12 rfl ?_
        refine z_get hC iA_X2 rfl 3 (by decide) qF_X2_26 rfl dX2_cargoesThatAre_13 (cl_desk hb) (cd_desk hb) rfl ?_
        refine z_iload_n hC dX2_cargoesThatAre_16 rfl ?_
        refine z_aald hC dX2_cargoesThatAre_17 3 rfl (cl_cargoes hb) (fun _ i => b + 16 + i) (cd_cargoes hb) (by omega) (by omega) (by decide) ?_
        refine z_get hC iA_X0 rfl 6 (by decide) qF_X2_119 rfl dX2_cargoesThatAre_18 (cl_cargo hb (by omega)) (cd_cargo hb (by omega)) rfl ?_
        refine z_top (b := d (16 + (n : Int)) 6) ((vw_cargo (by omega) (by omega)).symm.trans (congrFun (congrFun hd _) _)) ?_
        refine z_iload_n hC dX2_cargoesThatAre_21 rfl ?_
        refine z_icmp_ne hC 28 dX2_cargoesThatAre_22 (by decide) (by omega) (by omega) (fun c_3 => ?_) (fun c_3 => ?_)
        · refine z_iinc hC dX2_cargoesThatAre_28 rfl (by decide) rfl ?_
          refine z_goto hC 4 dX2_cargoesThatAre_31 (by decide) ?_
          refine z_weak (L' := [(3, .int (iZ ((n + 1 : Nat) : Int))), (2, .int (iZ (a))), (0, .ref (ad b)), (1, .int (iZ st))]) ⟨rfl, rfl, rfl, rfl, trivial⟩ ?_
          exact ih (n + 1) (by omega) _ (by unfold sCnt; split <;> omega)
        · refine z_iinc hC dX2_cargoesThatAre_25 rfl (by decide) rfl ?_
          refine z_iinc hC dX2_cargoesThatAre_28 rfl (by decide) rfl ?_
          refine z_goto hC 4 dX2_cargoesThatAre_31 (by decide) ?_
          refine z_weak (L' := [(3, .int (iZ ((n + 1 : Nat) : Int))), (2, .int (iZ (a + 1))), (0, .ref (ad b)), (1, .int (iZ st))]) ⟨rfl, rfl, rfl, rfl, trivial⟩ ?_
          exact ih (n + 1) (by omega) _ (by unfold sCnt; split <;> omega)
  refine z_weak (L' := [(3, .int (iZ ((0 : Nat) : Int))), (2, .int (iZ 0)), (0, .ref (ad b)), (1, .int (iZ st))]) ⟨rfl, rfl, rfl, rfl, trivial⟩ ?_
  exact LOOP N 0 (by omega) _ rfl

set_option maxHeartbeats 4000000 in
set_option maxRecDepth 100000 in
/-- accountsTogether() -/
theorem m_X2_accountsTogether (l : Launch) (G : va_G) (ca : Nat → ClassId) (ad : Int → Nat) (A : Nat → Prop) (μ : zM) (b : Int) (hb : zb b) (d : zM) (hd : vw μ b = d) (N : Nat) (hNN : (N : Int) = d 0 4) (hB : bD d) : zMet l (cω G ca ad) A yX2_accountsTogether cX2_accountsTogether 3 (some .int) 0 0 [.ref (ad b)] μ (zpI (.int (iZ (sAcc d N))) (fun m => m = μ)) := by
  refine zMet_of (by decide) (Nat.le_of_ble_eq_true rfl) (fun Γ hC => ?_)
  show Z Γ _ μ 0 [(0, .ref (ad b))] []
  obtain ⟨hN, hP, hB3, hB4⟩ := id hB
  obtain ⟨hN1, hN2⟩ := id hN
  refine z_iconst hC dX2_accountsTogether_0 ?_
  refine z_istore_n hC dX2_accountsTogether_1 (by decide) rfl ?_
  refine z_iconst hC dX2_accountsTogether_2 ?_
  refine z_istore_n hC dX2_accountsTogether_3 (by decide) rfl ?_
  have LOOP : ∀ (r n : Nat), n + r = N → ∀ a : Int, a = sAcc d n → Z Γ (cω G ca ad) μ 4 [(2, .int (iZ (n : Int))), (1, .int (iZ a)), (0, .ref (ad b))] [] := by
    intro r
    induction r with
    | zero =>
      intro n hn a ha
      refine z_iload_n hC dX2_accountsTogether_4 rfl ?_
      refine z_aload_n hC dX2_accountsTogether_5 rfl ?_
      refine z_get hC iA_X2 rfl 4 (by decide) qF_X2_52 rfl dX2_accountsTogether_6 (cl_desk hb) (cd_desk hb) rfl ?_
      refine z_top (b := d 0 4) ((vw_S).symm.trans (congrFun (congrFun hd _) _)) ?_
      refine z_icmp_ge hC 30 dX2_accountsTogether_9 (by decide) (by omega) (by omega) (fun c_1 => ?_) (fun c_1 => ?_)
      · refine z_iload_n hC dX2_accountsTogether_30 rfl ?_
        obtain rfl : n = N := by omega
        exact z_iret hC dX2_accountsTogether_31 ⟨by rw [ha], rfl⟩
      · exfalso; omega
    | succ r ih =>
      intro n hn a ha
      have hn9 : (n : Int) < d 0 4 := by omega
      refine z_iload_n hC dX2_accountsTogether_4 rfl ?_
      refine z_aload_n hC dX2_accountsTogether_5 rfl ?_
      refine z_get hC iA_X2 rfl 4 (by decide) qF_X2_52 rfl dX2_accountsTogether_6 (cl_desk hb) (cd_desk hb) rfl ?_
      refine z_top (b := d 0 4) ((vw_S).symm.trans (congrFun (congrFun hd _) _)) ?_
      refine z_icmp_ge hC 30 dX2_accountsTogether_9 (by decide) (by omega) (by omega) (fun c_2 => ?_) (fun c_2 => ?_)
      · exfalso; omega
      · refine z_iload_n hC dX2_accountsTogether_12 rfl ?_
        refine z_aload_n hC dX2_accountsTogether_13 rfl ?_
        refine z_get hC iA_X2 rfl 2 (by decide) qF_X2_20 rfl dX2_accountsTogether_14 (cl_desk hb) (cd_desk hb) rfl ?_
        refine z_iload_n hC dX2_accountsTogether_17 rfl ?_
        refine z_aald hC dX2_accountsTogether_18 2 rfl (cl_ships hb) (fun _ i => b + 6 + i) (cd_ships hb) (by omega) (by omega) (by decide) ?_
        refine z_get hC iA_X6 rfl 5 (by decide) qF_X2_152 rfl dX2_accountsTogether_19 (cl_ship hb (by omega)) (cd_ship hb (by omega)) rfl ?_
        refine z_top (b := d (6 + (n : Int)) 5) ((vw_ship (by omega) (by omega)).symm.trans (congrFun (congrFun hd _) _)) ?_
        refine z_iadd hC dX2_accountsTogether_22 ?_
        refine z_istore_n hC dX2_accountsTogether_23 (by decide) rfl ?_
        refine z_iinc hC dX2_accountsTogether_24 rfl (by decide) rfl ?_
        refine z_goto hC 4 dX2_accountsTogether_27 (by decide) ?_
        refine z_weak (L' := [(2, .int (iZ ((n + 1 : Nat) : Int))), (1, .int (iZ (a + (d (6 + (n : Int)) 5)))), (0, .ref (ad b))]) ⟨rfl, rfl, rfl, trivial⟩ ?_
        exact ih (n + 1) (by omega) _ (by unfold sAcc; rw [ha])
  refine z_weak (L' := [(2, .int (iZ ((0 : Nat) : Int))), (1, .int (iZ 0)), (0, .ref (ad b))]) ⟨rfl, rfl, rfl, trivial⟩ ?_
  exact LOOP N 0 (by omega) _ rfl
