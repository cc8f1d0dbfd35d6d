set_option maxHeartbeats 4000000 in
set_option maxRecDepth 100000 in
/-- follow(ship k, f): through the first N of its fixtures -/
theorem m_X2_follow (l : Launch) (G : va_G) (ca : Nat → ClassId) (ad : Int → Nat) (A : Nat → Prop) (μ : zM) (b : Int) (hb : zb b) (d : zM) (hd : vw μ b = d) (k f : Int) (N : Nat) (hB : bD d) (hk : 0 ≤ k ∧ k < d 0 4) (hf : 0 ≤ f ∧ f ≤ 10) (hNf : ((N : Int) = f ∧ f ≤ d (6 + k) 6) ∨ ((N : Int) = d (6 + k) 6 ∧ d (6 + k) 6 ≤ f)) (hG : zGo d k N) : zMet l (cω G ca ad) A yX2_follow cX2_follow 5 (some (.object "ShipFixtures$Course")) 2 66 [.ref (ad b), .int (iZ k), .int (iZ f)] μ (zpI (.ref (ad (b + 5))) (zFo d b k N μ)) := by
  refine zMet_of (by decide) (Nat.le_of_ble_eq_true rfl) (fun Γ hC => ?_)
  show Z Γ _ μ 0 [(0, .ref (ad b)), (1, .int (iZ k)), (2, .int (iZ f))] []
  obtain ⟨hN, hP, hB3, hB4⟩ := id hB
  obtain ⟨hN1, hN2⟩ := id hN
  obtain ⟨hs0, hs1, hs2, hs3, hs4, hs6⟩ := hB3 k (by omega)
  refine z_aload_n hC dX2_follow_0 rfl ?_
  refine z_get hC iA_X2 rfl 2 (by decide) qF_X2_20 rfl dX2_follow_1 (cl_desk hb) (cd_desk hb) rfl ?_
  refine z_iload_n hC dX2_follow_4 rfl ?_
  refine z_aald hC dX2_follow_5 2 rfl (cl_ships hb) (fun _ i => b + 6 + i) (cd_ships hb) (by omega) (by omega) (by decide) ?_
  refine z_astore_n hC dX2_follow_6 (by decide) rfl ?_
  refine z_aload_n hC dX2_follow_7 rfl ?_
  refine z_get hC iA_X2 rfl 8 (by decide) qF_X2_33 rfl dX2_follow_8 (cl_desk hb) (cd_desk hb) rfl ?_
  refine z_aload_n hC dX2_follow_11 rfl ?_
  refine z_callV hC [.ref (ad (b + 6 + k))] 1 rfl dX2_follow_12 (fun l => m_X1_begin l G ca ad _ μ b hb d hd k (by omega)) qM_X2_166 qI_X1_begin qS_X1_begin qi_X1 qC_X1_begin (by decide +kernel) (by decide) (by decide) (cl_course hb) (cd_course hb) rfl (Nat.le_of_ble_eq_true rfl) (zk_void (fun μ1 hμ1 => ?_)) rfl
  obtain ⟨hμ1f, hμ10, hμ11, hμ16⟩ := id hμ1
  have hd2 : vw μ1 b = d := by rw [vw_fr5 hμ1f]; exact hd
  refine z_iconst hC dX2_follow_15 ?_
  refine z_istore hC dX2_follow_16 (by decide) rfl ?_
  have LOOP : ∀ (r n : Nat), n + r = N → ∀ μ1 : zM, zFo d b k n μ μ1 → Z Γ (cω G ca ad) μ1 18 [(4, .int (iZ (n : Int))), (0, .ref (ad b)), (2, .int (iZ f)), (3, .ref (ad (b + 6 + k)))] [] := by
    intro r
    induction r with
    | zero =>
      intro n hn μ1 hI
      obtain ⟨hI0, hI1, hI2, hI3, hI4⟩ := id hI
      have hd1 : vw μ1 b = d := by rw [vw_fr5 hI0]; exact hd
      refine z_iload hC dX2_follow_18 rfl ?_
      refine z_iload_n hC dX2_follow_20 rfl ?_
      refine z_icmp_ge hC 51 dX2_follow_21 (by decide) (by omega) (by omega) (fun c_3 => ?_) (fun c_3 => ?_)
      · refine z_aload_n hC dX2_follow_51 rfl ?_
        refine z_get hC iA_X2 rfl 8 (by decide) qF_X2_33 rfl dX2_follow_52 (cl_desk hb) (cd_desk hb) rfl ?_
        obtain rfl : n = N := by omega
        exact z_aret hC dX2_follow_55 ⟨rfl, hI0, hI1, hI2, hI3, hI4⟩
      · refine z_iload hC dX2_follow_24 rfl ?_
        refine z_aload_n hC dX2_follow_26 rfl ?_
        refine z_get hC iA_X6 rfl 6 (by decide) qF_X2_126 rfl dX2_follow_27 (cl_ship hb (by omega)) (cd_ship hb (by omega)) rfl ?_
        refine z_top (b := d (6 + k) 6) ((vw_ship (by omega) (by omega)).symm.trans (congrFun (congrFun hd1 _) _)) ?_
        refine z_icmp_ge hC 51 dX2_follow_30 (by decide) (by omega) (by omega) (fun c_4 => ?_) (fun c_4 => ?_)
        · refine z_aload_n hC dX2_follow_51 rfl ?_
          refine z_get hC iA_X2 rfl 8 (by decide) qF_X2_33 rfl dX2_follow_52 (cl_desk hb) (cd_desk hb) rfl ?_
          obtain rfl : n = N := by omega
          exact z_aret hC dX2_follow_55 ⟨rfl, hI0, hI1, hI2, hI3, hI4⟩
        · exfalso; omega
    | succ r ih =>
      intro n hn μ1 hI
      obtain ⟨hI0, hI1, hI2, hI3, hI4⟩ := id hI
      have hd1 : vw μ1 b = d := by rw [vw_fr5 hI0]; exact hd
      have hg1 := hG.1 n (by omega)
      have hg2 := hG.2 n (by omega)
      refine z_iload hC dX2_follow_18 rfl ?_
      refine z_iload_n hC dX2_follow_20 rfl ?_
      refine z_icmp_ge hC 51 dX2_follow_21 (by decide) (by omega) (by omega) (fun c_5 => ?_) (fun c_5 => ?_)
      · exfalso; omega
      · refine z_iload hC dX2_follow_24 rfl ?_
        refine z_aload_n hC dX2_follow_26 rfl ?_
        refine z_get hC iA_X6 rfl 6 (by decide) qF_X2_126 rfl dX2_follow_27 (cl_ship hb (by omega)) (cd_ship hb (by omega)) rfl ?_
        refine z_top (b := d (6 + k) 6) ((vw_ship (by omega) (by omega)).symm.trans (congrFun (congrFun hd1 _) _)) ?_
        refine z_icmp_ge hC 51 dX2_follow_30 (by decide) (by omega) (by omega) (fun c_6 => ?_) (fun c_6 => ?_)
        · exfalso; omega
        · refine z_aload_n hC dX2_follow_33 rfl ?_
          refine z_aload_n hC dX2_follow_34 rfl ?_
          refine z_aload_n hC dX2_follow_35 rfl ?_
          refine z_get hC iA_X6 rfl 7 (by decide) qF_X2_129 rfl dX2_follow_36 (cl_ship hb (by omega)) (cd_ship hb (by omega)) rfl ?_
          refine z_iload hC dX2_follow_39 rfl ?_
          refine z_iald hC dX2_follow_41 (cl_fx hb (by omega)) (cd_fx hb (by omega)) (by omega) (by omega) (by decide) ?_
          refine z_top (b := d (11 + k) (n : Int)) ((vw_fx (by omega) (by omega)).symm.trans (congrFun (congrFun hd1 _) _)) ?_
          refine z_callV hC [.ref (ad (b + 6 + k)), .int (iZ (d (11 + k) (n : Int)))] 2 rfl dX2_follow_42 (fun l => m_X2_sail l G ca ad _ μ1 b hb d hd1 k (d (11 + k) (n : Int)) ((sPos d k n).1) ((sPos d k n).2.1) ((sPos d k n).2.2) hN hP (by omega) (hB.2.2.1 k (by omega)) (by omega) (hB.2.2.2 _ (by omega)) (by omega) (by omega) hI1 hI2 hI3) qM_X2_169 qI_X2_sail qS_X2_sail qi_X2 qC_X2_sail (by decide +kernel) (by decide) (by decide) (cl_desk hb) (cd_desk hb) rfl (Nat.le_of_ble_eq_true rfl) (zk_void (fun μ7 hμ7 => ?_)) rfl
          obtain ⟨hμ7f, hμ70, hμ71, hμ72, hμ73, hμ74, hμ75, hμ76, hμ77⟩ := id hμ7
          have hd8 : vw μ7 b = d := by rw [vw_fr5 hμ7f]; exact hd1
          refine z_iinc hC dX2_follow_45 rfl (by decide) rfl ?_
          refine z_goto hC 18 dX2_follow_48 (by decide) ?_
          refine z_weak (L' := [(4, .int (iZ ((n + 1 : Nat) : Int))), (0, .ref (ad b)), (2, .int (iZ f)), (3, .ref (ad (b + 6 + k)))]) ⟨rfl, rfl, rfl, rfl, trivial⟩ ?_
          exact ih (n + 1) (by omega) _ (zFo_s hI hμ7)
  refine z_weak (L' := [(4, .int (iZ ((0 : Nat) : Int))), (0, .ref (ad b)), (2, .int (iZ f)), (3, .ref (ad (b + 6 + k)))]) ⟨rfl, rfl, rfl, rfl, trivial⟩ ?_
  exact LOOP N 0 (by omega) _ ⟨hμ1f, hμ10, hμ11, hμ16, fun m hm => absurd hm (by omega)⟩
