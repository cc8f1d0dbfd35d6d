set_option maxHeartbeats 4000000 in
set_option maxRecDepth 100000 in
/-- choose(k0, k1, c0, c1) -/
theorem m_X2_choose (l : Launch) (G : va_G) (ca : Nat → ClassId) (ad : Int → Nat) (A : Nat → Prop) (μ : zM) (b : Int) (hb : zb b) (d : zM) (hd : vw μ b = d) (k0 k1 c0 c1 : Int) (nk m : Nat) (hB : bD d) (hG : ∀ k, 0 ≤ k ∧ k < d 0 4 → zGo d k (sNum d k)) (hk0 : 0 ≤ k0) (hk1 : k1 = k0 + (nk : Int)) (hk2 : k1 ≤ d 0 4) (hc0 : 0 ≤ c0) (hc1 : c1 = c0 + (m : Int)) (hc2 : c1 ≤ d 0 5) : zMet l (cω G ca ad) A yX2_choose cX2_choose 8 (some .boolean) 4 112 [.ref (ad b), .int (iZ k0), .int (iZ k1), .int (iZ c0), .int (iZ c1)] μ (zpI (.int (iZ (zB ((sAll d k0 c0 m nk (0, μ b 9, μ b 10, μ b 11)).1 = 1)))) (fun μ' => zF2 μ b μ' ∧ μ' b 9 = (sAll d k0 c0 m nk (0, μ b 9, μ b 10, μ b 11)).2.1 ∧ μ' b 10 = (sAll d k0 c0 m nk (0, μ b 9, μ b 10, μ b 11)).2.2.1 ∧ μ' b 11 = (sAll d k0 c0 m nk (0, μ b 9, μ b 10, μ b 11)).2.2.2)) := by
  refine zMet_of (by decide) (Nat.le_of_ble_eq_true rfl) (fun Γ hC => ?_)
  show Z Γ _ μ 0 [(0, .ref (ad b)), (1, .int (iZ k0)), (2, .int (iZ k1)), (3, .int (iZ c0)), (4, .int (iZ c1))] []
  obtain ⟨hN, hP, hB3, hB4⟩ := id hB
  obtain ⟨hN1, hN2⟩ := id hN
  refine z_iconst hC dX2_choose_0 ?_
  refine z_istore hC dX2_choose_1 (by decide) rfl ?_
  refine z_iload_n hC dX2_choose_3 rfl ?_
  refine z_istore hC dX2_choose_4 (by decide) rfl ?_
  have LOOP : ∀ (r n : Nat), n + r = nk → ∀ (μ1 : zM) (x : Int), x = k0 + (n : Int) → zF2 μ b μ1 → μ1 b 9 = (sAll d k0 c0 m n (0, μ b 9, μ b 10, μ b 11)).2.1 → μ1 b 10 = (sAll d k0 c0 m n (0, μ b 9, μ b 10, μ b 11)).2.2.1 → μ1 b 11 = (sAll d k0 c0 m n (0, μ b 9, μ b 10, μ b 11)).2.2.2 → Z Γ (cω G ca ad) μ1 6 [(6, .int (iZ x)), (5, .int (iZ (sAll d k0 c0 m n (0, μ b 9, μ b 10, μ b 11)).1)), (0, .ref (ad b)), (2, .int (iZ k1)), (3, .int (iZ c0)), (4, .int (iZ c1))] [] := by
    intro r
    induction r with
    | zero =>
      intro n hn μ1 x hx hF1 hp9 hp10 hp11
      have hd1 : vw μ1 b = d := by rw [vw_f2 hF1]; exact hd
      refine z_iload hC dX2_choose_6 rfl ?_
      refine z_iload_n hC dX2_choose_8 rfl ?_
      refine z_icmp_ge hC 106 dX2_choose_9 (by decide) (by omega) (by omega) (fun c_1 => ?_) (fun c_1 => ?_)
      · refine z_iload hC dX2_choose_106 rfl ?_
        obtain rfl : n = nk := by omega
        refine z_top (b := zB ((sAll d k0 c0 m n (0, μ b 9, μ b 10, μ b 11)).1 = 1)) ?_ ?_
        · rcases sAll_01 (d := d) (k := k0) (c := c0) (m := m) (q := (0, μ b 9, μ b 10, μ b 11)) (Or.inl rfl) n with q9 | q9
          · rw [q9]; rfl
          · rw [q9]; rfl
        · exact z_zret hC dX2_choose_108 ⟨rfl, hF1, hp9, hp10, hp11⟩
      · exfalso; omega
    | succ r ih =>
      intro n hn μ1 x hx hF1 hp9 hp10 hp11
      have hd1 : vw μ1 b = d := by rw [vw_f2 hF1]; exact hd
      have hkx : 0 ≤ x ∧ x < d 0 4 := by omega
      refine z_iload hC dX2_choose_6 rfl ?_
      refine z_iload_n hC dX2_choose_8 rfl ?_
      refine z_icmp_ge hC 106 dX2_choose_9 (by decide) (by omega) (by omega) (fun c_2 => ?_) (fun c_2 => ?_)
      · exfalso; omega
      · refine z_iload_n hC dX2_choose_12 rfl ?_
        refine z_istore hC dX2_choose_13 (by decide) rfl ?_
        have LOOP2 : ∀ (r2 n2 : Nat), n2 + r2 = m → ∀ (μ2 : zM) (y : Int), y = c0 + (n2 : Int) → zF2 μ b μ2 → μ2 b 9 = (sRow d x c0 n2 (sAll d k0 c0 m n (0, μ b 9, μ b 10, μ b 11))).2.1 → μ2 b 10 = (sRow d x c0 n2 (sAll d k0 c0 m n (0, μ b 9, μ b 10, μ b 11))).2.2.1 → μ2 b 11 = (sRow d x c0 n2 (sAll d k0 c0 m n (0, μ b 9, μ b 10, μ b 11))).2.2.2 → Z Γ (cω G ca ad) μ2 15 [(7, .int (iZ y)), (5, .int (iZ (sRow d x c0 n2 (sAll d k0 c0 m n (0, μ b 9, μ b 10, μ b 11))).1)), (6, .int (iZ x)), (0, .ref (ad b)), (2, .int (iZ k1)), (3, .int (iZ c0)), (4, .int (iZ c1))] [] := by
          intro r2
          induction r2 with
          | zero =>
            intro n2 hn2 μ2 y hy hF2 hr9 hr10 hr11
            have hd2 : vw μ2 b = d := by rw [vw_f2 hF2]; exact hd
            refine z_iload hC dX2_choose_15 rfl ?_
            refine z_iload hC dX2_choose_17 rfl ?_
            refine z_icmp_ge hC 100 dX2_choose_19 (by decide) (by omega) (by omega) (fun c_3 => ?_) (fun c_3 => ?_)
            · refine z_iinc hC dX2_choose_100 rfl (by decide) rfl ?_
              refine z_goto hC 6 dX2_choose_103 (by decide) ?_
              obtain rfl : n2 = m := by omega
              have eA : (sAll d k0 c0 n2 (n + 1) (0, μ b 9, μ b 10, μ b 11)) = (sRow d x c0 n2 (sAll d k0 c0 n2 n (0, μ b 9, μ b 10, μ b 11))) := by rw [hx]; rfl
              have K := ih (n + 1) (by omega) _ (x + 1) (by omega) hF2 (by rw [eA]; exact hr9) (by rw [eA]; exact hr10) (by rw [eA]; exact hr11)
              rw [eA] at K
              refine z_weak (L' := [(6, .int (iZ (x + 1))), (5, .int (iZ (sRow d x c0 n2 (sAll d k0 c0 n2 n (0, μ b 9, μ b 10, μ b 11))).1)), (0, .ref (ad b)), (2, .int (iZ k1)), (3, .int (iZ c0)), (4, .int (iZ c1))]) ⟨rfl, rfl, rfl, rfl, rfl, rfl, trivial⟩ ?_
              exact K
            · exfalso; omega
          | succ r2 ih2 =>
            intro n2 hn2 μ2 y hy hF2 hr9 hr10 hr11
            have hd2 : vw μ2 b = d := by rw [vw_f2 hF2]; exact hd
            obtain ⟨hq0, hq1, hq2, hq3, hq4, hq5, hq6⟩ := hB4 y (by omega)
            have hcb := sCould_b d x y
            have heb : -300000 ≤ sEarn d x y (sEnd d x).1 (sEnd d x).2.1 ∧ sEarn d x y (sEnd d x).1 (sEnd d x).2.1 ≤ 9801 := sEa_b hB hkx (by omega) (hG x hkx)
            have h01 := sRow_01 (d := d) (k := x) (c := c0) (sAll_01 (d := d) (k := k0) (c := c0) (m := m) (q := (0, μ b 9, μ b 10, μ b 11)) (Or.inl rfl) n) n2
            have hqb := sRow_b (c := c0) hB hkx hc0 (hG x hkx) (sAll_b (k := k0) (c := c0) (m := m) (q := (0, μ b 9, μ b 10, μ b 11)) hB hk0 hc0 (by omega) hG (Or.inr rfl) n (by omega)) n2 (by omega)
            refine z_iload hC dX2_choose_15 rfl ?_
            refine z_iload hC dX2_choose_17 rfl ?_
            refine z_icmp_ge hC 100 dX2_choose_19 (by decide) (by omega) (by omega) (fun c_4 => ?_) (fun c_4 => ?_)
            · exfalso; omega
            · refine z_aload_n hC dX2_choose_22 rfl ?_
              refine z_get hC iA_X2 rfl 3 (by decide) qF_X2_26 rfl dX2_choose_23 (cl_desk hb) (cd_desk hb) rfl ?_
              refine z_iload hC dX2_choose_26 rfl ?_
              refine z_aald hC dX2_choose_28 3 rfl (cl_cargoes hb) (fun _ i => b + 16 + i) (cd_cargoes hb) (by omega) (by omega) (by decide) ?_
              refine z_get hC iA_X0 rfl 6 (by decide) qF_X2_119 rfl dX2_choose_29 (cl_cargo hb (by omega)) (cd_cargo hb (by omega)) rfl ?_
              refine z_top (b := d (16 + y) 6) ((vw_cargo (by omega) (by omega)).symm.trans (congrFun (congrFun hd2 _) _)) ?_
              refine z_if_ne hC 94 dX2_choose_32 (by decide) (by omega) (fun c_5 => ?_) (fun c_5 => ?_)
              · refine z_iinc hC dX2_choose_94 rfl (by decide) rfl ?_
                refine z_goto hC 15 dX2_choose_97 (by decide) ?_
                have e9 : sRow d x c0 (n2 + 1) (sAll d k0 c0 m n (0, μ b 9, μ b 10, μ b 11)) = (sRow d x c0 n2 (sAll d k0 c0 m n (0, μ b 9, μ b 10, μ b 11))) := by show sStep d x (c0 + (n2 : Int)) _ = _; rw [← hy]; exact sStep_n (by unfold sEa; omega)
                have K := ih2 (n2 + 1) (by omega) μ2 (y + 1) (by omega) (hF2) (by rw [e9]; exact hr9) (by rw [e9]; exact hr10) (by rw [e9]; exact hr11)
                rw [e9] at K
                refine z_weak (L' := [(7, .int (iZ (y + 1))), (5, .int (iZ (sRow d x c0 n2 (sAll d k0 c0 m n (0, μ b 9, μ b 10, μ b 11))).1)), (6, .int (iZ x)), (0, .ref (ad b)), (2, .int (iZ k1)), (3, .int (iZ c0)), (4, .int (iZ c1))]) ⟨rfl, rfl, rfl, rfl, rfl, rfl, rfl, trivial⟩ ?_
                exact K
              · refine z_aload_n hC dX2_choose_35 rfl ?_
                refine z_iload hC dX2_choose_36 rfl ?_
                refine z_iload hC dX2_choose_38 rfl ?_
                refine z_callV hC [.int (iZ x), .int (iZ y)] 2 rfl dX2_choose_40 (fun l => m_X2_hindrance l G ca ad _ μ2 b hb d hd2 x y hB (by omega) (by omega) (hG _ (by omega))) qM_X2_122 qI_X2_hindrance qS_X2_hindrance qi_X2 qC_X2_hindrance (by decide +kernel) (by decide) (by decide) (cl_desk hb) (cd_desk hb) rfl (Nat.le_of_ble_eq_true rfl) (zk_int (fun μ6 hμ6 => ?_)) rfl
                obtain ⟨hμ6f, hμ60, hμ61, hμ62, hμ63, hμ64, hμ65, hμ66, hμ67⟩ := id hμ6
                have hd7 : vw μ6 b = d := by rw [vw_fr5 hμ6f]; exact hd2
                refine z_if_eq hC 49 dX2_choose_43 (by decide) (by omega) (fun c_8 => ?_) (fun c_8 => ?_)
                · refine z_iload hC dX2_choose_49 rfl ?_
                  refine z_if_eq hC 68 dX2_choose_51 (by decide) (by omega) (fun c_9 => ?_) (fun c_9 => ?_)
                  · refine z_iconst hC dX2_choose_68 ?_
                    refine z_istore hC dX2_choose_69 (by decide) rfl ?_
                    refine z_aload_n hC dX2_choose_71 rfl ?_
                    refine z_iload hC dX2_choose_72 rfl ?_
                    refine z_put hC iA_X2 rfl tyX2 tyX2_ok nmX2 9 (by decide) rfl rfl 9 rfl qF_X2_207 rfl dX2_choose_74 (cl_desk hb) (cd_desk hb) (fun _ => rfl) (fun _ => Nat.le_of_ble_eq_true rfl) ?_
                    refine z_nm (fun μ10 hμ10 => ?_)
                    have hd11 : vw μ10 b = d := by rw [hμ10, vw_ch (by omega)]; exact hd7
                    refine z_aload_n hC dX2_choose_77 rfl ?_
                    refine z_iload hC dX2_choose_78 rfl ?_
                    refine z_put hC iA_X2 rfl tyX2 tyX2_ok nmX2 10 (by decide) rfl rfl 10 rfl qF_X2_210 rfl dX2_choose_80 (cl_desk hb) (cd_desk hb) (fun _ => rfl) (fun _ => Nat.le_of_ble_eq_true rfl) ?_
                    refine z_nm (fun μ12 hμ12 => ?_)
                    have hd13 : vw μ12 b = d := by rw [hμ12, vw_ch (by omega)]; exact hd11
                    refine z_aload_n hC dX2_choose_83 rfl ?_
                    refine z_aload_n hC dX2_choose_84 rfl ?_
                    refine z_get hC iA_X2 rfl 8 (by decide) qF_X2_33 rfl dX2_choose_85 (cl_desk hb) (cd_desk hb) rfl ?_
                    refine z_get hC iA_X1 rfl 5 (by decide) qF_X2_197 rfl dX2_choose_88 (cl_course hb) (cd_course hb) rfl ?_
                    refine z_top (b := sEarn d x y (sEnd d x).1 (sEnd d x).2.1) (by rw [hμ12, zup_n (by omega), hμ10, zup_n (by omega), hμ65]) ?_
                    refine z_put hC iA_X2 rfl tyX2 tyX2_ok nmX2 11 (by decide) rfl rfl 11 rfl qF_X2_204 rfl dX2_choose_91 (cl_desk hb) (cd_desk hb) (fun _ => rfl) (fun _ => Nat.le_of_ble_eq_true rfl) ?_
                    refine z_nm (fun μ14 hμ14 => ?_)
                    have hd15 : vw μ14 b = d := by rw [hμ14, vw_ch (by omega)]; exact hd13
                    refine z_iinc hC dX2_choose_94 rfl (by decide) rfl ?_
                    refine z_goto hC 15 dX2_choose_97 (by decide) ?_
                    have hFn : zF2 μ b μ14 := by rw [hμ14, hμ12, hμ10]; exact zF2_up (by omega) (zF2_up (by omega) (zF2_up (by omega) (zF2_co hF2 hμ6f)))
                    have e9 : sRow d x c0 (n2 + 1) (sAll d k0 c0 m n (0, μ b 9, μ b 10, μ b 11)) = (1, x, y, sEa d x y) := by show sStep d x (c0 + (n2 : Int)) _ = _; rw [← hy]; exact sStep_p (by unfold sEa; omega)
                    have K := ih2 (n2 + 1) (by omega) μ14 (y + 1) (by omega) hFn (by rw [e9, hμ14, zup_n (by omega), hμ12, zup_n (by omega), hμ10, zup_s]) (by rw [e9, hμ14, zup_n (by omega), hμ12, zup_s]) (by rw [e9, hμ14, zup_s]; rfl)
                    rw [e9] at K
                    dsimp only at K
                    refine z_weak (L' := [(7, .int (iZ (y + 1))), (5, .int (iZ 1)), (6, .int (iZ x)), (0, .ref (ad b)), (2, .int (iZ k1)), (3, .int (iZ c0)), (4, .int (iZ c1))]) ⟨rfl, rfl, rfl, rfl, rfl, rfl, rfl, trivial⟩ ?_
                    exact K
                  · refine z_aload_n hC dX2_choose_54 rfl ?_
                    refine z_get hC iA_X2 rfl 8 (by decide) qF_X2_33 rfl dX2_choose_55 (cl_desk hb) (cd_desk hb) rfl ?_
                    refine z_get hC iA_X1 rfl 5 (by decide) qF_X2_197 rfl dX2_choose_58 (cl_course hb) (cd_course hb) rfl ?_
                    refine z_top (b := sEarn d x y (sEnd d x).1 (sEnd d x).2.1) (by rw [hμ65]) ?_
                    refine z_aload_n hC dX2_choose_61 rfl ?_
                    refine z_get hC iA_X2 rfl 11 (by decide) qF_X2_204 rfl dX2_choose_62 (cl_desk hb) (cd_desk hb) rfl ?_
                    refine z_top (b := (sRow d x c0 n2 (sAll d k0 c0 m n (0, μ b 9, μ b 10, μ b 11))).2.2.2) (by rw [hμ6f b (by omega), hr11]) ?_
                    refine z_icmp_le hC 94 dX2_choose_65 (by decide) (by omega) (by omega) (fun c_16 => ?_) (fun c_16 => ?_)
                    · refine z_iinc hC dX2_choose_94 rfl (by decide) rfl ?_
                      refine z_goto hC 15 dX2_choose_97 (by decide) ?_
                      have e9 : sRow d x c0 (n2 + 1) (sAll d k0 c0 m n (0, μ b 9, μ b 10, μ b 11)) = (sRow d x c0 n2 (sAll d k0 c0 m n (0, μ b 9, μ b 10, μ b 11))) := by show sStep d x (c0 + (n2 : Int)) _ = _; rw [← hy]; exact sStep_n (by unfold sEa; omega)
                      have K := ih2 (n2 + 1) (by omega) μ6 (y + 1) (by omega) (zF2_co hF2 hμ6f) (by rw [e9, hμ6f b (by omega)]; exact hr9) (by rw [e9, hμ6f b (by omega)]; exact hr10) (by rw [e9, hμ6f b (by omega)]; exact hr11)
                      rw [e9] at K
                      refine z_weak (L' := [(7, .int (iZ (y + 1))), (5, .int (iZ (sRow d x c0 n2 (sAll d k0 c0 m n (0, μ b 9, μ b 10, μ b 11))).1)), (6, .int (iZ x)), (0, .ref (ad b)), (2, .int (iZ k1)), (3, .int (iZ c0)), (4, .int (iZ c1))]) ⟨rfl, rfl, rfl, rfl, rfl, rfl, rfl, trivial⟩ ?_
                      exact K
                    · refine z_iconst hC dX2_choose_68 ?_
                      refine z_istore hC dX2_choose_69 (by decide) rfl ?_
                      refine z_aload_n hC dX2_choose_71 rfl ?_
                      refine z_iload hC dX2_choose_72 rfl ?_
                      refine z_put hC iA_X2 rfl tyX2 tyX2_ok nmX2 9 (by decide) rfl rfl 9 rfl qF_X2_207 rfl dX2_choose_74 (cl_desk hb) (cd_desk hb) (fun _ => rfl) (fun _ => Nat.le_of_ble_eq_true rfl) ?_
                      refine z_nm (fun μ17 hμ17 => ?_)
                      have hd18 : vw μ17 b = d := by rw [hμ17, vw_ch (by omega)]; exact hd7
                      refine z_aload_n hC dX2_choose_77 rfl ?_
                      refine z_iload hC dX2_choose_78 rfl ?_
                      refine z_put hC iA_X2 rfl tyX2 tyX2_ok nmX2 10 (by decide) rfl rfl 10 rfl qF_X2_210 rfl dX2_choose_80 (cl_desk hb) (cd_desk hb) (fun _ => rfl) (fun _ => Nat.le_of_ble_eq_true rfl) ?_
                      refine z_nm (fun μ19 hμ19 => ?_)
                      have hd20 : vw μ19 b = d := by rw [hμ19, vw_ch (by omega)]; exact hd18
                      refine z_aload_n hC dX2_choose_83 rfl ?_
                      refine z_aload_n hC dX2_choose_84 rfl ?_
                      refine z_get hC iA_X2 rfl 8 (by decide) qF_X2_33 rfl dX2_choose_85 (cl_desk hb) (cd_desk hb) rfl ?_
                      refine z_get hC iA_X1 rfl 5 (by decide) qF_X2_197 rfl dX2_choose_88 (cl_course hb) (cd_course hb) rfl ?_
                      refine z_top (b := sEarn d x y (sEnd d x).1 (sEnd d x).2.1) (by rw [hμ19, zup_n (by omega), hμ17, zup_n (by omega), hμ65]) ?_
                      refine z_put hC iA_X2 rfl tyX2 tyX2_ok nmX2 11 (by decide) rfl rfl 11 rfl qF_X2_204 rfl dX2_choose_91 (cl_desk hb) (cd_desk hb) (fun _ => rfl) (fun _ => Nat.le_of_ble_eq_true rfl) ?_
                      refine z_nm (fun μ21 hμ21 => ?_)
                      have hd22 : vw μ21 b = d := by rw [hμ21, vw_ch (by omega)]; exact hd20
                      refine z_iinc hC dX2_choose_94 rfl (by decide) rfl ?_
                      refine z_goto hC 15 dX2_choose_97 (by decide) ?_
                      have hFn : zF2 μ b μ21 := by rw [hμ21, hμ19, hμ17]; exact zF2_up (by omega) (zF2_up (by omega) (zF2_up (by omega) (zF2_co hF2 hμ6f)))
                      have e9 : sRow d x c0 (n2 + 1) (sAll d k0 c0 m n (0, μ b 9, μ b 10, μ b 11)) = (1, x, y, sEa d x y) := by show sStep d x (c0 + (n2 : Int)) _ = _; rw [← hy]; exact sStep_p (by unfold sEa; omega)
                      have K := ih2 (n2 + 1) (by omega) μ21 (y + 1) (by omega) hFn (by rw [e9, hμ21, zup_n (by omega), hμ19, zup_n (by omega), hμ17, zup_s]) (by rw [e9, hμ21, zup_n (by omega), hμ19, zup_s]) (by rw [e9, hμ21, zup_s]; rfl)
                      rw [e9] at K
                      dsimp only at K
                      refine z_weak (L' := [(7, .int (iZ (y + 1))), (5, .int (iZ 1)), (6, .int (iZ x)), (0, .ref (ad b)), (2, .int (iZ k1)), (3, .int (iZ c0)), (4, .int (iZ c1))]) ⟨rfl, rfl, rfl, rfl, rfl, rfl, rfl, trivial⟩ ?_
                      exact K
                · refine z_goto hC 94 dX2_choose_46 (by decide) ?_
                  refine z_iinc hC dX2_choose_94 rfl (by decide) rfl ?_
                  refine z_goto hC 15 dX2_choose_97 (by decide) ?_
                  have e9 : sRow d x c0 (n2 + 1) (sAll d k0 c0 m n (0, μ b 9, μ b 10, μ b 11)) = (sRow d x c0 n2 (sAll d k0 c0 m n (0, μ b 9, μ b 10, μ b 11))) := by show sStep d x (c0 + (n2 : Int)) _ = _; rw [← hy]; exact sStep_n (by unfold sEa; omega)
                  have K := ih2 (n2 + 1) (by omega) μ6 (y + 1) (by omega) (zF2_co hF2 hμ6f) (by rw [e9, hμ6f b (by omega)]; exact hr9) (by rw [e9, hμ6f b (by omega)]; exact hr10) (by rw [e9, hμ6f b (by omega)]; exact hr11)
                  rw [e9] at K
                  refine z_weak (L' := [(7, .int (iZ (y + 1))), (5, .int (iZ (sRow d x c0 n2 (sAll d k0 c0 m n (0, μ b 9, μ b 10, μ b 11))).1)), (6, .int (iZ x)), (0, .ref (ad b)), (2, .int (iZ k1)), (3, .int (iZ c0)), (4, .int (iZ c1))]) ⟨rfl, rfl, rfl, rfl, rfl, rfl, rfl, trivial⟩ ?_
                  exact K
        refine z_weak (L' := [(7, .int (iZ c0)), (5, .int (iZ (sRow d x c0 0 (sAll d k0 c0 m n (0, μ b 9, μ b 10, μ b 11))).1)), (6, .int (iZ x)), (0, .ref (ad b)), (2, .int (iZ k1)), (3, .int (iZ c0)), (4, .int (iZ c1))]) ⟨rfl, rfl, rfl, rfl, rfl, rfl, rfl, trivial⟩ ?_
        exact LOOP2 m 0 (by omega) _ _ (by omega) hF1 hp9 hp10 hp11
  refine z_weak (L' := [(6, .int (iZ k0)), (5, .int (iZ (sAll d k0 c0 m 0 (0, μ b 9, μ b 10, μ b 11)).1)), (0, .ref (ad b)), (2, .int (iZ k1)), (3, .int (iZ c0)), (4, .int (iZ c1))]) ⟨rfl, rfl, rfl, rfl, rfl, rfl, trivial⟩ ?_
  exact LOOP nk 0 (by omega) _ _ (by omega) (fun _ _ _ _ => rfl) rfl rfl rfl

set_option maxHeartbeats 4000000 in
set_option maxRecDepth 100000 in
/-- openCargoes() -/
theorem m_X2_openCargoes (l : Launch) (G : va_G) (ca : Nat → ClassId) (ad : Int → Nat) (A : Nat → Prop) (μ : zM) (b : Int) (hb : zb b) (d : zM) (hd : vw μ b = d) (N : Nat) (hNN : (N : Int) = d 0 5) (hB : bD d) : zMet l (cω G ca ad) A yX2_openCargoes cX2_openCargoes 3 (some .int) 0 0 [.ref (ad b)] μ (zpI (.int (sOpen d N)) (fun m => m = μ)) := by
  refine zMet_of (by decide) (Nat.le_of_ble_eq_true rfl) (fun Γ hC => ?_)
  show Z Γ _ μ 0 [(0, .ref (ad b))] []
  obtain ⟨hN, hP, hB3, hB4⟩ := id hB
  obtain ⟨hN1, hN2⟩ := id hN
  refine z_iconst hC dX2_openCargoes_0 ?_
  refine z_istore_n hC dX2_openCargoes_1 (by decide) rfl ?_
  refine z_iconst hC dX2_openCargoes_2 ?_
  refine z_istore_n hC dX2_openCargoes_3 (by decide) rfl ?_
  have LOOP : ∀ (r n : Nat), n + r = N → True → Z Γ (cω G ca ad) μ 4 [(2, .int (iZ (n : Int))), (1, .int (sOpen d n)), (0, .ref (ad b))] [] := by
    intro r
    induction r with
    | zero =>
      intro n hn _
      refine z_iload_n hC dX2_openCargoes_4 rfl ?_
      refine z_aload_n hC dX2_openCargoes_5 rfl ?_
      refine z_get hC iA_X2 rfl 5 (by decide) qF_X2_56 rfl dX2_openCargoes_6 (cl_desk hb) (cd_desk hb) rfl ?_
      refine z_top (b := d 0 5) ((vw_Cn).symm.trans (congrFun (congrFun hd _) _)) ?_
      refine z_icmp_ge hC 36 dX2_openCargoes_9 (by decide) (by omega) (by omega) (fun c_1 => ?_) (fun c_1 => ?_)
      · refine z_iload_n hC dX2_openCargoes_36 rfl ?_
        obtain rfl : n = N := by omega
        exact z_iret hC dX2_openCargoes_37 ⟨rfl, rfl⟩
      · exfalso; omega
    | succ r ih =>
      intro n hn _
      have hn9 : (n : Int) < d 0 5 := by omega
      obtain ⟨hc0, hc1, hc2, hc3, hc4, hc5, hc6⟩ := hB4 (n : Int) (by omega)
      refine z_iload_n hC dX2_openCargoes_4 rfl ?_
      refine z_aload_n hC dX2_openCargoes_5 rfl ?_
      refine z_get hC iA_X2 rfl 5 (by decide) qF_X2_56 rfl dX2_openCargoes_6 (cl_desk hb) (cd_desk hb) rfl ?_
      refine z_top (b := d 0 5) ((vw_Cn).symm.trans (congrFun (congrFun hd _) _)) ?_
      refine z_icmp_ge hC 36 dX2_openCargoes_9 (by decide) (by omega) (by omega) (fun c_2 => ?_) (fun c_2 => ?_)
      · exfalso; omega
      · refine z_aload_n hC dX2_openCargoes_12 rfl ?_
        refine z_get hC iA_X2 rfl 3 (by decide) qF_X2_26 rfl dX2_openCargoes_13 (cl_desk hb) (cd_desk hb) rfl ?_
        refine z_iload_n hC dX2_openCargoes_16 rfl ?_
        refine z_aald hC dX2_openCargoes_17 3 rfl (cl_cargoes hb) (fun _ i => b + 16 + i) (cd_cargoes hb) (by omega) (by omega) (by decide) ?_
        refine z_get hC iA_X0 rfl 6 (by decide) qF_X2_119 rfl dX2_openCargoes_18 (cl_cargo hb (by omega)) (cd_cargo hb (by omega)) rfl ?_
        refine z_top (b := d (16 + (n : Int)) 6) ((vw_cargo (by omega) (by omega)).symm.trans (congrFun (congrFun hd _) _)) ?_
        refine z_if_ne hC 30 dX2_openCargoes_21 (by decide) (by omega) (fun c_3 => ?_) (fun c_3 => ?_)
        · refine z_iinc hC dX2_openCargoes_30 rfl (by decide) rfl ?_
          refine z_goto hC 4 dX2_openCargoes_33 (by decide) ?_
          have e9 : sOpen d (n + 1) = sOpen d n := by show (if _ then _ else _) = _; rw [if_neg (by omega)]
          have K := ih (n + 1) (by omega) trivial
          rw [e9] at K
          refine z_weak (L' := [(2, .int (iZ ((n + 1 : Nat) : Int))), (1, .int (sOpen d n)), (0, .ref (ad b))]) ⟨rfl, rfl, rfl, trivial⟩ ?_
          exact K
        · refine z_iload_n hC dX2_openCargoes_24 rfl ?_
          refine z_iconst hC dX2_openCargoes_25 ?_
          refine z_iload_n hC dX2_openCargoes_26 rfl ?_
          refine z_ishl hC dX2_openCargoes_27 ?_
          refine z_ior hC dX2_openCargoes_28 ?_
          refine z_istore_n hC dX2_openCargoes_29 (by decide) rfl ?_
          refine z_iinc hC dX2_openCargoes_30 rfl (by decide) rfl ?_
          refine z_goto hC 4 dX2_openCargoes_33 (by decide) ?_
          have e9 : sOpen d (n + 1) = (sOpen d n) ||| ((iZ 1 <<< (iZ (n : Int) &&& 31))) := by show (if _ then _ else _) = _; rw [if_pos (by omega)]
          have K := ih (n + 1) (by omega) trivial
          rw [e9] at K
          refine z_weak (L' := [(2, .int (iZ ((n + 1 : Nat) : Int))), (1, .int ((sOpen d n) ||| ((iZ 1 <<< (iZ (n : Int) &&& 31))))), (0, .ref (ad b))]) ⟨rfl, rfl, rfl, trivial⟩ ?_
          exact K
  refine z_weak (L' := [(2, .int (iZ ((0 : Nat) : Int))), (1, .int (sOpen d 0)), (0, .ref (ad b))]) ⟨rfl, rfl, rfl, trivial⟩ ?_
  exact LOOP N 0 (by omega) trivial

set_option maxHeartbeats 4000000 in
set_option maxRecDepth 100000 in
/-- pairOf(c) -/
theorem m_X2_pairOf (l : Launch) (G : va_G) (ca : Nat → ClassId) (ad : Int → Nat) (A : Nat → Prop) (μ : zM) (b : Int) (hb : zb b) (d : zM) (hd : vw μ b = d) (c : Int) (hB : bD d) (hc : 0 ≤ c ∧ c < d 0 5) : zMet l (cω G ca ad) A yX2_pairOf cX2_pairOf 2 (some .long) 1 21 [.ref (ad b), .int (iZ c)] μ (zpI (.long (sPair d c)) (fun m => m = μ)) := by
  refine zMet_of (by decide) (Nat.le_of_ble_eq_true rfl) (fun Γ hC => ?_)
  show Z Γ _ μ 0 [(0, .ref (ad b)), (1, .int (iZ c))] []
  obtain ⟨hN, hP, hB3, hB4⟩ := id hB
  obtain ⟨hN1, hN2⟩ := id hN
  refine z_aload_n hC dX2_pairOf_0 rfl ?_
  refine z_iload_n hC dX2_pairOf_1 rfl ?_
  have hN1 : μ b 5 = d 0 5 := by rw [← hd, vw_Cn]
  refine z_callV hC [.int (iZ c)] 1 rfl dX2_pairOf_2 (fun l => m_X2_isCargo l G ca ad _ μ b hb c (by omega) (by omega)) qM_X2_116 qI_X2_isCargo qS_X2_isCargo qi_X2 qC_X2_isCargo (by decide +kernel) (by decide) (by decide) (cl_desk hb) (cd_desk hb) rfl (Nat.le_of_ble_eq_true rfl) (zk_pure ?_) rfl
  rw [hN1]
  refine z_ifb_eq hC 35 dX2_pairOf_5 (by decide) (fun c_2 => ?_) (fun c_2 => ?_)
  · exfalso; omega
  · refine z_lconst hC dX2_pairOf_8 rfl ?_
    refine z_bipush hC dX2_pairOf_9 (by decide) ?_
    refine z_aload_n hC dX2_pairOf_11 rfl ?_
    refine z_get hC iA_X2 rfl 3 (by decide) qF_X2_26 rfl dX2_pairOf_12 (cl_desk hb) (cd_desk hb) rfl ?_
    refine z_iload_n hC dX2_pairOf_15 rfl ?_
    refine z_aald hC dX2_pairOf_16 3 rfl (cl_cargoes hb) (fun _ i => b + 16 + i) (cd_cargoes hb) (by omega) (by omega) (by decide) ?_
    refine z_get hC iA_X0 rfl 1 (by decide) qF_X2_98 rfl dX2_pairOf_17 (cl_cargo hb (by omega)) (cd_cargo hb (by omega)) rfl ?_
    refine z_top (b := d (16 + c) 1) ((vw_cargo (by omega) (by omega)).symm.trans (congrFun (congrFun hd _) _)) ?_
    refine z_imul hC dX2_pairOf_20 ?_
    refine z_aload_n hC dX2_pairOf_21 rfl ?_
    refine z_get hC iA_X2 rfl 3 (by decide) qF_X2_26 rfl dX2_pairOf_22 (cl_desk hb) (cd_desk hb) rfl ?_
    refine z_iload_n hC dX2_pairOf_25 rfl ?_
    refine z_aald hC dX2_pairOf_26 3 rfl (cl_cargoes hb) (fun _ i => b + 16 + i) (cd_cargoes hb) (by omega) (by omega) (by decide) ?_
    refine z_get hC iA_X0 rfl 2 (by decide) qF_X2_101 rfl dX2_pairOf_27 (cl_cargo hb (by omega)) (cd_cargo hb (by omega)) rfl ?_
    refine z_top (b := d (16 + c) 2) ((vw_cargo (by omega) (by omega)).symm.trans (congrFun (congrFun hd _) _)) ?_
    refine z_iadd hC dX2_pairOf_30 ?_
    refine z_lshl hC dX2_pairOf_31 rfl ?_
    refine z_goto hC 36 dX2_pairOf_32 (by decide) ?_
    exact z_lret hC dX2_pairOf_36 ⟨rfl, rfl⟩

set_option maxHeartbeats 4000000 in
set_option maxRecDepth 100000 in
/-- chooseGainful() -/
theorem m_X2_chooseGainful (l : Launch) (G : va_G) (ca : Nat → ClassId) (ad : Int → Nat) (A : Nat → Prop) (μ : zM) (b : Int) (hb : zb b) (d : zM) (hd : vw μ b = d) (nk m : Nat) (hB : bD d) (hG : ∀ k, 0 ≤ k ∧ k < d 0 4 → zGo d k (sNum d k)) (hnk : (nk : Int) = d 0 4) (hm : (m : Int) = d 0 5) : zMet l (cω G ca ad) A yX2_chooseGainful cX2_chooseGainful 1 (some .boolean) 5 139 [.ref (ad b)] μ (zpI (.int (iZ (zB ((sAll d 0 0 m nk (0, μ b 9, μ b 10, μ b 11)).1 = 1 ∧ 0 < (sAll d 0 0 m nk (0, μ b 9, μ b 10, μ b 11)).2.2.2)))) (fun μ' => zF2 μ b μ' ∧ μ' b 9 = (sAll d 0 0 m nk (0, μ b 9, μ b 10, μ b 11)).2.1 ∧ μ' b 10 = (sAll d 0 0 m nk (0, μ b 9, μ b 10, μ b 11)).2.2.1 ∧ μ' b 11 = (sAll d 0 0 m nk (0, μ b 9, μ b 10, μ b 11)).2.2.2)) := by
  refine zMet_of (by decide) (Nat.le_of_ble_eq_true rfl) (fun Γ hC => ?_)
  show Z Γ _ μ 0 [(0, .ref (ad b))] []
  obtain ⟨hN, hP, hB3, hB4⟩ := id hB
  obtain ⟨hN1, hN2⟩ := id hN
  have hqb := sAll_b (k := 0) (c := 0) (m := m) (q := (0, μ b 9, μ b 10, μ b 11)) hB (by omega) (by omega) (by omega) hG (Or.inr rfl) nk (by omega)
  refine z_aload_n hC dX2_chooseGainful_0 rfl ?_
  refine z_iconst hC dX2_chooseGainful_1 ?_
  refine z_aload_n hC dX2_chooseGainful_2 rfl ?_
  refine z_get hC iA_X2 rfl 4 (by decide) qF_X2_52 rfl dX2_chooseGainful_3 (cl_desk hb) (cd_desk hb) rfl ?_
  refine z_top (b := d 0 4) ((vw_S).symm.trans (congrFun (congrFun hd _) _)) ?_
  refine z_iconst hC dX2_chooseGainful_6 ?_
  refine z_aload_n hC dX2_chooseGainful_7 rfl ?_
  refine z_get hC iA_X2 rfl 5 (by decide) qF_X2_56 rfl dX2_chooseGainful_8 (cl_desk hb) (cd_desk hb) rfl ?_
  refine z_top (b := d 0 5) ((vw_Cn).symm.trans (congrFun (congrFun hd _) _)) ?_
  refine z_callV hC [.int (iZ 0), .int (iZ (d 0 4)), .int (iZ 0), .int (iZ (d 0 5))] 4 rfl dX2_chooseGainful_11 (fun l => m_X2_choose l G ca ad _ μ b hb d hd 0 (d 0 4) 0 (d 0 5) nk m hB hG (by omega) (by omega) (by omega) (by omega) (by omega) (by omega)) qM_X2_213 qI_X2_choose qS_X2_choose qi_X2 qC_X2_choose (by decide +kernel) (by decide) (by decide) (cl_desk hb) (cd_desk hb) rfl (Nat.le_of_ble_eq_true rfl) (zk_int (fun μ1 hμ1 => ?_)) rfl
  obtain ⟨hμ1f, hμ19, hμ110, hμ111⟩ := id hμ1
  have hd2 : vw μ1 b = d := by rw [vw_f2 hμ1f]; exact hd
  refine z_ifb_eq hC 28 dX2_chooseGainful_14 (by decide) (fun c_3 => ?_) (fun c_3 => ?_)
  · refine z_iconst hC dX2_chooseGainful_28 ?_
    exact z_zret0 hC dX2_chooseGainful_29 ⟨by rw [zB_f (by omega)], hμ1⟩
  · refine z_aload_n hC dX2_chooseGainful_17 rfl ?_
    refine z_get hC iA_X2 rfl 11 (by decide) qF_X2_204 rfl dX2_chooseGainful_18 (cl_desk hb) (cd_desk hb) rfl ?_
    refine z_top (b := (sAll d 0 0 m nk (0, μ b 9, μ b 10, μ b 11)).2.2.2) (by rw [hμ111]) ?_
    refine z_if_le hC 28 dX2_chooseGainful_21 (by decide) (by omega) (fun c_4 => ?_) (fun c_4 => ?_)
    · refine z_iconst hC dX2_chooseGainful_28 ?_
      exact z_zret0 hC dX2_chooseGainful_29 ⟨by rw [zB_f (by omega)], hμ1⟩
    · refine z_iconst hC dX2_chooseGainful_24 ?_
      refine z_goto hC 29 dX2_chooseGainful_25 (by decide) ?_
      exact z_zret1 hC dX2_chooseGainful_29 ⟨by rw [zB_t (by omega)], hμ1⟩
