set_option maxHeartbeats 4000000 in
set_option maxRecDepth 100000 in
/-- acted(a) -/
theorem m_X8_acted (l : Launch) (G : va_G) (ca : Nat → ClassId) (ad : Int → Nat) (A : Nat → Prop) (μ : zM) (a : Int) (ha : -2147483648 ≤ a ∧ a ≤ 2147483647) (n : Int) (h : Int → zM) (hH : rHi μ n h) : zMet l (rω G ca ad) A yX8_acted cX8_acted 3 (some .int) 1 23 [.ref (ad 0), .int (iZ a)] μ (zpI (.int (iZ a)) (rAct μ a n h)) := by
  refine zMet_of (by decide) (Nat.le_of_ble_eq_true rfl) (fun Γ hC => ?_)
  show Z Γ _ μ 0 [(0, .ref (ad 0)), (1, .int (iZ a))] []
  have hn1 := hH.1
  have hn0 := hH.2.1
  refine z_iload_n hC dX8_acted_0 rfl ?_
  refine z_ldc hC (-1000001) qc_X8_24 rfl dX8_acted_1 ?_
  refine z_icmp_le hC 60 dX8_acted_3 (by decide) (by omega) (by omega) (fun c_1 => ?_) (fun c_1 => ?_)
  · refine z_iload_n hC dX8_acted_60 rfl ?_
    exact z_iret hC dX8_acted_61 ⟨rfl, by unfold rAct; rw [if_neg (by omega)]⟩
  · refine z_aload_n hC dX8_acted_6 rfl ?_
    refine z_get hC iA_X8 rfl 1 (by decide) qF_X8_25 rfl dX8_acted_7 rl_0 (rd_0 (ca := ca) (ad := ad)) rfl ?_
    refine z_top (b := n) (by rw [hn1]) ?_
    refine z_iconst hC dX8_acted_10 ?_
    refine z_icmp_ne hC 40 dX8_acted_11 (by decide) (by omega) (by omega) (fun c_2 => ?_) (fun c_2 => ?_)
    · refine z_aload_n hC dX8_acted_40 rfl ?_
      refine z_dup hC dX8_acted_41 rfl ?_
      refine z_get hC iA_X8 rfl 1 (by decide) qF_X8_25 rfl dX8_acted_42 rl_0 (rd_0 (ca := ca) (ad := ad)) rfl ?_
      refine z_top (b := n) (by rw [hn1]) ?_
      refine z_iconst hC dX8_acted_45 ?_
      refine z_iadd hC dX8_acted_46 ?_
      refine z_put hC iA_X8 rfl tyX8 tyX8_ok nmX8 1 (by decide) rfl rfl 1 rfl qF_X8_25 rfl dX8_acted_47 rl_0 (rd_0 (ca := ca) (ad := ad)) (fun _ => rfl) (fun _ => Nat.le_of_ble_eq_true rfl) ?_
      refine z_nm (fun μ3 hμ3 => ?_)
      refine z_aload_n hC dX8_acted_50 rfl ?_
      refine z_bipush hC dX8_acted_51 (by decide) ?_
      refine z_aload_n hC dX8_acted_53 rfl ?_
      refine z_get hC iA_X8 rfl 1 (by decide) qF_X8_25 rfl dX8_acted_54 rl_0 (rd_0 (ca := ca) (ad := ad)) rfl ?_
      refine z_top (by rw [hμ3, zup_s]) ?_
      refine z_callV hC [.int (iZ 6), .int (iZ (n + 1))] 2 rfl dX8_acted_57 (fun l => m_X8_copies l G ca ad _ μ3 6 (n + 1) (by omega) (by omega) (by omega)) qM_X8_20 qI_X8_copies qS_X8_copies qi_X8 qC_X8_copies (by decide +kernel) (by decide) (by decide) rl_0 (rd_0 (ca := ca) (ad := ad)) rfl (Nat.le_of_ble_eq_true rfl) (zk_void (fun μ4 hμ4 => ?_)) rfl
      obtain ⟨hμ4v, hμ4f⟩ := id hμ4
      refine z_iload_n hC dX8_acted_60 rfl ?_
      have K := rHi_put hH (by omega) hμ3 hμ4v hμ4f
      have K2 : rHi μ4 (sPushN n) (sPushH n h (rv μ 6)) := by
        rw [show sPushN n = n + 1 by unfold sPushN; rw [if_neg (by omega)]]
        exact rHi_eq K (fun i hi => by show (if i = n then rv μ 6 else h i) = (if n = 4 then (if i = 3 then rv μ 6 else h (i + 1)) else if i = n then rv μ 6 else h i); rw [if_neg (show ¬ n = 4 by omega)])
      exact z_iret hC dX8_acted_61 ⟨rfl, by unfold rAct; rw [if_pos (by omega)]; exact ⟨K2, by rw [rF1_v hμ4f (by omega), hμ3, rv_c0 (by omega)], fun c hc => by rw [hμ4f.1 c (by omega), hμ3, zup_o (by omega)], fun i hi => by rw [hμ4f.1 0 (by omega), hμ3, zup_n (by omega)]⟩⟩
    · refine z_iconst hC dX8_acted_14 ?_
      refine z_istore_n hC dX8_acted_15 (by decide) rfl ?_
      refine z_iload_n hC dX8_acted_16 rfl ?_
      refine z_iconst hC dX8_acted_17 ?_
      refine z_icmp_ge hC 35 dX8_acted_18 (by decide) (by omega) (by omega) (fun c_5 => ?_) (fun c_5 => ?_)
      · exfalso; omega
      · refine z_aload_n hC dX8_acted_21 rfl ?_
        refine z_iload_n hC dX8_acted_22 rfl ?_
        refine z_iconst hC dX8_acted_23 ?_
        refine z_iadd hC dX8_acted_24 ?_
        refine z_iload_n hC dX8_acted_25 rfl ?_
        refine z_callV hC [.int (iZ (1 + 1)), .int (iZ 1)] 2 rfl dX8_acted_26 (fun l => m_X8_copies l G ca ad _ μ (1 + 1) 1 (by omega) (by omega) (by omega)) qM_X8_20 qI_X8_copies qS_X8_copies qi_X8 qC_X8_copies (by decide +kernel) (by decide) (by decide) rl_0 (rd_0 (ca := ca) (ad := ad)) rfl (Nat.le_of_ble_eq_true rfl) (zk_void (fun μ6 hμ6 => ?_)) rfl
        obtain ⟨hμ6v, hμ6f⟩ := id hμ6
        refine z_iinc hC dX8_acted_29 rfl (by decide) rfl ?_
        refine z_goto hC 16 dX8_acted_32 (by decide) ?_
        refine z_iload_n hC dX8_acted_16 rfl ?_
        refine z_iconst hC dX8_acted_17 ?_
        refine z_icmp_ge hC 35 dX8_acted_18 (by decide) (by omega) (by omega) (fun c_7 => ?_) (fun c_7 => ?_)
        · exfalso; omega
        · refine z_aload_n hC dX8_acted_21 rfl ?_
          refine z_iload_n hC dX8_acted_22 rfl ?_
          refine z_iconst hC dX8_acted_23 ?_
          refine z_iadd hC dX8_acted_24 ?_
          refine z_iload_n hC dX8_acted_25 rfl ?_
          refine z_callV hC [.int (iZ ((1 + 1) + 1)), .int (iZ (1 + 1))] 2 rfl dX8_acted_26 (fun l => m_X8_copies l G ca ad _ μ6 ((1 + 1) + 1) (1 + 1) (by omega) (by omega) (by omega)) qM_X8_20 qI_X8_copies qS_X8_copies qi_X8 qC_X8_copies (by decide +kernel) (by decide) (by decide) rl_0 (rd_0 (ca := ca) (ad := ad)) rfl (Nat.le_of_ble_eq_true rfl) (zk_void (fun μ8 hμ8 => ?_)) rfl
          obtain ⟨hμ8v, hμ8f⟩ := id hμ8
          refine z_iinc hC dX8_acted_29 rfl (by decide) rfl ?_
          refine z_goto hC 16 dX8_acted_32 (by decide) ?_
          refine z_iload_n hC dX8_acted_16 rfl ?_
          refine z_iconst hC dX8_acted_17 ?_
          refine z_icmp_ge hC 35 dX8_acted_18 (by decide) (by omega) (by omega) (fun c_9 => ?_) (fun c_9 => ?_)
          · exfalso; omega
          · refine z_aload_n hC dX8_acted_21 rfl ?_
            refine z_iload_n hC dX8_acted_22 rfl ?_
            refine z_iconst hC dX8_acted_23 ?_
            refine z_iadd hC dX8_acted_24 ?_
            refine z_iload_n hC dX8_acted_25 rfl ?_
            refine z_callV hC [.int (iZ (((1 + 1) + 1) + 1)), .int (iZ ((1 + 1) + 1))] 2 rfl dX8_acted_26 (fun l => m_X8_copies l G ca ad _ μ8 (((1 + 1) + 1) + 1) ((1 + 1) + 1) (by omega) (by omega) (by omega)) qM_X8_20 qI_X8_copies qS_X8_copies qi_X8 qC_X8_copies (by decide +kernel) (by decide) (by decide) rl_0 (rd_0 (ca := ca) (ad := ad)) rfl (Nat.le_of_ble_eq_true rfl) (zk_void (fun μ10 hμ10 => ?_)) rfl
            obtain ⟨hμ10v, hμ10f⟩ := id hμ10
            refine z_iinc hC dX8_acted_29 rfl (by decide) rfl ?_
            refine z_goto hC 16 dX8_acted_32 (by decide) ?_
            refine z_iload_n hC dX8_acted_16 rfl ?_
            refine z_iconst hC dX8_acted_17 ?_
            refine z_icmp_ge hC 35 dX8_acted_18 (by decide) (by omega) (by omega) (fun c_11 => ?_) (fun c_11 => ?_)
            · refine z_aload_n hC dX8_acted_35 rfl ?_
              refine z_iconst hC dX8_acted_36 ?_
              refine z_put hC iA_X8 rfl tyX8 tyX8_ok nmX8 1 (by decide) rfl rfl 1 rfl qF_X8_25 rfl dX8_acted_37 rl_0 (rd_0 (ca := ca) (ad := ad)) (fun _ => rfl) (fun _ => Nat.le_of_ble_eq_true rfl) ?_
              refine z_nm (fun μ12 hμ12 => ?_)
              refine z_aload_n hC dX8_acted_40 rfl ?_
              refine z_dup hC dX8_acted_41 rfl ?_
              refine z_get hC iA_X8 rfl 1 (by decide) qF_X8_25 rfl dX8_acted_42 rl_0 (rd_0 (ca := ca) (ad := ad)) rfl ?_
              refine z_top (by rw [hμ12, zup_s]) ?_
              refine z_iconst hC dX8_acted_45 ?_
              refine z_iadd hC dX8_acted_46 ?_
              refine z_put hC iA_X8 rfl tyX8 tyX8_ok nmX8 1 (by decide) rfl rfl 1 rfl qF_X8_25 rfl dX8_acted_47 rl_0 (rd_0 (ca := ca) (ad := ad)) (fun _ => rfl) (fun _ => Nat.le_of_ble_eq_true rfl) ?_
              refine z_nm (fun μ13 hμ13 => ?_)
              refine z_aload_n hC dX8_acted_50 rfl ?_
              refine z_bipush hC dX8_acted_51 (by decide) ?_
              refine z_aload_n hC dX8_acted_53 rfl ?_
              refine z_get hC iA_X8 rfl 1 (by decide) qF_X8_25 rfl dX8_acted_54 rl_0 (rd_0 (ca := ca) (ad := ad)) rfl ?_
              refine z_top (by rw [hμ13, zup_s]) ?_
              refine z_callV hC [.int (iZ 6), .int (iZ (3 + 1))] 2 rfl dX8_acted_57 (fun l => m_X8_copies l G ca ad _ μ13 6 (3 + 1) (by omega) (by omega) (by omega)) qM_X8_20 qI_X8_copies qS_X8_copies qi_X8 qC_X8_copies (by decide +kernel) (by decide) (by decide) rl_0 (rd_0 (ca := ca) (ad := ad)) rfl (Nat.le_of_ble_eq_true rfl) (zk_void (fun μ14 hμ14 => ?_)) rfl
              obtain ⟨hμ14v, hμ14f⟩ := id hμ14
              refine z_iload_n hC dX8_acted_60 rfl ?_
              have n4 : n = 4 := by omega
              have g1 : rF1 1 μ μ6 := hμ6f
              have g2 : rF1 2 μ6 μ8 := hμ8f
              have g3 : rF1 3 μ8 μ10 := hμ10f
              have g4 : rF1 4 μ13 μ14 := hμ14f
              have u1 : rv μ6 1 = rv μ 2 := hμ6v
              have u2 : rv μ8 2 = rv μ6 3 := hμ8v
              have u3 : rv μ10 3 = rv μ8 4 := hμ10v
              have u4 : rv μ14 4 = rv μ13 6 := hμ14v
              have s1 : rv μ14 1 = h 1 := by rw [rF1_v g4 (by omega), hμ13, rv_c0 (by omega), hμ12, rv_c0 (by omega), rF1_v g3 (by omega), rF1_v g2 (by omega), u1]; exact hH.2.2 1 (by omega)
              have s2 : rv μ14 2 = h 2 := by rw [rF1_v g4 (by omega), hμ13, rv_c0 (by omega), hμ12, rv_c0 (by omega), rF1_v g3 (by omega), u2, rF1_v g1 (by omega)]; exact hH.2.2 2 (by omega)
              have s3 : rv μ14 3 = h 3 := by rw [rF1_v g4 (by omega), hμ13, rv_c0 (by omega), hμ12, rv_c0 (by omega), u3, rF1_v g2 (by omega), rF1_v g1 (by omega)]; exact hH.2.2 3 (by omega)
              have s4 : rv μ14 4 = rv μ 6 := by rw [u4, hμ13, rv_c0 (by omega), hμ12, rv_c0 (by omega), rF1_v g3 (by omega), rF1_v g2 (by omega), rF1_v g1 (by omega)]
              have s0 : rv μ14 0 = rv μ 0 := by rw [rF1_v g4 (by omega), hμ13, rv_c0 (by omega), hμ12, rv_c0 (by omega), rF1_v g3 (by omega), rF1_v g2 (by omega), rF1_v g1 (by omega)]
              have K2 : rHi μ14 (sPushN n) (sPushH n h (rv μ 6)) := by
                rw [show sPushN n = 4 by unfold sPushN; rw [if_pos n4]]
                refine ⟨by rw [g4.1 0 (by omega), hμ13, zup_s]; rfl, by omega, fun i hi => ?_⟩
                show _ = (if n = 4 then (if i = 3 then rv μ 6 else h (i + 1)) else if i = n then rv μ 6 else h i)
                rw [if_pos n4]
                rcases (show i = 0 ∨ i = 1 ∨ i = 2 ∨ i = 3 by omega) with rfl | rfl | rfl | rfl
                · rw [if_neg (by omega)]; exact s1
                · rw [if_neg (by omega)]; exact s2
                · rw [if_neg (by omega)]; exact s3
                · rw [if_pos rfl]; exact s4
              exact z_iret hC dX8_acted_61 ⟨rfl, by unfold rAct; rw [if_pos (by omega)]; exact ⟨K2, s0, fun c hc => by rw [g4.1 c (by omega), hμ13, zup_o (by omega), hμ12, zup_o (by omega), g3.1 c (by omega), g2.1 c (by omega), g1.1 c (by omega)], fun i hi => by rw [g4.1 0 (by omega), hμ13, zup_n (by omega), hμ12, zup_n (by omega), g3.1 0 (by omega), g2.1 0 (by omega), g1.1 0 (by omega)]⟩⟩
            · exfalso; omega

set_option maxHeartbeats 4000000 in
set_option maxRecDepth 100000 in
/-- undo() -/
theorem m_X8_undo (l : Launch) (G : va_G) (ca : Nat → ClassId) (ad : Int → Nat) (A : Nat → Prop) (μ : zM) (d : zM) (n : Int) (h : Int → zM) (L : Int) (t : Int → Int) (hX : rSt μ d n h L t) : zMet l (rω G ca ad) A yX8_undo cX8_undo 1 (some .int) 1 23 [.ref (ad 0)] μ (zpI (.int (iZ (opUndo d n h).1)) (fun μ' => rStK μ' (opUndo d n h).2 L t)) := by
  refine zMet_of (by decide) (Nat.le_of_ble_eq_true rfl) (fun Γ hC => ?_)
  show Z Γ _ μ 0 [(0, .ref (ad 0))] []
  have hn1 := hX.2.1.1
  have hn0 := hX.2.1.2.1
  refine z_aload_n hC dX8_undo_0 rfl ?_
  refine z_get hC iA_X8 rfl 1 (by decide) qF_X8_25 rfl dX8_undo_1 rl_0 (rd_0 (ca := ca) (ad := ad)) rfl ?_
  refine z_top (b := n) (by rw [hn1]) ?_
  refine z_if_ne hC 10 dX8_undo_4 (by decide) (by omega) (fun c_1 => ?_) (fun c_1 => ?_)
  · refine z_aload_n hC dX8_undo_10 rfl ?_
    refine z_aload_n hC dX8_undo_11 rfl ?_
    refine z_get hC iA_X8 rfl 1 (by decide) qF_X8_25 rfl dX8_undo_12 rl_0 (rd_0 (ca := ca) (ad := ad)) rfl ?_
    refine z_top (b := n) (by rw [hn1]) ?_
    refine z_iconst hC dX8_undo_15 ?_
    refine z_callV hC [.int (iZ n), .int (iZ 0)] 2 rfl dX8_undo_16 (fun l => m_X8_copies l G ca ad _ μ n 0 (by omega) (by omega) (by omega)) qM_X8_20 qI_X8_copies qS_X8_copies qi_X8 qC_X8_copies (by decide +kernel) (by decide) (by decide) rl_0 (rd_0 (ca := ca) (ad := ad)) rfl (Nat.le_of_ble_eq_true rfl) (zk_void (fun μ2 hμ2 => ?_)) rfl
    obtain ⟨hμ2v, hμ2f⟩ := id hμ2
    refine z_aload_n hC dX8_undo_19 rfl ?_
    refine z_dup hC dX8_undo_20 rfl ?_
    refine z_get hC iA_X8 rfl 1 (by decide) qF_X8_25 rfl dX8_undo_21 rl_0 (rd_0 (ca := ca) (ad := ad)) rfl ?_
    refine z_top (b := n) (by rw [hμ2f.1 0 (by omega), hn1]) ?_
    refine z_iconst hC dX8_undo_24 ?_
    refine z_isub hC dX8_undo_25 ?_
    refine z_put hC iA_X8 rfl tyX8 tyX8_ok nmX8 1 (by decide) rfl rfl 1 rfl qF_X8_25 rfl dX8_undo_26 rl_0 (rd_0 (ca := ca) (ad := ad)) (fun _ => rfl) (fun _ => Nat.le_of_ble_eq_true rfl) ?_
    refine z_nm (fun μ3 hμ3 => ?_)
    refine z_aload_n hC dX8_undo_29 rfl ?_
    refine z_get hC iA_X8 rfl 1 (by decide) qF_X8_25 rfl dX8_undo_30 rl_0 (rd_0 (ca := ca) (ad := ad)) rfl ?_
    refine z_top (by rw [hμ3, zup_s]) ?_
    have hHc : rHi μ3 (n - 1) h := rHi_cut hX.2.1 (by omega) (by rw [hμ3, zup_s]) (fun x hx => by rw [hμ3, zup_o (by omega), hμ2f.2 x (by omega)])
    have hv0 : rv μ3 0 = h (n - 1) := by rw [hμ3, rv_c0 (by omega), hμ2v, ← hX.2.1.2.2 (n - 1) (by omega), Int.sub_add_cancel]
    exact z_iret hC dX8_undo_33 ⟨by unfold opUndo; rw [if_pos (by omega)], by unfold opUndo; rw [if_pos (by omega)]; exact ⟨hv0, hHc, by rw [hμ3, zup_n (by omega), hμ2f.1 0 (by omega)]; exact hX.2.2.1, hX.2.2.2.1, fun i hi => by rw [hμ3, zup_o (by omega), hμ2f.1 2 (by omega)]; exact hX.2.2.2.2 i hi⟩⟩
  · refine z_ldc hC (-1000002) qc_X8_101 rfl dX8_undo_7 ?_
    exact z_iret hC dX8_undo_9 ⟨by unfold opUndo; rw [if_neg (by omega)], by unfold opUndo; rw [if_neg (by omega)]; exact hX⟩
