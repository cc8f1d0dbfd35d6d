set_option maxHeartbeats 4000000 in
set_option maxRecDepth 100000 in
/-- in(v, lo, hi) -/
theorem m_X8_in (l : Launch) (ω : zO) (A : Nat → Prop) (μ : zM) (v lo hi : Int) (hv : -2147483648 ≤ v ∧ v ≤ 2147483647) (hlo : -2147483648 ≤ lo ∧ lo ≤ 2147483647) (hhi : -2147483648 ≤ hi ∧ hi ≤ 2147483647) : zMet l (ω) A yX8_in cX8_in 3 (some .boolean) 0 0 [.int (iZ v), .int (iZ lo), .int (iZ hi)] μ (zpI (.int (iZ (zB (lo ≤ v ∧ v ≤ hi)))) (fun m => m = μ)) := by
  refine zMet_of (by decide) (Nat.le_of_ble_eq_true rfl) (fun Γ hC => ?_)
  show Z Γ _ μ 0 [(0, .int (iZ v)), (1, .int (iZ lo)), (2, .int (iZ hi))] []
  refine z_iload_n hC dX8_in_0 rfl ?_
  refine z_iload_n hC dX8_in_1 rfl ?_
  refine z_icmp_lt hC 14 dX8_in_2 (by decide) (by omega) (by omega) (fun c_1 => ?_) (fun c_1 => ?_)
  · refine z_iconst hC dX8_in_14 ?_
    exact z_zret0 hC dX8_in_15 ⟨by rw [zB_f (by omega)], rfl⟩
  · refine z_iload_n hC dX8_in_5 rfl ?_
    refine z_iload_n hC dX8_in_6 rfl ?_
    refine z_icmp_gt hC 14 dX8_in_7 (by decide) (by omega) (by omega) (fun c_2 => ?_) (fun c_2 => ?_)
    · refine z_iconst hC dX8_in_14 ?_
      exact z_zret0 hC dX8_in_15 ⟨by rw [zB_f (by omega)], rfl⟩
    · refine z_iconst hC dX8_in_10 ?_
      refine z_goto hC 15 dX8_in_11 (by decide) ?_
      exact z_zret1 hC dX8_in_15 ⟨by rw [zB_t (by omega)], rfl⟩

set_option maxHeartbeats 4000000 in
set_option maxRecDepth 100000 in
/-- shipAt -/
theorem m_X8_shipAt (l : Launch) (ω : zO) (A : Nat → Prop) (μ : zM) (t k j : Int) : zMet l (ω) A yX8_shipAt cX8_shipAt 3 (some .int) 0 0 [.int (iZ t), .int (iZ k), .int (iZ j)] μ (zpI (.int (iZ (190 * t + 17 + 18 * k + j))) (fun m => m = μ)) := by
  refine zMet_of (by decide) (Nat.le_of_ble_eq_true rfl) (fun Γ hC => ?_)
  show Z Γ _ μ 0 [(0, .int (iZ t)), (1, .int (iZ k)), (2, .int (iZ j))] []
  refine z_sipush hC dX8_shipAt_0 (by decide) ?_
  refine z_iload_n hC dX8_shipAt_3 rfl ?_
  refine z_imul hC dX8_shipAt_4 ?_
  refine z_bipush hC dX8_shipAt_5 (by decide) ?_
  refine z_iadd hC dX8_shipAt_7 ?_
  refine z_bipush hC dX8_shipAt_8 (by decide) ?_
  refine z_iload_n hC dX8_shipAt_10 rfl ?_
  refine z_imul hC dX8_shipAt_11 ?_
  refine z_iadd hC dX8_shipAt_12 ?_
  refine z_iload_n hC dX8_shipAt_13 rfl ?_
  refine z_iadd hC dX8_shipAt_14 ?_
  exact z_iret hC dX8_shipAt_15 ⟨rfl, rfl⟩

set_option maxHeartbeats 4000000 in
set_option maxRecDepth 100000 in
/-- cargoAt -/
theorem m_X8_cargoAt (l : Launch) (ω : zO) (A : Nat → Prop) (μ : zM) (t k j : Int) : zMet l (ω) A yX8_cargoAt cX8_cargoAt 3 (some .int) 0 0 [.int (iZ t), .int (iZ k), .int (iZ j)] μ (zpI (.int (iZ (190 * t + 108 + 8 * k + j))) (fun m => m = μ)) := by
  refine zMet_of (by decide) (Nat.le_of_ble_eq_true rfl) (fun Γ hC => ?_)
  show Z Γ _ μ 0 [(0, .int (iZ t)), (1, .int (iZ k)), (2, .int (iZ j))] []
  refine z_sipush hC dX8_cargoAt_0 (by decide) ?_
  refine z_iload_n hC dX8_cargoAt_3 rfl ?_
  refine z_imul hC dX8_cargoAt_4 ?_
  refine z_bipush hC dX8_cargoAt_5 (by decide) ?_
  refine z_iadd hC dX8_cargoAt_7 ?_
  refine z_bipush hC dX8_cargoAt_8 (by decide) ?_
  refine z_iload_n hC dX8_cargoAt_10 rfl ?_
  refine z_imul hC dX8_cargoAt_11 ?_
  refine z_iadd hC dX8_cargoAt_12 ?_
  refine z_iload_n hC dX8_cargoAt_13 rfl ?_
  refine z_iadd hC dX8_cargoAt_14 ?_
  exact z_iret hC dX8_cargoAt_15 ⟨rfl, rfl⟩

set_option maxHeartbeats 4000000 in
set_option maxRecDepth 100000 in
/-- apart(a, b) -/
theorem m_X8_apart (l : Launch) (ω : zO) (A : Nat → Prop) (μ : zM) (a b : Int) (ha : -2147483648 ≤ a ∧ a ≤ 2147483647) (hb : -2147483648 ≤ b ∧ b ≤ 2147483647) : zMet l (ω) A yX8_apart cX8_apart 2 (some .int) 0 0 [.int (iZ a), .int (iZ b)] μ (zpI (.int (iZ (zabs (a - b)))) (fun m => m = μ)) := by
  refine zMet_of (by decide) (Nat.le_of_ble_eq_true rfl) (fun Γ hC => ?_)
  show Z Γ _ μ 0 [(0, .int (iZ a)), (1, .int (iZ b))] []
  refine z_iload_n hC dX8_apart_0 rfl ?_
  refine z_iload_n hC dX8_apart_1 rfl ?_
  refine z_icmp_le hC 11 dX8_apart_2 (by decide) (by omega) (by omega) (fun c_1 => ?_) (fun c_1 => ?_)
  · refine z_iload_n hC dX8_apart_11 rfl ?_
    refine z_iload_n hC dX8_apart_12 rfl ?_
    refine z_isub hC dX8_apart_13 ?_
    exact z_iret hC dX8_apart_14 ⟨by unfold zabs; split <;> first | rfl | (congr 3; omega), rfl⟩
  · refine z_iload_n hC dX8_apart_5 rfl ?_
    refine z_iload_n hC dX8_apart_6 rfl ?_
    refine z_isub hC dX8_apart_7 ?_
    refine z_goto hC 14 dX8_apart_8 (by decide) ?_
    exact z_iret hC dX8_apart_14 ⟨by unfold zabs; split <;> first | rfl | (congr 3; omega), rfl⟩

set_option maxHeartbeats 4000000 in
set_option maxRecDepth 100000 in
/-- far(p, q) -/
theorem m_X8_far (l : Launch) (G : va_G) (ca : Nat → ClassId) (ad : Int → Nat) (A : Nat → Prop) (μ : zM) (d0 : zM) (hd0 : rv μ 0 = d0) (p q : Int) (hP : bP d0) (hp : 0 ≤ p ∧ p ≤ 7) (hq : 0 ≤ q ∧ q ≤ 7) : zMet l (rω G ca ad) A yX8_far cX8_far 3 (some .int) 1 21 [.ref (ad 0), .int (iZ p), .int (iZ q)] μ (zpI (.int (iZ (sFar d0 p q))) (fun m => m = μ)) := by
  refine zMet_of (by decide) (Nat.le_of_ble_eq_true rfl) (fun Γ hC => ?_)
  show Z Γ _ μ 0 [(0, .ref (ad 0)), (1, .int (iZ p)), (2, .int (iZ q))] []
  have h1 := hP p hp
  have h2 := hP q hq
  refine z_bipush hC dX8_far_0 (by decide) ?_
  refine z_aload_n hC dX8_far_2 rfl ?_
  refine z_get hC iA_X8 rfl 0 (by decide) qF_X8_7 rfl dX8_far_3 rl_0 (rd_0 (ca := ca) (ad := ad)) rfl ?_
  refine z_iconst hC dX8_far_6 ?_
  refine z_iconst hC dX8_far_7 ?_
  refine z_iload_n hC dX8_far_8 rfl ?_
  refine z_imul hC dX8_far_9 ?_
  refine z_iadd hC dX8_far_10 ?_
  refine z_iald hC dX8_far_11 rl_1 (rd_1 (ca := ca) (ad := ad)) (by omega) (by omega) (by decide) ?_
  refine z_top (b := d0 1 p) ((rv_x (by omega)).symm.trans (congrFun (congrFun hd0 _) _)) ?_
  refine z_aload_n hC dX8_far_12 rfl ?_
  refine z_get hC iA_X8 rfl 0 (by decide) qF_X8_7 rfl dX8_far_13 rl_0 (rd_0 (ca := ca) (ad := ad)) rfl ?_
  refine z_iconst hC dX8_far_16 ?_
  refine z_iconst hC dX8_far_17 ?_
  refine z_iload_n hC dX8_far_18 rfl ?_
  refine z_imul hC dX8_far_19 ?_
  refine z_iadd hC dX8_far_20 ?_
  refine z_iald hC dX8_far_21 rl_1 (rd_1 (ca := ca) (ad := ad)) (by omega) (by omega) (by decide) ?_
  refine z_top (b := d0 1 q) ((rv_x (by omega)).symm.trans (congrFun (congrFun hd0 _) _)) ?_
  refine z_callS hC [.int (iZ (d0 1 p)), .int (iZ (d0 1 q))] 2 rfl dX8_far_22 (fun l => m_X8_apart l _ _ _ (d0 1 p) (d0 1 q) (by omega) (by omega)) qM_X8_33 qT_X8_apart qi_X8 qC_X8_apart (by decide +kernel) (by decide) (by decide) (Nat.le_of_ble_eq_true rfl) (zk_pure ?_) rfl
  refine z_aload_n hC dX8_far_25 rfl ?_
  refine z_get hC iA_X8 rfl 0 (by decide) qF_X8_7 rfl dX8_far_26 rl_0 (rd_0 (ca := ca) (ad := ad)) rfl ?_
  refine z_iconst hC dX8_far_29 ?_
  refine z_iconst hC dX8_far_30 ?_
  refine z_iload_n hC dX8_far_31 rfl ?_
  refine z_imul hC dX8_far_32 ?_
  refine z_iadd hC dX8_far_33 ?_
  refine z_iconst hC dX8_far_34 ?_
  refine z_iadd hC dX8_far_35 ?_
  refine z_iald hC dX8_far_36 rl_1 (rd_1 (ca := ca) (ad := ad)) (by omega) (by omega) (by decide) ?_
  refine z_top (b := d0 2 p) ((rv_y (by omega)).symm.trans (congrFun (congrFun hd0 _) _)) ?_
  refine z_aload_n hC dX8_far_37 rfl ?_
  refine z_get hC iA_X8 rfl 0 (by decide) qF_X8_7 rfl dX8_far_38 rl_0 (rd_0 (ca := ca) (ad := ad)) rfl ?_
  refine z_iconst hC dX8_far_41 ?_
  refine z_iconst hC dX8_far_42 ?_
  refine z_iload_n hC dX8_far_43 rfl ?_
  refine z_imul hC dX8_far_44 ?_
  refine z_iadd hC dX8_far_45 ?_
  refine z_iconst hC dX8_far_46 ?_
  refine z_iadd hC dX8_far_47 ?_
  refine z_iald hC dX8_far_48 rl_1 (rd_1 (ca := ca) (ad := ad)) (by omega) (by omega) (by decide) ?_
  refine z_top (b := d0 2 q) ((rv_y (by omega)).symm.trans (congrFun (congrFun hd0 _) _)) ?_
  refine z_callS hC [.int (iZ (d0 2 p)), .int (iZ (d0 2 q))] 2 rfl dX8_far_49 (fun l => m_X8_apart l _ _ _ (d0 2 p) (d0 2 q) (by omega) (by omega)) qM_X8_33 qT_X8_apart qi_X8 qC_X8_apart (by decide +kernel) (by decide) (by decide) (Nat.le_of_ble_eq_true rfl) (zk_pure ?_) rfl
  refine z_iadd hC dX8_far_52 ?_
  refine z_imul hC dX8_far_53 ?_
  exact z_iret hC dX8_far_54 ⟨rfl, rfl⟩

set_option maxHeartbeats 4000000 in
set_option maxRecDepth 100000 in
/-- sails(t, k, p, q) -/
theorem m_X8_sails (l : Launch) (G : va_G) (ca : Nat → ClassId) (ad : Int → Nat) (A : Nat → Prop) (μ : zM) (d0 : zM) (hd0 : rv μ 0 = d0) (t : Int) (ht : 0 ≤ t ∧ t ≤ 6) (d : zM) (hd : rv μ t = d) (hpe : ∀ p, d0 1 p = d 1 p ∧ d0 2 p = d 2 p) (hP0 : bP d0) (k p q : Int) (hk : 0 ≤ k ∧ k < 5) (hs : 1 ≤ d (6 + k) 1 ∧ d (6 + k) 1 ≤ 20) (hp : 0 ≤ p ∧ p ≤ 7) (hq : 0 ≤ q ∧ q ≤ 7) : zMet l (rω G ca ad) A yX8_sails cX8_sails 6 (some .int) 2 43 [.ref (ad 0), .int (iZ t), .int (iZ k), .int (iZ p), .int (iZ q)] μ (zpI (.int (iZ (sSail d k p q))) (fun m => m = μ)) := by
  refine zMet_of (by decide) (Nat.le_of_ble_eq_true rfl) (fun Γ hC => ?_)
  show Z Γ _ μ 0 [(0, .ref (ad 0)), (1, .int (iZ t)), (2, .int (iZ k)), (3, .int (iZ p)), (4, .int (iZ q))] []
  have hfb := sFar_b hP0 hp hq
  refine z_bipush hC dX8_sails_0 (by decide) ?_
  refine z_aload_n hC dX8_sails_2 rfl ?_
  refine z_get hC iA_X8 rfl 0 (by decide) qF_X8_7 rfl dX8_sails_3 rl_0 (rd_0 (ca := ca) (ad := ad)) rfl ?_
  refine z_iload_n hC dX8_sails_6 rfl ?_
  refine z_iload_n hC dX8_sails_7 rfl ?_
  refine z_iconst hC dX8_sails_8 ?_
  refine z_callS hC [.int (iZ t), .int (iZ k), .int (iZ 1)] 3 rfl dX8_sails_9 (fun l => m_X8_shipAt l _ _ _ t k 1) qM_X8_37 qT_X8_shipAt qi_X8 qC_X8_shipAt (by decide +kernel) (by decide) (by decide) (Nat.le_of_ble_eq_true rfl) (zk_pure ?_) rfl
  refine z_iald hC dX8_sails_12 rl_1 (rd_1 (ca := ca) (ad := ad)) (by omega) (by omega) (by decide) ?_
  refine z_top (b := d (6 + k) 1) ((rv_ship (by omega) (by omega)).symm.trans (congrFun (congrFun hd _) _)) ?_
  refine z_imul hC dX8_sails_13 ?_
  refine z_istore hC dX8_sails_14 (by decide) rfl ?_
  refine z_aload_n hC dX8_sails_16 rfl ?_
  refine z_iload_n hC dX8_sails_17 rfl ?_
  refine z_iload hC dX8_sails_18 rfl ?_
  refine z_callV hC [.int (iZ p), .int (iZ q)] 2 rfl dX8_sails_20 (fun l => m_X8_far l G ca ad _ μ d0 hd0 p q hP0 (by omega) (by omega)) qM_X8_41 qI_X8_far qS_X8_far qi_X8 qC_X8_far (by decide +kernel) (by decide) (by decide) rl_0 (rd_0 (ca := ca) (ad := ad)) rfl (Nat.le_of_ble_eq_true rfl) (zk_pure ?_) rfl
  refine z_iload hC dX8_sails_23 rfl ?_
  refine z_iadd hC dX8_sails_25 ?_
  refine z_iconst hC dX8_sails_26 ?_
  refine z_isub hC dX8_sails_27 ?_
  refine z_iload hC dX8_sails_28 rfl ?_
  refine z_idiv hC dX8_sails_30 (by omega) (by omega) ?_
  exact z_iret hC dX8_sails_31 ⟨by unfold sSail; rw [sFar_e hpe], rfl⟩

set_option maxHeartbeats 4000000 in
set_option maxRecDepth 100000 in
/-- looks(t, k, c, p, u) -/
theorem m_X8_looks (l : Launch) (G : va_G) (ca : Nat → ClassId) (ad : Int → Nat) (A : Nat → Prop) (μ : zM) (d0 : zM) (hd0 : rv μ 0 = d0) (t : Int) (ht : 0 ≤ t ∧ t ≤ 6) (d : zM) (hd : rv μ t = d) (hpe : ∀ p, d0 1 p = d 1 p ∧ d0 2 p = d 2 p) (hP0 : bP d0) (k c p u : Int) (hk : 0 ≤ k ∧ k < 5) (hs : 1 ≤ d (6 + k) 1 ∧ d (6 + k) 1 ≤ 20) (hc : 0 ≤ c ∧ c < 10) (hcc : bC d c) (hp : 0 ≤ p ∧ p ≤ 7) (hu : 0 ≤ u ∧ u ≤ 2000) : zMet l (rω G ca ad) A yX8_looks cX8_looks 8 none 3 68 [.ref (ad 0), .int (iZ t), .int (iZ k), .int (iZ c), .int (iZ p), .int (iZ u)] μ (zpV (fun μ' => rFr μ μ' ∧ (∀ i, 12 ≤ i → μ' 0 i = μ 0 i) ∧ rLook d k c p u μ')) := by
  refine zMet_of (by decide) (Nat.le_of_ble_eq_true rfl) (fun Γ hC => ?_)
  show Z Γ _ μ 0 [(0, .ref (ad 0)), (1, .int (iZ t)), (2, .int (iZ k)), (3, .int (iZ c)), (4, .int (iZ p)), (5, .int (iZ u))] []
  have hP : bP d := fun p9 hp9 => by rw [← (hpe p9).1, ← (hpe p9).2]; exact hP0 p9 hp9
  obtain ⟨hc0, hc1, hc2, hc3, hc4, hc5, hc6⟩ := id hcc
  have hq1 := sSail_b hP hp hc1 hs
  have hq2 := sSail_b hP hc1 hc2 hs
  have hA : sArr d k c p u = u + sSail d k p (d (16 + c) 1) := rfl
  refine z_aload_n hC dX8_looks_0 rfl ?_
  refine z_get hC iA_X8 rfl 0 (by decide) qF_X8_7 rfl dX8_looks_1 rl_0 (rd_0 (ca := ca) (ad := ad)) rfl ?_
  refine z_iload_n hC dX8_looks_4 rfl ?_
  refine z_iload_n hC dX8_looks_5 rfl ?_
  refine z_iconst hC dX8_looks_6 ?_
  refine z_callS hC [.int (iZ t), .int (iZ c), .int (iZ 1)] 3 rfl dX8_looks_7 (fun l => m_X8_cargoAt l _ _ _ t c 1) qM_X8_44 qT_X8_cargoAt qi_X8 qC_X8_cargoAt (by decide +kernel) (by decide) (by decide) (Nat.le_of_ble_eq_true rfl) (zk_pure ?_) rfl
  refine z_iald hC dX8_looks_10 rl_1 (rd_1 (ca := ca) (ad := ad)) (by omega) (by omega) (by decide) ?_
  refine z_top (b := d (16 + c) 1) ((rv_cargo (by omega) (by omega)).symm.trans (congrFun (congrFun hd _) _)) ?_
  refine z_istore hC dX8_looks_11 (by decide) rfl ?_
  refine z_aload_n hC dX8_looks_13 rfl ?_
  refine z_iload hC dX8_looks_14 rfl ?_
  refine z_aload_n hC dX8_looks_16 rfl ?_
  refine z_iload_n hC dX8_looks_17 rfl ?_
  refine z_iload_n hC dX8_looks_18 rfl ?_
  refine z_iload hC dX8_looks_19 rfl ?_
  refine z_iload hC dX8_looks_21 rfl ?_
  refine z_callV hC [.int (iZ t), .int (iZ k), .int (iZ p), .int (iZ (d (16 + c) 1))] 4 rfl dX8_looks_23 (fun l => m_X8_sails l G ca ad _ μ d0 hd0 t ht d hd hpe hP0 k p (d (16 + c) 1) (by omega) (by omega) (by omega) (by omega)) qM_X8_47 qI_X8_sails qS_X8_sails qi_X8 qC_X8_sails (by decide +kernel) (by decide) (by decide) rl_0 (rd_0 (ca := ca) (ad := ad)) rfl (Nat.le_of_ble_eq_true rfl) (zk_pure ?_) rfl
  refine z_iadd hC dX8_looks_26 ?_
  refine z_top (b := sArr d k c p u) rfl ?_
  refine z_put hC iA_X8 rfl tyX8 tyX8_ok nmX8 8 (by decide) rfl rfl 8 rfl qF_X8_51 rfl dX8_looks_27 rl_0 (rd_0 (ca := ca) (ad := ad)) (fun _ => rfl) (fun _ => Nat.le_of_ble_eq_true rfl) ?_
  refine z_nm (fun μ1 hμ1 => ?_)
  have hd2 : rv μ1 0 = d0 := by rw [hμ1, rv_c0 (by omega)]; exact hd0
  have hd3 : rv μ1 t = d := by rw [hμ1, rv_c0 (by omega)]; exact hd
  refine z_aload_n hC dX8_looks_30 rfl ?_
  refine z_get hC iA_X8 rfl 0 (by decide) qF_X8_7 rfl dX8_looks_31 rl_0 (rd_0 (ca := ca) (ad := ad)) rfl ?_
  refine z_iload_n hC dX8_looks_34 rfl ?_
  refine z_iload_n hC dX8_looks_35 rfl ?_
  refine z_iconst hC dX8_looks_36 ?_
  refine z_callS hC [.int (iZ t), .int (iZ c), .int (iZ 3)] 3 rfl dX8_looks_37 (fun l => m_X8_cargoAt l _ _ _ t c 3) qM_X8_44 qT_X8_cargoAt qi_X8 qC_X8_cargoAt (by decide +kernel) (by decide) (by decide) (Nat.le_of_ble_eq_true rfl) (zk_pure ?_) rfl
  refine z_iald hC dX8_looks_40 rl_1 (rd_1 (ca := ca) (ad := ad)) (by omega) (by omega) (by decide) ?_
  refine z_top (b := d (16 + c) 3) ((rv_cargo (by omega) (by omega)).symm.trans (congrFun (congrFun hd3 _) _)) ?_
  refine z_istore hC dX8_looks_41 (by decide) rfl ?_
  refine z_aload_n hC dX8_looks_43 rfl ?_
  refine z_aload_n hC dX8_looks_44 rfl ?_
  refine z_get hC iA_X8 rfl 8 (by decide) qF_X8_51 rfl dX8_looks_45 rl_0 (rd_0 (ca := ca) (ad := ad)) rfl ?_
  refine z_top (by rw [hμ1, zup_s]) ?_
  refine z_iload hC dX8_looks_48 rfl ?_
  refine z_icmp_ge hC 58 dX8_looks_50 (by decide) (by omega) (by omega) (fun c_4 => ?_) (fun c_4 => ?_)
  · refine z_aload_n hC dX8_looks_58 rfl ?_
    refine z_get hC iA_X8 rfl 8 (by decide) qF_X8_51 rfl dX8_looks_59 rl_0 (rd_0 (ca := ca) (ad := ad)) rfl ?_
    refine z_top (by rw [hμ1, zup_s]) ?_
    refine z_top (b := sLoad d k c p u) (by unfold sLoad; rw [if_neg (by omega)]) ?_
    refine z_put hC iA_X8 rfl tyX8 tyX8_ok nmX8 9 (by decide) rfl rfl 9 rfl qF_X8_54 rfl dX8_looks_62 rl_0 (rd_0 (ca := ca) (ad := ad)) (fun _ => rfl) (fun _ => Nat.le_of_ble_eq_true rfl) ?_
    refine z_nm (fun μ5 hμ5 => ?_)
    have hd6 : rv μ5 0 = d0 := by rw [hμ5, rv_c0 (by omega)]; exact hd2
    have hd7 : rv μ5 t = d := by rw [hμ5, rv_c0 (by omega)]; exact hd3
    refine z_aload_n hC dX8_looks_65 rfl ?_
    refine z_aload_n hC dX8_looks_66 rfl ?_
    refine z_get hC iA_X8 rfl 9 (by decide) qF_X8_54 rfl dX8_looks_67 rl_0 (rd_0 (ca := ca) (ad := ad)) rfl ?_
    refine z_top (by rw [hμ5, zup_s]) ?_
    refine z_iconst hC dX8_looks_70 ?_
    refine z_iadd hC dX8_looks_71 ?_
    refine z_aload_n hC dX8_looks_72 rfl ?_
    refine z_iload_n hC dX8_looks_73 rfl ?_
    refine z_iload_n hC dX8_looks_74 rfl ?_
    refine z_iload hC dX8_looks_75 rfl ?_
    refine z_aload_n hC dX8_looks_77 rfl ?_
    refine z_get hC iA_X8 rfl 0 (by decide) qF_X8_7 rfl dX8_looks_78 rl_0 (rd_0 (ca := ca) (ad := ad)) rfl ?_
    refine z_iload_n hC dX8_looks_81 rfl ?_
    refine z_iload_n hC dX8_looks_82 rfl ?_
    refine z_iconst hC dX8_looks_83 ?_
    refine z_callS hC [.int (iZ t), .int (iZ c), .int (iZ 2)] 3 rfl dX8_looks_84 (fun l => m_X8_cargoAt l _ _ _ t c 2) qM_X8_44 qT_X8_cargoAt qi_X8 qC_X8_cargoAt (by decide +kernel) (by decide) (by decide) (Nat.le_of_ble_eq_true rfl) (zk_pure ?_) rfl
    refine z_iald hC dX8_looks_87 rl_1 (rd_1 (ca := ca) (ad := ad)) (by omega) (by omega) (by decide) ?_
    refine z_top (b := d (16 + c) 2) ((rv_cargo (by omega) (by omega)).symm.trans (congrFun (congrFun hd7 _) _)) ?_
    refine z_callV hC [.int (iZ t), .int (iZ k), .int (iZ (d (16 + c) 1)), .int (iZ (d (16 + c) 2))] 4 rfl dX8_looks_88 (fun l => m_X8_sails l G ca ad _ μ5 d0 hd6 t ht d hd7 hpe hP0 k (d (16 + c) 1) (d (16 + c) 2) (by omega) (by omega) (by omega) (by omega)) qM_X8_47 qI_X8_sails qS_X8_sails qi_X8 qC_X8_sails (by decide +kernel) (by decide) (by decide) rl_0 (rd_0 (ca := ca) (ad := ad)) rfl (Nat.le_of_ble_eq_true rfl) (zk_pure ?_) rfl
    refine z_iadd hC dX8_looks_91 ?_
    refine z_top (b := sFree d k c p u) (by unfold sFree; omega) ?_
    refine z_put hC iA_X8 rfl tyX8 tyX8_ok nmX8 10 (by decide) rfl rfl 10 rfl qF_X8_57 rfl dX8_looks_92 rl_0 (rd_0 (ca := ca) (ad := ad)) (fun _ => rfl) (fun _ => Nat.le_of_ble_eq_true rfl) ?_
    refine z_nm (fun μ8 hμ8 => ?_)
    have hd9 : rv μ8 0 = d0 := by rw [hμ8, rv_c0 (by omega)]; exact hd6
    have hd10 : rv μ8 t = d := by rw [hμ8, rv_c0 (by omega)]; exact hd7
    refine z_aload_n hC dX8_looks_95 rfl ?_
    refine z_aload_n hC dX8_looks_96 rfl ?_
    refine z_get hC iA_X8 rfl 0 (by decide) qF_X8_7 rfl dX8_looks_97 rl_0 (rd_0 (ca := ca) (ad := ad)) rfl ?_
    refine z_iload_n hC dX8_looks_100 rfl ?_
    refine z_iload_n hC dX8_looks_101 rfl ?_
    refine z_iconst hC dX8_looks_102 ?_
    refine z_callS hC [.int (iZ t), .int (iZ c), .int (iZ 0)] 3 rfl dX8_looks_103 (fun l => m_X8_cargoAt l _ _ _ t c 0) qM_X8_44 qT_X8_cargoAt qi_X8 qC_X8_cargoAt (by decide +kernel) (by decide) (by decide) (Nat.le_of_ble_eq_true rfl) (zk_pure ?_) rfl
    refine z_iald hC dX8_looks_106 rl_1 (rd_1 (ca := ca) (ad := ad)) (by omega) (by omega) (by decide) ?_
    refine z_top (b := d (16 + c) 0) ((rv_cargo (by omega) (by omega)).symm.trans (congrFun (congrFun hd10 _) _)) ?_
    refine z_aload_n hC dX8_looks_107 rfl ?_
    refine z_get hC iA_X8 rfl 0 (by decide) qF_X8_7 rfl dX8_looks_108 rl_0 (rd_0 (ca := ca) (ad := ad)) rfl ?_
    refine z_iload_n hC dX8_looks_111 rfl ?_
    refine z_iload_n hC dX8_looks_112 rfl ?_
    refine z_iconst hC dX8_looks_113 ?_
    refine z_callS hC [.int (iZ t), .int (iZ c), .int (iZ 5)] 3 rfl dX8_looks_114 (fun l => m_X8_cargoAt l _ _ _ t c 5) qM_X8_44 qT_X8_cargoAt qi_X8 qC_X8_cargoAt (by decide +kernel) (by decide) (by decide) (Nat.le_of_ble_eq_true rfl) (zk_pure ?_) rfl
    refine z_iald hC dX8_looks_117 rl_1 (rd_1 (ca := ca) (ad := ad)) (by omega) (by omega) (by decide) ?_
    refine z_top (b := d (16 + c) 5) ((rv_cargo (by omega) (by omega)).symm.trans (congrFun (congrFun hd10 _) _)) ?_
    refine z_imul hC dX8_looks_118 ?_
    refine z_aload_n hC dX8_looks_119 rfl ?_
    refine z_get hC iA_X8 rfl 10 (by decide) qF_X8_57 rfl dX8_looks_120 rl_0 (rd_0 (ca := ca) (ad := ad)) rfl ?_
    refine z_top (by rw [hμ8, zup_s]) ?_
    refine z_iload hC dX8_looks_123 rfl ?_
    refine z_isub hC dX8_looks_125 ?_
    refine z_aload_n hC dX8_looks_126 rfl ?_
    refine z_get hC iA_X8 rfl 0 (by decide) qF_X8_7 rfl dX8_looks_127 rl_0 (rd_0 (ca := ca) (ad := ad)) rfl ?_
    refine z_iload_n hC dX8_looks_130 rfl ?_
    refine z_iload_n hC dX8_looks_131 rfl ?_
    refine z_iconst hC dX8_looks_132 ?_
    refine z_callS hC [.int (iZ t), .int (iZ k), .int (iZ 2)] 3 rfl dX8_looks_133 (fun l => m_X8_shipAt l _ _ _ t k 2) qM_X8_37 qT_X8_shipAt qi_X8 qC_X8_shipAt (by decide +kernel) (by decide) (by decide) (Nat.le_of_ble_eq_true rfl) (zk_pure ?_) rfl
    refine z_iald hC dX8_looks_136 rl_1 (rd_1 (ca := ca) (ad := ad)) (by omega) (by omega) (by decide) ?_
    refine z_top (b := d (6 + k) 2) ((rv_ship (by omega) (by omega)).symm.trans (congrFun (congrFun hd10 _) _)) ?_
    refine z_imul hC dX8_looks_137 ?_
    refine z_isub hC dX8_looks_138 ?_
    refine z_top (b := sEarn d k c p u) rfl ?_
    refine z_put hC iA_X8 rfl tyX8 tyX8_ok nmX8 11 (by decide) rfl rfl 11 rfl qF_X8_60 rfl dX8_looks_139 rl_0 (rd_0 (ca := ca) (ad := ad)) (fun _ => rfl) (fun _ => Nat.le_of_ble_eq_true rfl) ?_
    refine z_nm (fun μ11 hμ11 => ?_)
    have hd12 : rv μ11 0 = d0 := by rw [hμ11, rv_c0 (by omega)]; exact hd9
    have hd13 : rv μ11 t = d := by rw [hμ11, rv_c0 (by omega)]; exact hd10
    exact z_vret hC dX8_looks_142 ⟨rfl, ⟨fun c9 hc9 => by rw [hμ11, zup_o hc9, hμ8, zup_o hc9, hμ5, zup_o hc9, hμ1, zup_o hc9], fun i hi => by rw [hμ11, zup_n (by omega), hμ8, zup_n (by omega), hμ5, zup_n (by omega), hμ1, zup_n (by omega)]⟩, fun i hi => by rw [hμ11, zup_n (by omega), hμ8, zup_n (by omega), hμ5, zup_n (by omega), hμ1, zup_n (by omega)], by rw [hμ11, zup_n (by omega), hμ8, zup_n (by omega), hμ5, zup_n (by omega), hμ1, zup_s], by rw [hμ11, zup_n (by omega), hμ8, zup_n (by omega), hμ5, zup_s], by rw [hμ11, zup_n (by omega), hμ8, zup_s], by rw [hμ11, zup_s]⟩
  · refine z_iload hC dX8_looks_53 rfl ?_
    refine z_goto hC 62 dX8_looks_55 (by decide) ?_
    refine z_top (b := sLoad d k c p u) (by unfold sLoad; rw [if_pos (by omega)]) ?_
    refine z_put hC iA_X8 rfl tyX8 tyX8_ok nmX8 9 (by decide) rfl rfl 9 rfl qF_X8_54 rfl dX8_looks_62 rl_0 (rd_0 (ca := ca) (ad := ad)) (fun _ => rfl) (fun _ => Nat.le_of_ble_eq_true rfl) ?_
    refine z_nm (fun μ14 hμ14 => ?_)
    have hd15 : rv μ14 0 = d0 := by rw [hμ14, rv_c0 (by omega)]; exact hd2
    have hd16 : rv μ14 t = d := by rw [hμ14, rv_c0 (by omega)]; exact hd3
    refine z_aload_n hC dX8_looks_65 rfl ?_
    refine z_aload_n hC dX8_looks_66 rfl ?_
    refine z_get hC iA_X8 rfl 9 (by decide) qF_X8_54 rfl dX8_looks_67 rl_0 (rd_0 (ca := ca) (ad := ad)) rfl ?_
    refine z_top (by rw [hμ14, zup_s]) ?_
    refine z_iconst hC dX8_looks_70 ?_
    refine z_iadd hC dX8_looks_71 ?_
    refine z_aload_n hC dX8_looks_72 rfl ?_
    refine z_iload_n hC dX8_looks_73 rfl ?_
    refine z_iload_n hC dX8_looks_74 rfl ?_
    refine z_iload hC dX8_looks_75 rfl ?_
    refine z_aload_n hC dX8_looks_77 rfl ?_
    refine z_get hC iA_X8 rfl 0 (by decide) qF_X8_7 rfl dX8_looks_78 rl_0 (rd_0 (ca := ca) (ad := ad)) rfl ?_
    refine z_iload_n hC dX8_looks_81 rfl ?_
    refine z_iload_n hC dX8_looks_82 rfl ?_
    refine z_iconst hC dX8_looks_83 ?_
    refine z_callS hC [.int (iZ t), .int (iZ c), .int (iZ 2)] 3 rfl dX8_looks_84 (fun l => m_X8_cargoAt l _ _ _ t c 2) qM_X8_44 qT_X8_cargoAt qi_X8 qC_X8_cargoAt (by decide +kernel) (by decide) (by decide) (Nat.le_of_ble_eq_true rfl) (zk_pure ?_) rfl
    refine z_iald hC dX8_looks_87 rl_1 (rd_1 (ca := ca) (ad := ad)) (by omega) (by omega) (by decide) ?_
    refine z_top (b := d (16 + c) 2) ((rv_cargo (by omega) (by omega)).symm.trans (congrFun (congrFun hd16 _) _)) ?_
    refine z_callV hC [.int (iZ t), .int (iZ k), .int (iZ (d (16 + c) 1)), .int (iZ (d (16 + c) 2))] 4 rfl dX8_looks_88 (fun l => m_X8_sails l G ca ad _ μ14 d0 hd15 t ht d hd16 hpe hP0 k (d (16 + c) 1) (d (16 + c) 2) (by omega) (by omega) (by omega) (by omega)) qM_X8_47 qI_X8_sails qS_X8_sails qi_X8 qC_X8_sails (by decide +kernel) (by decide) (by decide) rl_0 (rd_0 (ca := ca) (ad := ad)) rfl (Nat.le_of_ble_eq_true rfl) (zk_pure ?_) rfl
    refine z_iadd hC dX8_looks_91 ?_
    refine z_top (b := sFree d k c p u) (by unfold sFree; omega) ?_
    refine z_put hC iA_X8 rfl tyX8 tyX8_ok nmX8 10 (by decide) rfl rfl 10 rfl qF_X8_57 rfl dX8_looks_92 rl_0 (rd_0 (ca := ca) (ad := ad)) (fun _ => rfl) (fun _ => Nat.le_of_ble_eq_true rfl) ?_
    refine z_nm (fun μ17 hμ17 => ?_)
    have hd18 : rv μ17 0 = d0 := by rw [hμ17, rv_c0 (by omega)]; exact hd15
    have hd19 : rv μ17 t = d := by rw [hμ17, rv_c0 (by omega)]; exact hd16
    refine z_aload_n hC dX8_looks_95 rfl ?_
    refine z_aload_n hC dX8_looks_96 rfl ?_
    refine z_get hC iA_X8 rfl 0 (by decide) qF_X8_7 rfl dX8_looks_97 rl_0 (rd_0 (ca := ca) (ad := ad)) rfl ?_
    refine z_iload_n hC dX8_looks_100 rfl ?_
    refine z_iload_n hC dX8_looks_101 rfl ?_
    refine z_iconst hC dX8_looks_102 ?_
    refine z_callS hC [.int (iZ t), .int (iZ c), .int (iZ 0)] 3 rfl dX8_looks_103 (fun l => m_X8_cargoAt l _ _ _ t c 0) qM_X8_44 qT_X8_cargoAt qi_X8 qC_X8_cargoAt (by decide +kernel) (by decide) (by decide) (Nat.le_of_ble_eq_true rfl) (zk_pure ?_) rfl
    refine z_iald hC dX8_looks_106 rl_1 (rd_1 (ca := ca) (ad := ad)) (by omega) (by omega) (by decide) ?_
    refine z_top (b := d (16 + c) 0) ((rv_cargo (by omega) (by omega)).symm.trans (congrFun (congrFun hd19 _) _)) ?_
    refine z_aload_n hC dX8_looks_107 rfl ?_
    refine z_get hC iA_X8 rfl 0 (by decide) qF_X8_7 rfl dX8_looks_108 rl_0 (rd_0 (ca := ca) (ad := ad)) rfl ?_
    refine z_iload_n hC dX8_looks_111 rfl ?_
    refine z_iload_n hC dX8_looks_112 rfl ?_
    refine z_iconst hC dX8_looks_113 ?_
    refine z_callS hC [.int (iZ t), .int (iZ c), .int (iZ 5)] 3 rfl dX8_looks_114 (fun l => m_X8_cargoAt l _ _ _ t c 5) qM_X8_44 qT_X8_cargoAt qi_X8 qC_X8_cargoAt (by decide +kernel) (by decide) (by decide) (Nat.le_of_ble_eq_true rfl) (zk_pure ?_) rfl
    refine z_iald hC dX8_looks_117 rl_1 (rd_1 (ca := ca) (ad := ad)) (by omega) (by omega) (by decide) ?_
    refine z_top (b := d (16 + c) 5) ((rv_cargo (by omega) (by omega)).symm.trans (congrFun (congrFun hd19 _) _)) ?_
    refine z_imul hC dX8_looks_118 ?_
    refine z_aload_n hC dX8_looks_119 rfl ?_
    refine z_get hC iA_X8 rfl 10 (by decide) qF_X8_57 rfl dX8_looks_120 rl_0 (rd_0 (ca := ca) (ad := ad)) rfl ?_
    refine z_top (by rw [hμ17, zup_s]) ?_
    refine z_iload hC dX8_looks_123 rfl ?_
    refine z_isub hC dX8_looks_125 ?_
    refine z_aload_n hC dX8_looks_126 rfl ?_
    refine z_get hC iA_X8 rfl 0 (by decide) qF_X8_7 rfl dX8_looks_127 rl_0 (rd_0 (ca := ca) (ad := ad)) rfl ?_
    refine z_iload_n hC dX8_looks_130 rfl ?_
    refine z_iload_n hC dX8_looks_131 rfl ?_
    refine z_iconst hC dX8_looks_132 ?_
    refine z_callS hC [.int (iZ t), .int (iZ k), .int (iZ 2)] 3 rfl dX8_looks_133 (fun l => m_X8_shipAt l _ _ _ t k 2) qM_X8_37 qT_X8_shipAt qi_X8 qC_X8_shipAt (by decide +kernel) (by decide) (by decide) (Nat.le_of_ble_eq_true rfl) (zk_pure ?_) rfl
    refine z_iald hC dX8_looks_136 rl_1 (rd_1 (ca := ca) (ad := ad)) (by omega) (by omega) (by decide) ?_
    refine z_top (b := d (6 + k) 2) ((rv_ship (by omega) (by omega)).symm.trans (congrFun (congrFun hd19 _) _)) ?_
    refine z_imul hC dX8_looks_137 ?_
    refine z_isub hC dX8_looks_138 ?_
    refine z_top (b := sEarn d k c p u) rfl ?_
    refine z_put hC iA_X8 rfl tyX8 tyX8_ok nmX8 11 (by decide) rfl rfl 11 rfl qF_X8_60 rfl dX8_looks_139 rl_0 (rd_0 (ca := ca) (ad := ad)) (fun _ => rfl) (fun _ => Nat.le_of_ble_eq_true rfl) ?_
    refine z_nm (fun μ20 hμ20 => ?_)
    have hd21 : rv μ20 0 = d0 := by rw [hμ20, rv_c0 (by omega)]; exact hd18
    have hd22 : rv μ20 t = d := by rw [hμ20, rv_c0 (by omega)]; exact hd19
    exact z_vret hC dX8_looks_142 ⟨rfl, ⟨fun c9 hc9 => by rw [hμ20, zup_o hc9, hμ17, zup_o hc9, hμ14, zup_o hc9, hμ1, zup_o hc9], fun i hi => by rw [hμ20, zup_n (by omega), hμ17, zup_n (by omega), hμ14, zup_n (by omega), hμ1, zup_n (by omega)]⟩, fun i hi => by rw [hμ20, zup_n (by omega), hμ17, zup_n (by omega), hμ14, zup_n (by omega), hμ1, zup_n (by omega)], by rw [hμ20, zup_n (by omega), hμ17, zup_n (by omega), hμ14, zup_n (by omega), hμ1, zup_s], by rw [hμ20, zup_n (by omega), hμ17, zup_n (by omega), hμ14, zup_s], by rw [hμ20, zup_n (by omega), hμ17, zup_s], by rw [hμ20, zup_s]⟩
