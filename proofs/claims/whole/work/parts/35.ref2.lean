set_option maxHeartbeats 4000000 in
set_option maxRecDepth 100000 in
/-- isShip -/
theorem m_X8_isShip (l : Launch) (G : va_G) (ca : Nat → ClassId) (ad : Int → Nat) (A : Nat → Prop) (μ : zM) (d : zM) (hd : rv μ 0 = d) (v : Int) (hv : -2147483648 ≤ v ∧ v ≤ 2147483647) (hS : 0 ≤ d 0 4 ∧ d 0 4 ≤ 10) : zMet l (rω G ca ad) A yX8_isShip cX8_isShip 2 (some .boolean) 1 22 [.ref (ad 0), .int (iZ v)] μ (zpI (.int (iZ (zB (0 ≤ v ∧ v < d 0 4)))) (fun m => m = μ)) := by
  refine zMet_of (by decide) (Nat.le_of_ble_eq_true rfl) (fun Γ hC => ?_)
  show Z Γ _ μ 0 [(0, .ref (ad 0)), (1, .int (iZ v))] []
  refine z_iload_n hC dX8_isShip_0 rfl ?_
  refine z_iconst hC dX8_isShip_1 ?_
  refine z_aload_n hC dX8_isShip_2 rfl ?_
  refine z_get hC iA_X8 rfl 0 (by decide) qF_X8_7 rfl dX8_isShip_3 rl_0 (rd_0 (ca := ca) (ad := ad)) rfl ?_
  refine z_bipush hC dX8_isShip_6 (by decide) ?_
  refine z_iald hC dX8_isShip_8 rl_1 (rd_1 (ca := ca) (ad := ad)) (by omega) (by omega) (by decide) ?_
  refine z_top (b := d 0 4) ((rv_S).symm.trans (congrFun (congrFun hd _) _)) ?_
  refine z_iconst hC dX8_isShip_9 ?_
  refine z_isub hC dX8_isShip_10 ?_
  refine z_callS hC [.int (iZ v), .int (iZ 0), .int (iZ ((d 0 4) - 1))] 3 rfl dX8_isShip_11 (fun l => m_X8_in l _ _ _ v 0 ((d 0 4) - 1) (by omega) (by omega) (by omega)) qM_X8_29 qT_X8_in qi_X8 qC_X8_in (by decide +kernel) (by decide) (by decide) (Nat.le_of_ble_eq_true rfl) (zk_pure ?_) rfl
  refine z_top (b := zB (0 ≤ v ∧ v < d 0 4)) (zB_iff (by omega)) ?_
  exact z_zret hC dX8_isShip_14 ⟨rfl, rfl⟩

set_option maxHeartbeats 4000000 in
set_option maxRecDepth 100000 in
/-- isCargo -/
theorem m_X8_isCargo (l : Launch) (G : va_G) (ca : Nat → ClassId) (ad : Int → Nat) (A : Nat → Prop) (μ : zM) (d : zM) (hd : rv μ 0 = d) (v : Int) (hv : -2147483648 ≤ v ∧ v ≤ 2147483647) (hS : 0 ≤ d 0 5 ∧ d 0 5 ≤ 10) : zMet l (rω G ca ad) A yX8_isCargo cX8_isCargo 2 (some .boolean) 1 22 [.ref (ad 0), .int (iZ v)] μ (zpI (.int (iZ (zB (0 ≤ v ∧ v < d 0 5)))) (fun m => m = μ)) := by
  refine zMet_of (by decide) (Nat.le_of_ble_eq_true rfl) (fun Γ hC => ?_)
  show Z Γ _ μ 0 [(0, .ref (ad 0)), (1, .int (iZ v))] []
  refine z_iload_n hC dX8_isCargo_0 rfl ?_
  refine z_iconst hC dX8_isCargo_1 ?_
  refine z_aload_n hC dX8_isCargo_2 rfl ?_
  refine z_get hC iA_X8 rfl 0 (by decide) qF_X8_7 rfl dX8_isCargo_3 rl_0 (rd_0 (ca := ca) (ad := ad)) rfl ?_
  refine z_bipush hC dX8_isCargo_6 (by decide) ?_
  refine z_iald hC dX8_isCargo_8 rl_1 (rd_1 (ca := ca) (ad := ad)) (by omega) (by omega) (by decide) ?_
  refine z_top (b := d 0 5) ((rv_C).symm.trans (congrFun (congrFun hd _) _)) ?_
  refine z_iconst hC dX8_isCargo_9 ?_
  refine z_isub hC dX8_isCargo_10 ?_
  refine z_callS hC [.int (iZ v), .int (iZ 0), .int (iZ ((d 0 5) - 1))] 3 rfl dX8_isCargo_11 (fun l => m_X8_in l _ _ _ v 0 ((d 0 5) - 1) (by omega) (by omega) (by omega)) qM_X8_29 qT_X8_in qi_X8 qC_X8_in (by decide +kernel) (by decide) (by decide) (Nat.le_of_ble_eq_true rfl) (zk_pure ?_) rfl
  refine z_top (b := zB (0 ≤ v ∧ v < d 0 5)) (zB_iff (by omega)) ?_
  exact z_zret hC dX8_isCargo_14 ⟨rfl, rfl⟩

set_option maxHeartbeats 4000000 in
set_option maxRecDepth 100000 in
/-- isLate(t, c) -/
theorem m_X8_isLate (l : Launch) (G : va_G) (ca : Nat → ClassId) (ad : Int → Nat) (A : Nat → Prop) (μ : zM) (t : Int) (ht : 0 ≤ t ∧ t ≤ 6) (d : zM) (hd : rv μ t = d) (c a : Int) (hc : 0 ≤ c ∧ c < 10) (h4 : 0 ≤ d (16 + c) 4 ∧ d (16 + c) 4 ≤ 999) (h8 : μ 0 8 = a) (ha : -2147483648 ≤ a ∧ a ≤ 2147483647) : zMet l (rω G ca ad) A yX8_isLate cX8_isLate 3 (some .boolean) 1 22 [.ref (ad 0), .int (iZ t), .int (iZ c)] μ (zpI (.int (iZ (zB (d (16 + c) 4 < a)))) (fun m => m = μ)) := by
  refine zMet_of (by decide) (Nat.le_of_ble_eq_true rfl) (fun Γ hC => ?_)
  show Z Γ _ μ 0 [(0, .ref (ad 0)), (1, .int (iZ t)), (2, .int (iZ c))] []
  refine z_aload_n hC dX8_isLate_0 rfl ?_
  refine z_get hC iA_X8 rfl 8 (by decide) qF_X8_51 rfl dX8_isLate_1 rl_0 (rd_0 (ca := ca) (ad := ad)) rfl ?_
  refine z_top (b := a) (by rw [h8]) ?_
  refine z_aload_n hC dX8_isLate_4 rfl ?_
  refine z_get hC iA_X8 rfl 0 (by decide) qF_X8_7 rfl dX8_isLate_5 rl_0 (rd_0 (ca := ca) (ad := ad)) rfl ?_
  refine z_iload_n hC dX8_isLate_8 rfl ?_
  refine z_iload_n hC dX8_isLate_9 rfl ?_
  refine z_iconst hC dX8_isLate_10 ?_
  refine z_callS hC [.int (iZ t), .int (iZ c), .int (iZ 4)] 3 rfl dX8_isLate_11 (fun l => m_X8_cargoAt l _ _ _ t c 4) qM_X8_44 qT_X8_cargoAt qi_X8 qC_X8_cargoAt (by decide +kernel) (by decide) (by decide) (Nat.le_of_ble_eq_true rfl) (zk_pure ?_) rfl
  refine z_iald hC dX8_isLate_14 rl_1 (rd_1 (ca := ca) (ad := ad)) (by omega) (by omega) (by decide) ?_
  refine z_top (b := d (16 + c) 4) ((rv_cargo (by omega) (by omega)).symm.trans (congrFun (congrFun hd _) _)) ?_
  refine z_icmp_le hC 22 dX8_isLate_15 (by decide) (by omega) (by omega) (fun c_1 => ?_) (fun c_1 => ?_)
  · refine z_iconst hC dX8_isLate_22 ?_
    exact z_zret0 hC dX8_isLate_23 ⟨by rw [zB_f (by omega)], rfl⟩
  · refine z_iconst hC dX8_isLate_18 ?_
    refine z_goto hC 23 dX8_isLate_19 (by decide) ?_
    exact z_zret1 hC dX8_isLate_23 ⟨by rw [zB_t (by omega)], rfl⟩

set_option maxHeartbeats 4000000 in
set_option maxRecDepth 100000 in
/-- goes(t, k, f) -/
theorem m_X8_goes (l : Launch) (G : va_G) (ca : Nat → ClassId) (ad : Int → Nat) (A : Nat → Prop) (μ : zM) (d0 : zM) (hd0 : rv μ 0 = d0) (t : Int) (ht : 0 ≤ t ∧ t ≤ 6) (d : zM) (hd : rv μ t = d) (hpe : ∀ p, d0 1 p = d 1 p ∧ d0 2 p = d 2 p) (hP0 : bP d0) (k f : Int) (N : Nat) (hB : bD d) (hk : 0 ≤ k ∧ k < d 0 4) (hN : (N : Int) = f) (hfN : f ≤ d (6 + k) 6) (hF : fOk d k N) : zMet l (rω G ca ad) A yX8_goes cX8_goes 7 none 4 95 [.ref (ad 0), .int (iZ t), .int (iZ k), .int (iZ f)] μ (zpV (fun μ' => rFr μ μ' ∧ rGo d k (sTime d k N 0) μ')) := by
  refine zMet_of (by decide) (Nat.le_of_ble_eq_true rfl) (fun Γ hC => ?_)
  show Z Γ _ μ 0 [(0, .ref (ad 0)), (1, .int (iZ t)), (2, .int (iZ k)), (3, .int (iZ f))] []
  obtain ⟨hN0, hP, hB3, hB4⟩ := id hB
  obtain ⟨hN1, hN2⟩ := id hN0
  obtain ⟨hs0, hs1, hs2, hs3, hs4, hs6⟩ := hB3 k (by omega)
  refine z_aload_n hC dX8_goes_0 rfl ?_
  refine z_aload_n hC dX8_goes_1 rfl ?_
  refine z_get hC iA_X8 rfl 0 (by decide) qF_X8_7 rfl dX8_goes_2 rl_0 (rd_0 (ca := ca) (ad := ad)) rfl ?_
  refine z_iload_n hC dX8_goes_5 rfl ?_
  refine z_iload_n hC dX8_goes_6 rfl ?_
  refine z_iconst hC dX8_goes_7 ?_
  refine z_callS hC [.int (iZ t), .int (iZ k), .int (iZ 3)] 3 rfl dX8_goes_8 (fun l => m_X8_shipAt l _ _ _ t k 3) qM_X8_37 qT_X8_shipAt qi_X8 qC_X8_shipAt (by decide +kernel) (by decide) (by decide) (Nat.le_of_ble_eq_true rfl) (zk_pure ?_) rfl
  refine z_iald hC dX8_goes_11 rl_1 (rd_1 (ca := ca) (ad := ad)) (by omega) (by omega) (by decide) ?_
  refine z_top (b := d (6 + k) 3) ((rv_ship (by omega) (by omega)).symm.trans (congrFun (congrFun hd _) _)) ?_
  refine z_put hC iA_X8 rfl tyX8 tyX8_ok nmX8 12 (by decide) rfl rfl 12 rfl qF_X8_63 rfl dX8_goes_12 rl_0 (rd_0 (ca := ca) (ad := ad)) (fun _ => rfl) (fun _ => Nat.le_of_ble_eq_true rfl) ?_
  refine z_nm (fun μ1 hμ1 => ?_)
  have hd2 : rv μ1 0 = d0 := by rw [hμ1, rv_c0 (by omega)]; exact hd0
  have hd3 : rv μ1 t = d := by rw [hμ1, rv_c0 (by omega)]; exact hd
  refine z_aload_n hC dX8_goes_15 rfl ?_
  refine z_aload_n hC dX8_goes_16 rfl ?_
  refine z_get hC iA_X8 rfl 0 (by decide) qF_X8_7 rfl dX8_goes_17 rl_0 (rd_0 (ca := ca) (ad := ad)) rfl ?_
  refine z_iload_n hC dX8_goes_20 rfl ?_
  refine z_iload_n hC dX8_goes_21 rfl ?_
  refine z_iconst hC dX8_goes_22 ?_
  refine z_callS hC [.int (iZ t), .int (iZ k), .int (iZ 4)] 3 rfl dX8_goes_23 (fun l => m_X8_shipAt l _ _ _ t k 4) qM_X8_37 qT_X8_shipAt qi_X8 qC_X8_shipAt (by decide +kernel) (by decide) (by decide) (Nat.le_of_ble_eq_true rfl) (zk_pure ?_) rfl
  refine z_iald hC dX8_goes_26 rl_1 (rd_1 (ca := ca) (ad := ad)) (by omega) (by omega) (by decide) ?_
  refine z_top (b := d (6 + k) 4) ((rv_ship (by omega) (by omega)).symm.trans (congrFun (congrFun hd3 _) _)) ?_
  refine z_put hC iA_X8 rfl tyX8 tyX8_ok nmX8 13 (by decide) rfl rfl 13 rfl qF_X8_66 rfl dX8_goes_27 rl_0 (rd_0 (ca := ca) (ad := ad)) (fun _ => rfl) (fun _ => Nat.le_of_ble_eq_true rfl) ?_
  refine z_nm (fun μ4 hμ4 => ?_)
  have hd5 : rv μ4 0 = d0 := by rw [hμ4, rv_c0 (by omega)]; exact hd2
  have hd6 : rv μ4 t = d := by rw [hμ4, rv_c0 (by omega)]; exact hd3
  refine z_aload_n hC dX8_goes_30 rfl ?_
  refine z_iconst hC dX8_goes_31 ?_
  refine z_put hC iA_X8 rfl tyX8 tyX8_ok nmX8 14 (by decide) rfl rfl 14 rfl qF_X8_69 rfl dX8_goes_32 rl_0 (rd_0 (ca := ca) (ad := ad)) (fun _ => rfl) (fun _ => Nat.le_of_ble_eq_true rfl) ?_
  refine z_nm (fun μ7 hμ7 => ?_)
  have hd8 : rv μ7 0 = d0 := by rw [hμ7, rv_c0 (by omega)]; exact hd5
  have hd9 : rv μ7 t = d := by rw [hμ7, rv_c0 (by omega)]; exact hd6
  refine z_aload_n hC dX8_goes_35 rfl ?_
  refine z_iconst hC dX8_goes_36 ?_
  refine z_put hC iA_X8 rfl tyX8 tyX8_ok nmX8 15 (by decide) rfl rfl 15 rfl qF_X8_72 rfl dX8_goes_37 rl_0 (rd_0 (ca := ca) (ad := ad)) (fun _ => rfl) (fun _ => Nat.le_of_ble_eq_true rfl) ?_
  refine z_nm (fun μ10 hμ10 => ?_)
  have hd11 : rv μ10 0 = d0 := by rw [hμ10, rv_c0 (by omega)]; exact hd8
  have hd12 : rv μ10 t = d := by rw [hμ10, rv_c0 (by omega)]; exact hd9
  refine z_iconst hC dX8_goes_40 ?_
  refine z_istore hC dX8_goes_41 (by decide) rfl ?_
  refine z_iconst hC dX8_goes_43 ?_
  refine z_istore hC dX8_goes_44 (by decide) rfl ?_
  have LOOP : ∀ (r n : Nat), n + r = N → ∀ μ1 : zM, rFr μ μ1 → rGo d k n μ1 → (∀ m : Nat, m < n → 0 ≤ sMarg d k (d (11 + k) (m : Int)) (sPos d k m).1 (sPos d k m).2.1) → sTime d k r n = sTime d k N 0 → Z Γ (rω G ca ad) μ1 46 [(5, .int (iZ (n : Int))), (4, .int (iZ 1)), (0, .ref (ad 0)), (1, .int (iZ t)), (2, .int (iZ k)), (3, .int (iZ f))] [] := by
    intro r
    induction r with
    | zero =>
      intro n hn μ1 hf1 hI hlt hT
      have hd01 : rv μ1 0 = d0 := by rw [rv_fr hf1]; exact hd0
      have hd1 : rv μ1 t = d := by rw [rv_fr hf1]; exact hd
      refine z_iload hC dX8_goes_46 rfl ?_
      refine z_iload_n hC dX8_goes_48 rfl ?_
      refine z_icmp_ge hC 165 dX8_goes_49 (by decide) (by omega) (by omega) (fun c_13 => ?_) (fun c_13 => ?_)
      · obtain rfl : n = N := by omega
        exact z_vret hC dX8_goes_165 ⟨rfl, hf1, by rw [← hT]; exact hI⟩
      · exfalso; omega
    | succ r ih =>
      intro n hn μ1 hf1 hI hlt hT
      have hd01 : rv μ1 0 = d0 := by rw [rv_fr hf1]; exact hd0
      have hd1 : rv μ1 t = d := by rw [rv_fr hf1]; exact hd
      have hg1 := hF n (by omega)
      have hg2 := sPos_b hB hk n (fun m hm => hF m (by omega)) hlt
      obtain ⟨hc0, hc1, hc2, hc3, hc4, hc5, hc6⟩ := hB4 _ hg1
      have hab := sArr_b (t := (sPos d k n).2.1) hP hs1 (hB4 _ hg1) hg2.1
      refine z_iload hC dX8_goes_46 rfl ?_
      refine z_iload_n hC dX8_goes_48 rfl ?_
      refine z_icmp_ge hC 165 dX8_goes_49 (by decide) (by omega) (by omega) (fun c_14 => ?_) (fun c_14 => ?_)
      · exfalso; omega
      · refine z_iload hC dX8_goes_52 rfl ?_
        refine z_if_eq hC 165 dX8_goes_54 (by decide) (by omega) (fun c_15 => ?_) (fun c_15 => ?_)
        · exfalso; omega
        · refine z_aload_n hC dX8_goes_57 rfl ?_
          refine z_get hC iA_X8 rfl 0 (by decide) qF_X8_7 rfl dX8_goes_58 rl_0 (rd_0 (ca := ca) (ad := ad)) rfl ?_
          refine z_iload_n hC dX8_goes_61 rfl ?_
          refine z_iload_n hC dX8_goes_62 rfl ?_
          refine z_bipush hC dX8_goes_63 (by decide) ?_
          refine z_iload hC dX8_goes_65 rfl ?_
          refine z_iadd hC dX8_goes_67 ?_
          refine z_callS hC [.int (iZ t), .int (iZ k), .int (iZ (7 + (n : Int)))] 3 rfl dX8_goes_68 (fun l => m_X8_shipAt l _ _ _ t k (7 + (n : Int))) qM_X8_37 qT_X8_shipAt qi_X8 qC_X8_shipAt (by decide +kernel) (by decide) (by decide) (Nat.le_of_ble_eq_true rfl) (zk_pure ?_) rfl
          refine z_iald hC dX8_goes_71 rl_1 (rd_1 (ca := ca) (ad := ad)) (by omega) (by omega) (by decide) ?_
          refine z_top (b := d (11 + k) (n : Int)) ((rv_fx (by omega) (by omega)).symm.trans (congrFun (congrFun hd1 _) _)) ?_
          refine z_istore hC dX8_goes_72 (by decide) rfl ?_
          refine z_aload_n hC dX8_goes_74 rfl ?_
          refine z_iload_n hC dX8_goes_75 rfl ?_
          refine z_iload_n hC dX8_goes_76 rfl ?_
          refine z_iload hC dX8_goes_77 rfl ?_
          refine z_aload_n hC dX8_goes_79 rfl ?_
          refine z_get hC iA_X8 rfl 12 (by decide) qF_X8_63 rfl dX8_goes_80 rl_0 (rd_0 (ca := ca) (ad := ad)) rfl ?_
          refine z_top (b := (sPos d k n).1) (by rw [hI.1]) ?_
          refine z_aload_n hC dX8_goes_83 rfl ?_
          refine z_get hC iA_X8 rfl 13 (by decide) qF_X8_66 rfl dX8_goes_84 rl_0 (rd_0 (ca := ca) (ad := ad)) rfl ?_
          refine z_top (b := (sPos d k n).2.1) (by rw [hI.2.1]) ?_
          refine z_callV hC [.int (iZ t), .int (iZ k), .int (iZ (d (11 + k) (n : Int))), .int (iZ ((sPos d k n).1)), .int (iZ ((sPos d k n).2.1))] 5 rfl dX8_goes_87 (fun l => m_X8_looks l G ca ad _ μ1 d0 hd01 t ht d hd1 hpe hP0 k (d (11 + k) (n : Int)) ((sPos d k n).1) ((sPos d k n).2.1) (by omega) (by omega) (by omega) (hB4 _ hg1) (by omega) (by omega)) qM_X8_75 qI_X8_looks qS_X8_looks qi_X8 qC_X8_looks (by decide +kernel) (by decide) (by decide) rl_0 (rd_0 (ca := ca) (ad := ad)) rfl (Nat.le_of_ble_eq_true rfl) (zk_void (fun μ16 hμ16 => ?_)) rfl
          obtain ⟨hμ16f, hμ16k, hμ168, hμ169, hμ16a, hμ16b⟩ := id hμ16
          have hd17 : rv μ16 0 = d0 := by rw [rv_fr hμ16f]; exact hd01
          have hd18 : rv μ16 t = d := by rw [rv_fr hμ16f]; exact hd1
          refine z_aload_n hC dX8_goes_90 rfl ?_
          refine z_iload_n hC dX8_goes_91 rfl ?_
          refine z_iload hC dX8_goes_92 rfl ?_
          refine z_callV hC [.int (iZ t), .int (iZ (d (11 + k) (n : Int)))] 2 rfl dX8_goes_94 (fun l => m_X8_isLate l G ca ad _ μ16 t ht d hd18 (d (11 + k) (n : Int)) (sArr d k (d (11 + k) (n : Int)) ((sPos d k n).1) ((sPos d k n).2.1)) (by omega) (by omega) hμ168 (by omega)) qM_X8_79 qI_X8_isLate qS_X8_isLate qi_X8 qC_X8_isLate (by decide +kernel) (by decide) (by decide) rl_0 (rd_0 (ca := ca) (ad := ad)) rfl (Nat.le_of_ble_eq_true rfl) (zk_pure ?_) rfl
          refine z_ifb_ne hC 104 dX8_goes_97 (by decide) (fun c_19 => ?_) (fun c_19 => ?_)
          · refine z_iconst hC dX8_goes_104 ?_
            refine z_istore hC dX8_goes_105 (by decide) rfl ?_
            refine z_iload hC dX8_goes_107 rfl ?_
            refine z_if_eq hC 159 dX8_goes_109 (by decide) (by omega) (fun c_20 => ?_) (fun c_20 => ?_)
            · refine z_iinc hC dX8_goes_159 rfl (by decide) rfl ?_
              refine z_goto hC 46 dX8_goes_162 (by decide) ?_
              refine z_iload hC dX8_goes_46 rfl ?_
              refine z_iload_n hC dX8_goes_48 rfl ?_
              refine z_icmp_ge hC 165 dX8_goes_49 (by decide) (by omega) (by omega) (fun c_21 => ?_) (fun c_21 => ?_)
              · have hN9 : sTime d k N 0 = n := by rw [← hT, sTime_p (by unfold sMarg; omega)]
                exact z_vret hC dX8_goes_165 ⟨rfl, rFr_tr hf1 hμ16f, by rw [hN9]; exact ⟨by rw [hμ16k 12 (by omega)]; exact hI.1, by rw [hμ16k 13 (by omega)]; exact hI.2.1, by rw [hμ16k 14 (by omega)]; exact hI.2.2.1, by rw [hμ16k 15 (by omega)]; exact hI.2.2.2⟩⟩
              · refine z_iload hC dX8_goes_52 rfl ?_
                refine z_if_eq hC 165 dX8_goes_54 (by decide) (by omega) (fun c_22 => ?_) (fun c_22 => ?_)
                · have hN9 : sTime d k N 0 = n := by rw [← hT, sTime_p (by unfold sMarg; omega)]
                  exact z_vret hC dX8_goes_165 ⟨rfl, rFr_tr hf1 hμ16f, by rw [hN9]; exact ⟨by rw [hμ16k 12 (by omega)]; exact hI.1, by rw [hμ16k 13 (by omega)]; exact hI.2.1, by rw [hμ16k 14 (by omega)]; exact hI.2.2.1, by rw [hμ16k 15 (by omega)]; exact hI.2.2.2⟩⟩
                · exfalso; omega
            · exfalso; omega
          · refine z_iconst hC dX8_goes_100 ?_
            refine z_goto hC 105 dX8_goes_101 (by decide) ?_
            refine z_istore hC dX8_goes_105 (by decide) rfl ?_
            refine z_iload hC dX8_goes_107 rfl ?_
            refine z_if_eq hC 159 dX8_goes_109 (by decide) (by omega) (fun c_23 => ?_) (fun c_23 => ?_)
            · exfalso; omega
            · refine z_aload_n hC dX8_goes_112 rfl ?_
              refine z_aload_n hC dX8_goes_113 rfl ?_
              refine z_get hC iA_X8 rfl 0 (by decide) qF_X8_7 rfl dX8_goes_114 rl_0 (rd_0 (ca := ca) (ad := ad)) rfl ?_
              refine z_iload_n hC dX8_goes_117 rfl ?_
              refine z_iload hC dX8_goes_118 rfl ?_
              refine z_iconst hC dX8_goes_120 ?_
              refine z_callS hC [.int (iZ t), .int (iZ (d (11 + k) (n : Int))), .int (iZ 2)] 3 rfl dX8_goes_121 (fun l => m_X8_cargoAt l _ _ _ t (d (11 + k) (n : Int)) 2) qM_X8_44 qT_X8_cargoAt qi_X8 qC_X8_cargoAt (by decide +kernel) (by decide) (by decide) (Nat.le_of_ble_eq_true rfl) (zk_pure ?_) rfl
              refine z_iald hC dX8_goes_124 rl_1 (rd_1 (ca := ca) (ad := ad)) (by omega) (by omega) (by decide) ?_
              refine z_top (b := d (16 + (d (11 + k) (n : Int))) 2) ((rv_cargo (by omega) (by omega)).symm.trans (congrFun (congrFun hd18 _) _)) ?_
              refine z_put hC iA_X8 rfl tyX8 tyX8_ok nmX8 12 (by decide) rfl rfl 12 rfl qF_X8_63 rfl dX8_goes_125 rl_0 (rd_0 (ca := ca) (ad := ad)) (fun _ => rfl) (fun _ => Nat.le_of_ble_eq_true rfl) ?_
              refine z_nm (fun μ24 hμ24 => ?_)
              have hd25 : rv μ24 0 = d0 := by rw [hμ24, rv_c0 (by omega)]; exact hd17
              have hd26 : rv μ24 t = d := by rw [hμ24, rv_c0 (by omega)]; exact hd18
              refine z_aload_n hC dX8_goes_128 rfl ?_
              refine z_aload_n hC dX8_goes_129 rfl ?_
              refine z_get hC iA_X8 rfl 10 (by decide) qF_X8_57 rfl dX8_goes_130 rl_0 (rd_0 (ca := ca) (ad := ad)) rfl ?_
              refine z_top (b := sFree d k (d (11 + k) (n : Int)) ((sPos d k n).1) ((sPos d k n).2.1)) (by rw [hμ24, zup_n (by omega), hμ16a]) ?_
              refine z_put hC iA_X8 rfl tyX8 tyX8_ok nmX8 13 (by decide) rfl rfl 13 rfl qF_X8_66 rfl dX8_goes_133 rl_0 (rd_0 (ca := ca) (ad := ad)) (fun _ => rfl) (fun _ => Nat.le_of_ble_eq_true rfl) ?_
              refine z_nm (fun μ27 hμ27 => ?_)
              have hd28 : rv μ27 0 = d0 := by rw [hμ27, rv_c0 (by omega)]; exact hd25
              have hd29 : rv μ27 t = d := by rw [hμ27, rv_c0 (by omega)]; exact hd26
              refine z_aload_n hC dX8_goes_136 rfl ?_
              refine z_dup hC dX8_goes_137 rfl ?_
              refine z_get hC iA_X8 rfl 14 (by decide) qF_X8_69 rfl dX8_goes_138 rl_0 (rd_0 (ca := ca) (ad := ad)) rfl ?_
              refine z_top (b := (sPos d k n).2.2) (by rw [hμ27, zup_n (by omega), hμ24, zup_n (by omega), hμ16k 14 (by omega), hI.2.2.1]) ?_
              refine z_aload_n hC dX8_goes_141 rfl ?_
              refine z_get hC iA_X8 rfl 11 (by decide) qF_X8_60 rfl dX8_goes_142 rl_0 (rd_0 (ca := ca) (ad := ad)) rfl ?_
              refine z_top (b := sEarn d k (d (11 + k) (n : Int)) ((sPos d k n).1) ((sPos d k n).2.1)) (by rw [hμ27, zup_n (by omega), hμ24, zup_n (by omega), hμ16b]) ?_
              refine z_iadd hC dX8_goes_145 ?_
              refine z_put hC iA_X8 rfl tyX8 tyX8_ok nmX8 14 (by decide) rfl rfl 14 rfl qF_X8_69 rfl dX8_goes_146 rl_0 (rd_0 (ca := ca) (ad := ad)) (fun _ => rfl) (fun _ => Nat.le_of_ble_eq_true rfl) ?_
              refine z_nm (fun μ30 hμ30 => ?_)
              have hd31 : rv μ30 0 = d0 := by rw [hμ30, rv_c0 (by omega)]; exact hd28
              have hd32 : rv μ30 t = d := by rw [hμ30, rv_c0 (by omega)]; exact hd29
              refine z_aload_n hC dX8_goes_149 rfl ?_
              refine z_dup hC dX8_goes_150 rfl ?_
              refine z_get hC iA_X8 rfl 15 (by decide) qF_X8_72 rfl dX8_goes_151 rl_0 (rd_0 (ca := ca) (ad := ad)) rfl ?_
              refine z_top (b := (n : Int)) (by rw [hμ30, zup_n (by omega), hμ27, zup_n (by omega), hμ24, zup_n (by omega), hμ16k 15 (by omega), hI.2.2.2]) ?_
              refine z_iconst hC dX8_goes_154 ?_
              refine z_iadd hC dX8_goes_155 ?_
              refine z_put hC iA_X8 rfl tyX8 tyX8_ok nmX8 15 (by decide) rfl rfl 15 rfl qF_X8_72 rfl dX8_goes_156 rl_0 (rd_0 (ca := ca) (ad := ad)) (fun _ => rfl) (fun _ => Nat.le_of_ble_eq_true rfl) ?_
              refine z_nm (fun μ33 hμ33 => ?_)
              have hd34 : rv μ33 0 = d0 := by rw [hμ33, rv_c0 (by omega)]; exact hd31
              have hd35 : rv μ33 t = d := by rw [hμ33, rv_c0 (by omega)]; exact hd32
              refine z_iinc hC dX8_goes_159 rfl (by decide) rfl ?_
              refine z_goto hC 46 dX8_goes_162 (by decide) ?_
              refine z_weak (L' := [(5, .int (iZ ((n + 1 : Nat) : Int))), (4, .int (iZ 1)), (0, .ref (ad 0)), (1, .int (iZ t)), (2, .int (iZ k)), (3, .int (iZ f))]) ⟨rfl, rfl, rfl, rfl, rfl, rfl, trivial⟩ ?_
              have hfn : rFr μ μ33 := rFr_tr (rFr_tr hf1 hμ16f) ⟨fun c9 hc9 => by rw [hμ33, zup_o hc9, hμ30, zup_o hc9, hμ27, zup_o hc9, hμ24, zup_o hc9], fun i hi => by rw [hμ33, zup_n (by omega), hμ30, zup_n (by omega), hμ27, zup_n (by omega), hμ24, zup_n (by omega)]⟩
              exact ih (n + 1) (by omega) μ33 hfn ⟨by rw [hμ33, zup_n (by omega), hμ30, zup_n (by omega), hμ27, zup_n (by omega), hμ24, zup_s]; try rfl, by rw [hμ33, zup_n (by omega), hμ30, zup_n (by omega), hμ27, zup_s]; try rfl, by rw [hμ33, zup_n (by omega), hμ30, zup_s]; try rfl, by rw [hμ33, zup_s]; try rfl⟩ (fun m hm => by
                rcases Nat.lt_or_ge m n with q | q
                · exact hlt m q
                · have e : m = n := by omega
                  rw [e]; unfold sMarg; omega) (by rw [← hT, sTime_n (by unfold sMarg; omega)])
  refine z_weak (L' := [(5, .int (iZ ((0 : Nat) : Int))), (4, .int (iZ 1)), (0, .ref (ad 0)), (1, .int (iZ t)), (2, .int (iZ k)), (3, .int (iZ f))]) ⟨rfl, rfl, rfl, rfl, rfl, rfl, trivial⟩ ?_
  exact LOOP N 0 (by omega) μ10 ⟨fun c9 hc9 => by rw [hμ10, zup_o hc9, hμ7, zup_o hc9, hμ4, zup_o hc9, hμ1, zup_o hc9], fun i hi => by rw [hμ10, zup_n (by omega), hμ7, zup_n (by omega), hμ4, zup_n (by omega), hμ1, zup_n (by omega)]⟩ ⟨by rw [hμ10, zup_n (by omega), hμ7, zup_n (by omega), hμ4, zup_n (by omega), hμ1, zup_s]; try rfl, by rw [hμ10, zup_n (by omega), hμ7, zup_n (by omega), hμ4, zup_s]; try rfl, by rw [hμ10, zup_n (by omega), hμ7, zup_s]; try rfl, by rw [hμ10, zup_s]; try rfl⟩ (fun m hm => absurd hm (by omega)) rfl
