set_option maxHeartbeats 4000000 in
set_option maxRecDepth 100000 in
/-- doDelay(k, n) -/
theorem m_X8_doDelay (l : Launch) (G : va_G) (ca : Nat → ClassId) (ad : Int → Nat) (A : Nat → Prop) (μ : zM) (d : zM) (hd : rv μ 0 = d) (k n : Int) (hk : -2147483648 ≤ k ∧ k ≤ 2147483647) (hn : -2147483648 ≤ n ∧ n ≤ 2147483647) (hI : zInv d) : zMet l (rω G ca ad) A yX8_doDelay cX8_doDelay 5 (some .int) 6 143 [.ref (ad 0), .int (iZ k), .int (iZ n)] μ (zpI (.int (iZ (opDelay d k n).1)) (fun μ' => rv μ' 0 = (opDelay d k n).2 ∧ rSl μ μ')) := by
  refine zMet_of (by decide) (Nat.le_of_ble_eq_true rfl) (fun Γ hC => ?_)
  show Z Γ _ μ 0 [(0, .ref (ad 0)), (1, .int (iZ k)), (2, .int (iZ n))] []
  obtain ⟨hB, hf5, hf6, hIF, hIS, hII, hIL⟩ := id hI
  obtain ⟨hN0, hP, hB3, hB4⟩ := id hB
  obtain ⟨hN1, hN2⟩ := id hN0
  refine z_aload_n hC dX8_doDelay_0 rfl ?_
  refine z_iload_n hC dX8_doDelay_1 rfl ?_
  refine z_callV hC [.int (iZ k)] 1 rfl dX8_doDelay_2 (fun l => m_X8_isShip l G ca ad _ μ d hd k (by omega) (by omega)) qM_X8_91 qI_X8_isShip qS_X8_isShip qi_X8 qC_X8_isShip (by decide +kernel) (by decide) (by decide) rl_0 (rd_0 (ca := ca) (ad := ad)) rfl (Nat.le_of_ble_eq_true rfl) (zk_pure ?_) rfl
  refine z_ifb_eq hC 18 dX8_doDelay_5 (by decide) (fun c_1 => ?_) (fun c_1 => ?_)
  · refine z_ldc hC (-1000001) qc_X8_24 rfl dX8_doDelay_18 ?_
    have e9 : opDelay d k n = ((-1000001), d) := by unfold opDelay; rw [if_pos (by omega)]
    exact z_iret hC dX8_doDelay_20 ⟨by rw [e9], by rw [e9]; exact hd, rSl_rf _⟩
  · refine z_iload_n hC dX8_doDelay_8 rfl ?_
    refine z_iconst hC dX8_doDelay_9 ?_
    refine z_bipush hC dX8_doDelay_10 (by decide) ?_
    refine z_callS hC [.int (iZ n), .int (iZ 1), .int (iZ 99)] 3 rfl dX8_doDelay_12 (fun l => m_X8_in l _ _ _ n 1 99 (by omega) (by omega) (by omega)) qM_X8_29 qT_X8_in qi_X8 qC_X8_in (by decide +kernel) (by decide) (by decide) (Nat.le_of_ble_eq_true rfl) (zk_pure ?_) rfl
    refine z_ifb_ne hC 21 dX8_doDelay_15 (by decide) (fun c_2 => ?_) (fun c_2 => ?_)
    · obtain ⟨hs0, hs1, hs2, hs3, hs4, hs6⟩ := hB3 k (by omega)
      refine z_aload_n hC dX8_doDelay_21 rfl ?_
      refine z_get hC iA_X8 rfl 0 (by decide) qF_X8_7 rfl dX8_doDelay_22 rl_0 (rd_0 (ca := ca) (ad := ad)) rfl ?_
      refine z_iconst hC dX8_doDelay_25 ?_
      refine z_iload_n hC dX8_doDelay_26 rfl ?_
      refine z_iconst hC dX8_doDelay_27 ?_
      refine z_callS hC [.int (iZ 0), .int (iZ k), .int (iZ 4)] 3 rfl dX8_doDelay_28 (fun l => m_X8_shipAt l _ _ _ 0 k 4) qM_X8_37 qT_X8_shipAt qi_X8 qC_X8_shipAt (by decide +kernel) (by decide) (by decide) (Nat.le_of_ble_eq_true rfl) (zk_pure ?_) rfl
      refine z_iald hC dX8_doDelay_31 rl_1 (rd_1 (ca := ca) (ad := ad)) (by omega) (by omega) (by decide) ?_
      refine z_top (b := d (6 + k) 4) ((rv_ship (by omega) (by omega)).symm.trans (congrFun (congrFun hd _) _)) ?_
      refine z_iload_n hC dX8_doDelay_32 rfl ?_
      refine z_iadd hC dX8_doDelay_33 ?_
      refine z_sipush hC dX8_doDelay_34 (by decide) ?_
      refine z_icmp_le hC 43 dX8_doDelay_37 (by decide) (by omega) (by omega) (fun c_3 => ?_) (fun c_3 => ?_)
      · refine z_aload_n hC dX8_doDelay_43 rfl ?_
        refine z_get hC iA_X8 rfl 0 (by decide) qF_X8_7 rfl dX8_doDelay_44 rl_0 (rd_0 (ca := ca) (ad := ad)) rfl ?_
        refine z_iconst hC dX8_doDelay_47 ?_
        refine z_iload_n hC dX8_doDelay_48 rfl ?_
        refine z_iconst hC dX8_doDelay_49 ?_
        refine z_callS hC [.int (iZ 0), .int (iZ k), .int (iZ 4)] 3 rfl dX8_doDelay_50 (fun l => m_X8_shipAt l _ _ _ 0 k 4) qM_X8_37 qT_X8_shipAt qi_X8 qC_X8_shipAt (by decide +kernel) (by decide) (by decide) (Nat.le_of_ble_eq_true rfl) (zk_pure ?_) rfl
        refine z_dup2 hC dX8_doDelay_53 rfl rfl ?_
        refine z_iald hC dX8_doDelay_54 rl_1 (rd_1 (ca := ca) (ad := ad)) (by omega) (by omega) (by decide) ?_
        refine z_top (b := d (6 + k) 4) ((rv_ship (by omega) (by omega)).symm.trans (congrFun (congrFun hd _) _)) ?_
        refine z_iload_n hC dX8_doDelay_55 rfl ?_
        refine z_iadd hC dX8_doDelay_56 ?_
        refine z_iast hC dX8_doDelay_57 rl_1 (rd_1 (ca := ca) (ad := ad)) (by omega) (by omega) (by decide) ?_
        refine z_nm (fun μ4 hμ4 => ?_)
        obtain ⟨d6, hd6⟩ : ∃ q9 : zM, q9 = zup d (6 + k) 4 ((d (6 + k) 4) + n) := ⟨_, rfl⟩
        have hd5 : rv μ4 0 = d6 := by rw [hμ4, rv_up (t := 0) (o := (6 + k)) (i := 4) (x := (190 * 0 + 17 + 18 * k + 4)) (by unfold zrel; omega) (by rw [rp_ship (by omega)]; omega), hd, hd6]
        refine z_aload_n hC dX8_doDelay_58 rfl ?_
        refine z_iconst hC dX8_doDelay_59 ?_
        refine z_iload_n hC dX8_doDelay_60 rfl ?_
        have hL : d6 = sLater d k n := hd6
        have hB9 : bD d6 := by rw [hL]; exact bD_later hB (by omega) (by omega) (by omega)
        have eo : ∀ o i, (o ≠ 6 + k ∨ i ≠ 4) → d6 o i = d o i := fun o i q => by rw [hL]; exact zup_n q
        have hS9 : d6 0 4 = d 0 4 := eo _ _ (by omega)
        have hC9 : d6 0 5 = d 0 5 := eo _ _ (by omega)
        have hf9 : d6 (6 + k) 6 = d (6 + k) 6 := eo _ _ (by omega)
        have hNn : sNum d6 k = sNum d k := by unfold sNum; rw [hf9]
        have hNe := sNum_e (d := d) (k := k) (by omega)
        have hI9 := sInT_b d6 k
        have hP9 := hB9.2.1
        have hF9 : fOk d6 k (sNum d6 k) := fun m hm => by rw [eo (11 + k) _ (by omega), hC9]; exact hIF k (by omega) _ (by omega)
        refine z_callV hC [.int (iZ 0), .int (iZ k)] 2 rfl dX8_doDelay_61 (fun l => m_X8_goesAll l G ca ad _ μ4 d6 hd5 0 (by omega) d6 hd5 (fun _ => ⟨rfl, rfl⟩) hP9 k hB9 (by omega) hF9) qM_X8_87 qI_X8_goesAll qS_X8_goesAll qi_X8 qC_X8_goesAll (by decide +kernel) (by decide) (by decide) rl_0 (rd_0 (ca := ca) (ad := ad)) rfl (Nat.le_of_ble_eq_true rfl) (zk_void (fun μ7 hμ7 => ?_)) rfl
        obtain ⟨hμ7f, hμ7g⟩ := id hμ7
        obtain ⟨hμ712, hμ713, hμ714, hμ715⟩ := hμ7g
        have hd8 : rv μ7 0 = d6 := by rw [rv_fr hμ7f]; exact hd5
        refine z_aload_n hC dX8_doDelay_64 rfl ?_
        refine z_get hC iA_X8 rfl 0 (by decide) qF_X8_7 rfl dX8_doDelay_65 rl_0 (rd_0 (ca := ca) (ad := ad)) rfl ?_
        refine z_iconst hC dX8_doDelay_68 ?_
        refine z_iload_n hC dX8_doDelay_69 rfl ?_
        refine z_bipush hC dX8_doDelay_70 (by decide) ?_
        refine z_callS hC [.int (iZ 0), .int (iZ k), .int (iZ 6)] 3 rfl dX8_doDelay_72 (fun l => m_X8_shipAt l _ _ _ 0 k 6) qM_X8_37 qT_X8_shipAt qi_X8 qC_X8_shipAt (by decide +kernel) (by decide) (by decide) (Nat.le_of_ble_eq_true rfl) (zk_pure ?_) rfl
        refine z_iald hC dX8_doDelay_75 rl_1 (rd_1 (ca := ca) (ad := ad)) (by omega) (by omega) (by decide) ?_
        refine z_top (b := d6 (6 + k) 6) ((rv_ship (by omega) (by omega)).symm.trans (congrFun (congrFun hd8 _) _)) ?_
        refine z_top (b := d (6 + k) 6) (by rw [hd6, zup_n (by omega)]) ?_
        refine z_aload_n hC dX8_doDelay_76 rfl ?_
        refine z_get hC iA_X8 rfl 15 (by decide) qF_X8_72 rfl dX8_doDelay_77 rl_0 (rd_0 (ca := ca) (ad := ad)) rfl ?_
        refine z_top (b := ((sInT d6 k : Nat) : Int)) (by rw [hμ715]) ?_
        refine z_isub hC dX8_doDelay_80 ?_
        refine z_istore_n hC dX8_doDelay_81 (by decide) rfl ?_
        refine z_aload_n hC dX8_doDelay_82 rfl ?_
        refine z_get hC iA_X8 rfl 15 (by decide) qF_X8_72 rfl dX8_doDelay_83 rl_0 (rd_0 (ca := ca) (ad := ad)) rfl ?_
        refine z_top (b := ((sInT d6 k : Nat) : Int)) (by rw [hμ715]) ?_
        refine z_istore hC dX8_doDelay_86 (by decide) rfl ?_
        obtain ⟨g, hg⟩ : ∃ g : Int, g = d (6 + k) 6 - ((sInT d6 k : Nat) : Int) := ⟨_, rfl⟩
        rw [← hg]
        have hgb : g = ((sNum d k - sInT d6 k : Nat) : Int) := by omega
        have LOOP : ∀ (r n9 : Nat), n9 + r = sNum d k - sInT d6 k → ∀ (μ1 d1 : zM) (x : Int), rv μ1 0 = d1 → rF1 0 μ7 μ1 → (∀ o i, o < 16 → d1 o i = d6 o i) → x = ((sInT d6 k : Nat) : Int) + (n9 : Int) → sDrop k 2 r x d1 = sDrop k 2 (sNum d k - sInT d6 k) (((sInT d6 k : Nat) : Int)) d6 → Z Γ (rω G ca ad) μ1 88 [(4, .int (iZ x)), (0, .ref (ad 0)), (1, .int (iZ k)), (2, .int (iZ n)), (3, .int (iZ g))] [] := by
          intro r
          induction r with
          | zero =>
            intro n9 hn μ1 d1 x hd1 hfr he hx hD
            have hx1 : d1 (6 + k) 6 = d (6 + k) 6 := by rw [he _ _ (by omega)]; exact hf9
            refine z_iload hC dX8_doDelay_88 rfl ?_
            refine z_aload_n hC dX8_doDelay_90 rfl ?_
            refine z_get hC iA_X8 rfl 0 (by decide) qF_X8_7 rfl dX8_doDelay_91 rl_0 (rd_0 (ca := ca) (ad := ad)) rfl ?_
            refine z_iconst hC dX8_doDelay_94 ?_
            refine z_iload_n hC dX8_doDelay_95 rfl ?_
            refine z_bipush hC dX8_doDelay_96 (by decide) ?_
            refine z_callS hC [.int (iZ 0), .int (iZ k), .int (iZ 6)] 3 rfl dX8_doDelay_98 (fun l => m_X8_shipAt l _ _ _ 0 k 6) qM_X8_37 qT_X8_shipAt qi_X8 qC_X8_shipAt (by decide +kernel) (by decide) (by decide) (Nat.le_of_ble_eq_true rfl) (zk_pure ?_) rfl
            refine z_iald hC dX8_doDelay_101 rl_1 (rd_1 (ca := ca) (ad := ad)) (by omega) (by omega) (by decide) ?_
            refine z_top (b := d1 (6 + k) 6) ((rv_ship (by omega) (by omega)).symm.trans (congrFun (congrFun hd1 _) _)) ?_
            refine z_icmp_ge hC 138 dX8_doDelay_102 (by decide) (by omega) (by omega) (fun c_9 => ?_) (fun c_9 => ?_)
            · refine z_aload_n hC dX8_doDelay_138 rfl ?_
              refine z_get hC iA_X8 rfl 0 (by decide) qF_X8_7 rfl dX8_doDelay_139 rl_0 (rd_0 (ca := ca) (ad := ad)) rfl ?_
              refine z_iconst hC dX8_doDelay_142 ?_
              refine z_iload_n hC dX8_doDelay_143 rfl ?_
              refine z_bipush hC dX8_doDelay_144 (by decide) ?_
              refine z_callS hC [.int (iZ 0), .int (iZ k), .int (iZ 6)] 3 rfl dX8_doDelay_146 (fun l => m_X8_shipAt l _ _ _ 0 k 6) qM_X8_37 qT_X8_shipAt qi_X8 qC_X8_shipAt (by decide +kernel) (by decide) (by decide) (Nat.le_of_ble_eq_true rfl) (zk_pure ?_) rfl
              refine z_aload_n hC dX8_doDelay_149 rfl ?_
              refine z_get hC iA_X8 rfl 15 (by decide) qF_X8_72 rfl dX8_doDelay_150 rl_0 (rd_0 (ca := ca) (ad := ad)) rfl ?_
              refine z_top (b := ((sInT d6 k : Nat) : Int)) (by rw [hfr.1 0 (by omega), hμ715]) ?_
              refine z_iast hC dX8_doDelay_153 rl_1 (rd_1 (ca := ca) (ad := ad)) (by omega) (by omega) (by decide) ?_
              refine z_nm (fun μ10 hμ10 => ?_)
              obtain ⟨d12, hd12⟩ : ∃ q9 : zM, q9 = zup d1 (6 + k) 6 ((sInT d6 k : Nat) : Int) := ⟨_, rfl⟩
              have hd11 : rv μ10 0 = d12 := by rw [hμ10, rv_up (t := 0) (o := (6 + k)) (i := 6) (x := (190 * 0 + 17 + 18 * k + 6)) (by unfold zrel; omega) (by rw [rp_ship (by omega)]; omega), hd1, hd12]
              refine z_aload_n hC dX8_doDelay_154 rfl ?_
              refine z_get hC iA_X8 rfl 0 (by decide) qF_X8_7 rfl dX8_doDelay_155 rl_0 (rd_0 (ca := ca) (ad := ad)) rfl ?_
              refine z_sipush hC dX8_doDelay_158 (by decide) ?_
              refine z_dup2 hC dX8_doDelay_161 rfl rfl ?_
              refine z_iald hC dX8_doDelay_162 rl_1 (rd_1 (ca := ca) (ad := ad)) (by omega) (by omega) (by decide) ?_
              refine z_top (b := d12 0 6) ((rv_can).symm.trans (congrFun (congrFun hd11 _) _)) ?_
              refine z_top (b := d1 0 6) (by rw [hd12, zup_n (by omega)]) ?_
              refine z_top (b := d 0 6) (by rw [he 0 6 (by omega), eo 0 6 (by omega)]) ?_
              refine z_iload_n hC dX8_doDelay_163 rfl ?_
              refine z_iadd hC dX8_doDelay_164 ?_
              refine z_iast hC dX8_doDelay_165 rl_1 (rd_1 (ca := ca) (ad := ad)) (by omega) (by omega) (by decide) ?_
              refine z_nm (fun μ13 hμ13 => ?_)
              obtain ⟨d15, hd15⟩ : ∃ q9 : zM, q9 = zup d12 0 6 ((d 0 6) + g) := ⟨_, rfl⟩
              have hd14 : rv μ13 0 = d15 := by rw [hμ13, rv_up (t := 0) (o := 0) (i := 6) (x := 188) (by unfold zrel; omega) (rfl), hd11, hd15]
              refine z_iload_n hC dX8_doDelay_166 rfl ?_
              have hD1 : d1 = sDrop k 2 (sNum d k - sInT d6 k) ((sInT d6 k : Nat) : Int) d6 := hD
              have e9 : opDelay d k n = (g, zup (zup d1 (6 + k) 6 ((sInT d6 k : Nat) : Int)) 0 6 ((d 0 6) + g)) := by
                unfold opDelay
                rw [if_neg (by omega), if_neg (by omega), ← hL, ← hg, ← hD1]
              have hsl : rSl μ μ13 := rSl_tr (rSl_f1 (by rw [hμ4]; exact rF1_up (rF1_rf 0 _) (by omega))) (rSl_tr (rSl_fr hμ7f) (rSl_tr (rSl_f1 hfr) (rSl_f1 (by rw [hμ13, hμ10]; exact rF1_up (rF1_up (rF1_rf 0 _) (by omega)) (by omega)))))
              exact z_iret hC dX8_doDelay_167 ⟨by rw [e9], by rw [e9, hd14, hd15, hd12], hsl⟩
            · exfalso; omega
          | succ r ih =>
            intro n9 hn μ1 d1 x hd1 hfr he hx hD
            have hx1 : d1 (6 + k) 6 = d (6 + k) 6 := by rw [he _ _ (by omega)]; exact hf9
            have hx9 : 0 ≤ d1 (11 + k) x ∧ d1 (11 + k) x < d 0 5 := by rw [he _ _ (by omega), eo _ _ (by omega)]; exact hIF k (by omega) x (by omega)
            refine z_iload hC dX8_doDelay_88 rfl ?_
            refine z_aload_n hC dX8_doDelay_90 rfl ?_
            refine z_get hC iA_X8 rfl 0 (by decide) qF_X8_7 rfl dX8_doDelay_91 rl_0 (rd_0 (ca := ca) (ad := ad)) rfl ?_
            refine z_iconst hC dX8_doDelay_94 ?_
            refine z_iload_n hC dX8_doDelay_95 rfl ?_
            refine z_bipush hC dX8_doDelay_96 (by decide) ?_
            refine z_callS hC [.int (iZ 0), .int (iZ k), .int (iZ 6)] 3 rfl dX8_doDelay_98 (fun l => m_X8_shipAt l _ _ _ 0 k 6) qM_X8_37 qT_X8_shipAt qi_X8 qC_X8_shipAt (by decide +kernel) (by decide) (by decide) (Nat.le_of_ble_eq_true rfl) (zk_pure ?_) rfl
            refine z_iald hC dX8_doDelay_101 rl_1 (rd_1 (ca := ca) (ad := ad)) (by omega) (by omega) (by decide) ?_
            refine z_top (b := d1 (6 + k) 6) ((rv_ship (by omega) (by omega)).symm.trans (congrFun (congrFun hd1 _) _)) ?_
            refine z_icmp_ge hC 138 dX8_doDelay_102 (by decide) (by omega) (by omega) (fun c_16 => ?_) (fun c_16 => ?_)
            · exfalso; omega
            · refine z_aload_n hC dX8_doDelay_105 rfl ?_
              refine z_get hC iA_X8 rfl 0 (by decide) qF_X8_7 rfl dX8_doDelay_106 rl_0 (rd_0 (ca := ca) (ad := ad)) rfl ?_
              refine z_iconst hC dX8_doDelay_109 ?_
              refine z_aload_n hC dX8_doDelay_110 rfl ?_
              refine z_get hC iA_X8 rfl 0 (by decide) qF_X8_7 rfl dX8_doDelay_111 rl_0 (rd_0 (ca := ca) (ad := ad)) rfl ?_
              refine z_iconst hC dX8_doDelay_114 ?_
              refine z_iload_n hC dX8_doDelay_115 rfl ?_
              refine z_bipush hC dX8_doDelay_116 (by decide) ?_
              refine z_iload hC dX8_doDelay_118 rfl ?_
              refine z_iadd hC dX8_doDelay_120 ?_
              refine z_callS hC [.int (iZ 0), .int (iZ k), .int (iZ (7 + x))] 3 rfl dX8_doDelay_121 (fun l => m_X8_shipAt l _ _ _ 0 k (7 + x)) qM_X8_37 qT_X8_shipAt qi_X8 qC_X8_shipAt (by decide +kernel) (by decide) (by decide) (Nat.le_of_ble_eq_true rfl) (zk_pure ?_) rfl
              refine z_iald hC dX8_doDelay_124 rl_1 (rd_1 (ca := ca) (ad := ad)) (by omega) (by omega) (by decide) ?_
              refine z_top (b := d1 (11 + k) x) ((rv_fx (by omega) (by omega)).symm.trans (congrFun (congrFun hd1 _) _)) ?_
              refine z_bipush hC dX8_doDelay_125 (by decide) ?_
              refine z_callS hC [.int (iZ 0), .int (iZ (d1 (11 + k) x)), .int (iZ 6)] 3 rfl dX8_doDelay_127 (fun l => m_X8_cargoAt l _ _ _ 0 (d1 (11 + k) x) 6) qM_X8_44 qT_X8_cargoAt qi_X8 qC_X8_cargoAt (by decide +kernel) (by decide) (by decide) (Nat.le_of_ble_eq_true rfl) (zk_pure ?_) rfl
              refine z_iconst hC dX8_doDelay_130 ?_
              refine z_iast hC dX8_doDelay_131 rl_1 (rd_1 (ca := ca) (ad := ad)) (by omega) (by omega) (by decide) ?_
              refine z_nm (fun μ17 hμ17 => ?_)
              obtain ⟨d19, hd19⟩ : ∃ q9 : zM, q9 = zup d1 (16 + (d1 (11 + k) x)) 6 2 := ⟨_, rfl⟩
              have hd18 : rv μ17 0 = d19 := by rw [hμ17, rv_up (t := 0) (o := (16 + (d1 (11 + k) x))) (i := 6) (x := (190 * 0 + 108 + 8 * (d1 (11 + k) x) + 6)) (by unfold zrel; omega) (by rw [rp_cargo (by omega)]; omega), hd1, hd19]
              refine z_iinc hC dX8_doDelay_132 rfl (by decide) rfl ?_
              refine z_goto hC 88 dX8_doDelay_135 (by decide) ?_
              refine z_weak (L' := [(4, .int (iZ (x + 1))), (0, .ref (ad 0)), (1, .int (iZ k)), (2, .int (iZ n)), (3, .int (iZ g))]) ⟨rfl, rfl, rfl, rfl, rfl, trivial⟩ ?_
              exact ih (n9 + 1) (by omega) μ17 d19 (x + 1) hd18 (by rw [hμ17]; exact rF1_up hfr (by omega)) (fun o i ho => by rw [hd19, zup_n (by omega)]; exact he o i ho) (by omega) (by rw [← hD, hd19]; rfl)
        refine z_weak (L' := [(4, .int (iZ ((sInT d6 k : Nat) : Int))), (0, .ref (ad 0)), (1, .int (iZ k)), (2, .int (iZ n)), (3, .int (iZ g))]) ⟨rfl, rfl, rfl, rfl, rfl, trivial⟩ ?_
        exact LOOP (sNum d k - sInT d6 k) 0 (by omega) μ7 d6 ((sInT d6 k : Nat) : Int) hd8 (rF1_rf 0 _) (fun _ _ _ => rfl) (by omega) rfl
      · refine z_ldc hC (-1000003) qc_X8_90 rfl dX8_doDelay_40 ?_
        have e9 : opDelay d k n = ((-1000003), d) := by unfold opDelay; rw [if_neg (by omega), if_pos (by omega)]
        exact z_iret hC dX8_doDelay_42 ⟨by rw [e9], by rw [e9]; exact hd, rSl_rf _⟩
    · refine z_ldc hC (-1000001) qc_X8_24 rfl dX8_doDelay_18 ?_
      have e9 : opDelay d k n = ((-1000001), d) := by unfold opDelay; rw [if_pos (by omega)]
      exact z_iret hC dX8_doDelay_20 ⟨by rw [e9], by rw [e9]; exact hd, rSl_rf _⟩

set_option maxHeartbeats 4000000 in
set_option maxRecDepth 100000 in
/-- delay -/
theorem m_X8_delay (l : Launch) (G : va_G) (ca : Nat → ClassId) (ad : Int → Nat) (A : Nat → Prop) (μ : zM) (d : zM) (n : Int) (h : Int → zM) (L : Int) (t : Int → Int) (hX : rSt μ d n h L t) (hI : zInv d) (k w : Int) (hk : -2147483648 ≤ k ∧ k ≤ 2147483647) (hw : -2147483648 ≤ w ∧ w ≤ 2147483647) (hr : (-2147483648 ≤ (opDelay d k w).1 ∧ (opDelay d k w).1 ≤ 2147483647) ∧ -1000004 ≤ (opDelay d k w).1 ∧ ((opDelay d k w).1 ≤ -1000001 → (opDelay d k w).2 = d)) : zMet l (rω G ca ad) A yX8_delay cX8_delay 3 (some .int) 7 167 [.ref (ad 0), .int (iZ k), .int (iZ w)] μ (zpI (.int (iZ (opDelay d k w).1)) (fun μ' => rStK μ' (sKeep (opDelay d k w) d n h) L t)) := by
  refine zMet_of (by decide) (Nat.le_of_ble_eq_true rfl) (fun Γ hC => ?_)
  show Z Γ _ μ 0 [(0, .ref (ad 0)), (1, .int (iZ k)), (2, .int (iZ w))] []
  refine z_aload_n hC dX8_delay_0 rfl ?_
  refine z_callV hC [] 0 rfl dX8_delay_1 (fun l => m_X8_keeps l G ca ad _ μ) qM_X8_109 qI_X8_keeps qS_X8_keeps qi_X8 qC_X8_keeps (by decide +kernel) (by decide) (by decide) rl_0 (rd_0 (ca := ca) (ad := ad)) rfl (Nat.le_of_ble_eq_true rfl) (zk_void (fun μ1 hμ1 => ?_)) rfl
  obtain ⟨hμ1v, hμ1f⟩ := id hμ1
  have hk0 : rv μ1 0 = d := (rF1_v hμ1f (by omega)).trans hX.1
  have hk6 : rv μ1 6 = d := hμ1v.trans hX.1
  refine z_aload_n hC dX8_delay_4 rfl ?_
  refine z_aload_n hC dX8_delay_5 rfl ?_
  refine z_iload_n hC dX8_delay_6 rfl ?_
  refine z_iload_n hC dX8_delay_7 rfl ?_
  refine z_callV hC [.int (iZ k), .int (iZ w)] 2 rfl dX8_delay_8 (fun l => m_X8_doDelay l G ca ad _ μ1 d hk0 k w (by omega) (by omega) hI) qM_X8_126 qI_X8_doDelay qS_X8_doDelay qi_X8 qC_X8_doDelay (by decide +kernel) (by decide) (by decide) rl_0 (rd_0 (ca := ca) (ad := ad)) rfl (Nat.le_of_ble_eq_true rfl) (zk_int (fun μ2 hμ2 => ?_)) rfl
  obtain ⟨hμ2v, hμ2l⟩ := id hμ2
  have hHi : rHi μ2 n h := rHi_fr hX.2.1 (by rw [hμ2l.2.1 1 (by omega), hμ1f.1 0 (by omega)]) (fun x hx => by rw [hμ2l.2.2 x (by omega), hμ1f.2 x (by omega)])
  have hv6 : rv μ2 6 = d := (rv_eq (fun o i hr => hμ2l.2.2 _ (by have := rp_b hr; omega))).trans hk6
  refine z_callV hC [.int (iZ ((opDelay d k w).1))] 1 rfl dX8_delay_11 (fun l => m_X8_acted l G ca ad _ μ2 (opDelay d k w).1 hr.1 n h hHi) qM_X8_112 qI_X8_acted qS_X8_acted qi_X8 qC_X8_acted (by decide +kernel) (by decide) (by decide) rl_0 (rd_0 (ca := ca) (ad := ad)) rfl (Nat.le_of_ble_eq_true rfl) (zk_int (fun μ3 hμ3 => ?_)) rfl
  refine z_iret hC dX8_delay_14 ⟨rfl, ?_⟩
  unfold rAct at hμ3
  unfold rStK sKeep
  by_cases q9 : -1000001 < (opDelay d k w).1
  · rw [if_pos q9] at hμ3
    obtain ⟨a1, a2, a3, a4⟩ := hμ3
    rw [if_neg (by omega)]
    rw [hv6] at a1
    exact ⟨a2.trans hμ2v, a1, by rw [a4 3 (by omega), hμ2l.2.1 3 (by omega), hμ1f.1 0 (by omega)]; exact hX.2.2.1, hX.2.2.2.1, fun i hi => by rw [a3 2 (by omega), hμ2l.1 2 (by omega), hμ1f.1 2 (by omega)]; exact hX.2.2.2.2 i hi⟩
  · rw [if_neg q9] at hμ3
    rw [hμ3, if_pos (by omega)]
    exact ⟨hμ2v.trans (hr.2.2 (by omega)), hHi, by rw [hμ2l.2.1 3 (by omega), hμ1f.1 0 (by omega)]; exact hX.2.2.1, hX.2.2.2.1, fun i hi => by rw [hμ2l.1 2 (by omega), hμ1f.1 2 (by omega)]; exact hX.2.2.2.2 i hi⟩

set_option maxHeartbeats 4000000 in
set_option maxRecDepth 100000 in
/-- port -/
theorem m_X8_port (l : Launch) (G : va_G) (ca : Nat → ClassId) (ad : Int → Nat) (A : Nat → Prop) (μ : zM) (d : zM) (n : Int) (h : Int → zM) (L : Int) (t : Int → Int) (hX : rSt μ d n h L t) (hI : zInv d) (p x y : Int) (hp : -2147483648 ≤ p ∧ p ≤ 2147483647) (hx : -2147483648 ≤ x ∧ x ≤ 2147483647) (hy : -2147483648 ≤ y ∧ y ≤ 2147483647) (hr : (-2147483648 ≤ (opPort d p x y).1 ∧ (opPort d p x y).1 ≤ 2147483647) ∧ -1000004 ≤ (opPort d p x y).1 ∧ ((opPort d p x y).1 ≤ -1000001 → (opPort d p x y).2 = d)) : zMet l (rω G ca ad) A yX8_port cX8_port 5 (some .int) 2 45 [.ref (ad 0), .int (iZ p), .int (iZ x), .int (iZ y)] μ (zpI (.int (iZ (opPort d p x y).1)) (fun μ' => rStK μ' (sKeep (opPort d p x y) d n h) L t)) := by
  refine zMet_of (by decide) (Nat.le_of_ble_eq_true rfl) (fun Γ hC => ?_)
  show Z Γ _ μ 0 [(0, .ref (ad 0)), (1, .int (iZ p)), (2, .int (iZ x)), (3, .int (iZ y))] []
  obtain ⟨hB, hf5, hf6, hIF, hIS, hII, hIL⟩ := id hI
  obtain ⟨hN, hP, hB3, hB4⟩ := id hB
  obtain ⟨hN1, hN2⟩ := id hN
  have hcn := sCnt_b d 1 (d 0 5).toNat
  refine z_iload_n hC dX8_port_0 rfl ?_
  refine z_iconst hC dX8_port_1 ?_
  refine z_bipush hC dX8_port_2 (by decide) ?_
  refine z_callS hC [.int (iZ p), .int (iZ 0), .int (iZ 7)] 3 rfl dX8_port_4 (fun l => m_X8_in l _ _ _ p 0 7 (by omega) (by omega) (by omega)) qM_X8_29 qT_X8_in qi_X8 qC_X8_in (by decide +kernel) (by decide) (by decide) (Nat.le_of_ble_eq_true rfl) (zk_pure ?_) rfl
  refine z_ifb_eq hC 30 dX8_port_7 (by decide) (fun c_1 => ?_) (fun c_1 => ?_)
  · refine z_ldc hC (-1000001) qc_X8_24 rfl dX8_port_30 ?_
    have e9 : opPort d p x y = ((-1000001), d) := by unfold opPort; rw [if_pos (by omega)]
    exact z_iret hC dX8_port_32 ⟨by rw [e9], by rw [e9]; unfold rStK sKeep; rw [if_pos (by omega)]; exact hX⟩
  · refine z_iload_n hC dX8_port_10 rfl ?_
    refine z_iconst hC dX8_port_11 ?_
    refine z_bipush hC dX8_port_12 (by decide) ?_
    refine z_callS hC [.int (iZ x), .int (iZ 0), .int (iZ 99)] 3 rfl dX8_port_14 (fun l => m_X8_in l _ _ _ x 0 99 (by omega) (by omega) (by omega)) qM_X8_29 qT_X8_in qi_X8 qC_X8_in (by decide +kernel) (by decide) (by decide) (Nat.le_of_ble_eq_true rfl) (zk_pure ?_) rfl
    refine z_ifb_eq hC 30 dX8_port_17 (by decide) (fun c_2 => ?_) (fun c_2 => ?_)
    · refine z_ldc hC (-1000001) qc_X8_24 rfl dX8_port_30 ?_
      have e9 : opPort d p x y = ((-1000001), d) := by unfold opPort; rw [if_pos (by omega)]
      exact z_iret hC dX8_port_32 ⟨by rw [e9], by rw [e9]; unfold rStK sKeep; rw [if_pos (by omega)]; exact hX⟩
    · refine z_iload_n hC dX8_port_20 rfl ?_
      refine z_iconst hC dX8_port_21 ?_
      refine z_bipush hC dX8_port_22 (by decide) ?_
      refine z_callS hC [.int (iZ y), .int (iZ 0), .int (iZ 99)] 3 rfl dX8_port_24 (fun l => m_X8_in l _ _ _ y 0 99 (by omega) (by omega) (by omega)) qM_X8_29 qT_X8_in qi_X8 qC_X8_in (by decide +kernel) (by decide) (by decide) (Nat.le_of_ble_eq_true rfl) (zk_pure ?_) rfl
      refine z_ifb_ne hC 33 dX8_port_27 (by decide) (fun c_3 => ?_) (fun c_3 => ?_)
      · refine z_aload_n hC dX8_port_33 rfl ?_
        refine z_iconst hC dX8_port_34 ?_
        refine z_callV hC [.int (iZ 1)] 1 rfl dX8_port_35 (fun l => m_X8_cargoes l G ca ad _ μ d hX.1 1 (by omega) (d 0 5).toNat (by omega) hB) qM_X8_105 qI_X8_cargoes qS_X8_cargoes qi_X8 qC_X8_cargoes (by decide +kernel) (by decide) (by decide) rl_0 (rd_0 (ca := ca) (ad := ad)) rfl (Nat.le_of_ble_eq_true rfl) (zk_pure ?_) rfl
        refine z_if_le hC 44 dX8_port_38 (by decide) (by omega) (fun c_4 => ?_) (fun c_4 => ?_)
        · have hpp := hP p (by omega)
          refine z_aload_n hC dX8_port_44 rfl ?_
          refine z_callV hC [] 0 rfl dX8_port_45 (fun l => m_X8_keeps l G ca ad _ μ) qM_X8_109 qI_X8_keeps qS_X8_keeps qi_X8 qC_X8_keeps (by decide +kernel) (by decide) (by decide) rl_0 (rd_0 (ca := ca) (ad := ad)) rfl (Nat.le_of_ble_eq_true rfl) (zk_void (fun μ5 hμ5 => ?_)) rfl
          obtain ⟨hμ5v, hμ5f⟩ := id hμ5
          have hk0 : rv μ5 0 = d := (rF1_v hμ5f (by omega)).trans hX.1
          have hk6 : rv μ5 6 = d := hμ5v.trans hX.1
          refine z_bipush hC dX8_port_48 (by decide) ?_
          refine z_aload_n hC dX8_port_50 rfl ?_
          refine z_get hC iA_X8 rfl 0 (by decide) qF_X8_7 rfl dX8_port_51 rl_0 (rd_0 (ca := ca) (ad := ad)) rfl ?_
          refine z_iconst hC dX8_port_54 ?_
          refine z_iconst hC dX8_port_55 ?_
          refine z_iload_n hC dX8_port_56 rfl ?_
          refine z_imul hC dX8_port_57 ?_
          refine z_iadd hC dX8_port_58 ?_
          refine z_iald hC dX8_port_59 rl_1 (rd_1 (ca := ca) (ad := ad)) (by omega) (by omega) (by decide) ?_
          refine z_top (b := d 1 p) ((rv_x (by omega)).symm.trans (congrFun (congrFun hk0 _) _)) ?_
          refine z_imul hC dX8_port_60 ?_
          refine z_aload_n hC dX8_port_61 rfl ?_
          refine z_get hC iA_X8 rfl 0 (by decide) qF_X8_7 rfl dX8_port_62 rl_0 (rd_0 (ca := ca) (ad := ad)) rfl ?_
          refine z_iconst hC dX8_port_65 ?_
          refine z_iconst hC dX8_port_66 ?_
          refine z_iload_n hC dX8_port_67 rfl ?_
          refine z_imul hC dX8_port_68 ?_
          refine z_iadd hC dX8_port_69 ?_
          refine z_iconst hC dX8_port_70 ?_
          refine z_iadd hC dX8_port_71 ?_
          refine z_iald hC dX8_port_72 rl_1 (rd_1 (ca := ca) (ad := ad)) (by omega) (by omega) (by decide) ?_
          refine z_top (b := d 2 p) ((rv_y (by omega)).symm.trans (congrFun (congrFun hk0 _) _)) ?_
          refine z_iadd hC dX8_port_73 ?_
          refine z_istore hC dX8_port_74 (by decide) rfl ?_
          refine z_aload_n hC dX8_port_76 rfl ?_
          refine z_get hC iA_X8 rfl 0 (by decide) qF_X8_7 rfl dX8_port_77 rl_0 (rd_0 (ca := ca) (ad := ad)) rfl ?_
          refine z_iconst hC dX8_port_80 ?_
          refine z_iconst hC dX8_port_81 ?_
          refine z_iload_n hC dX8_port_82 rfl ?_
          refine z_imul hC dX8_port_83 ?_
          refine z_iadd hC dX8_port_84 ?_
          refine z_iload_n hC dX8_port_85 rfl ?_
          refine z_iast hC dX8_port_86 rl_1 (rd_1 (ca := ca) (ad := ad)) (by omega) (by omega) (by decide) ?_
          refine z_nm (fun μ6 hμ6 => ?_)
          obtain ⟨d8, hd8⟩ : ∃ q9 : zM, q9 = zup d 1 p x := ⟨_, rfl⟩
          have hd7 : rv μ6 0 = d8 := by rw [hμ6, rv_up (t := 0) (o := 1) (i := p) (x := (0 + (2 * p))) (by unfold zrel; omega) (by show 0 + 2 * p = 190 * 0 + (2 * p); omega), hk0, hd8]
          have hd9 : rv μ6 6 = d := by rw [hμ6, rv_far (by omega)]; exact hk6
          refine z_aload_n hC dX8_port_87 rfl ?_
          refine z_get hC iA_X8 rfl 0 (by decide) qF_X8_7 rfl dX8_port_88 rl_0 (rd_0 (ca := ca) (ad := ad)) rfl ?_
          refine z_iconst hC dX8_port_91 ?_
          refine z_iconst hC dX8_port_92 ?_
          refine z_iload_n hC dX8_port_93 rfl ?_
          refine z_imul hC dX8_port_94 ?_
          refine z_iadd hC dX8_port_95 ?_
          refine z_iconst hC dX8_port_96 ?_
          refine z_iadd hC dX8_port_97 ?_
          refine z_iload_n hC dX8_port_98 rfl ?_
          refine z_iast hC dX8_port_99 rl_1 (rd_1 (ca := ca) (ad := ad)) (by omega) (by omega) (by decide) ?_
          refine z_nm (fun μ10 hμ10 => ?_)
          obtain ⟨d12, hd12⟩ : ∃ q9 : zM, q9 = zup d8 2 p y := ⟨_, rfl⟩
          have hd11 : rv μ10 0 = d12 := by rw [hμ10, rv_up (t := 0) (o := 2) (i := p) (x := ((0 + (2 * p)) + 1)) (by unfold zrel; omega) (by show 0 + 2 * p + 1 = 190 * 0 + (2 * p + 1); omega), hd7, hd12]
          have hd13 : rv μ10 6 = d := by rw [hμ10, rv_far (by omega)]; exact hd9
          refine z_aload_n hC dX8_port_100 rfl ?_
          refine z_iload hC dX8_port_101 rfl ?_
          have e9 : opPort d p x y = ((100 * (d 1 p)) + (d 2 p), zup (zup d 1 p x) 2 p y) := by
            unfold opPort
            rw [if_neg (by omega), if_neg (by omega)]
          have hμ10v : rv μ10 0 = (opPort d p x y).2 := by rw [e9, hd11]; rw [hd12, hd8]
          have hμ10l : rSl μ5 μ10 := rSl_f1 (by rw [hμ10, hμ6]; exact rF1_up (rF1_up (rF1_rf 0 _) (by omega)) (by omega))
          have hv6 : rv μ10 6 = d := hd13
          refine z_top (b := (opPort d p x y).1) (by rw [e9]) ?_
          have hHi : rHi μ10 n h := rHi_fr hX.2.1 (by rw [hμ10l.2.1 1 (by omega), hμ5f.1 0 (by omega)]) (fun x hx => by rw [hμ10l.2.2 x (by omega), hμ5f.2 x (by omega)])
          refine z_callV hC [.int (iZ ((opPort d p x y).1))] 1 rfl dX8_port_103 (fun l => m_X8_acted l G ca ad _ μ10 (opPort d p x y).1 hr.1 n h hHi) qM_X8_112 qI_X8_acted qS_X8_acted qi_X8 qC_X8_acted (by decide +kernel) (by decide) (by decide) rl_0 (rd_0 (ca := ca) (ad := ad)) rfl (Nat.le_of_ble_eq_true rfl) (zk_int (fun μ14 hμ14 => ?_)) rfl
          refine z_iret hC dX8_port_106 ⟨rfl, ?_⟩
          unfold rAct at hμ14
          unfold rStK sKeep
          by_cases q9 : -1000001 < (opPort d p x y).1
          · rw [if_pos q9] at hμ14
            obtain ⟨a1, a2, a3, a4⟩ := hμ14
            rw [if_neg (by omega)]
            rw [hv6] at a1
            exact ⟨a2.trans hμ10v, a1, by rw [a4 3 (by omega), hμ10l.2.1 3 (by omega), hμ5f.1 0 (by omega)]; exact hX.2.2.1, hX.2.2.2.1, fun i hi => by rw [a3 2 (by omega), hμ10l.1 2 (by omega), hμ5f.1 2 (by omega)]; exact hX.2.2.2.2 i hi⟩
          · rw [if_neg q9] at hμ14
            rw [hμ14, if_pos (by omega)]
            exact ⟨hμ10v.trans (hr.2.2 (by omega)), hHi, by rw [hμ10l.2.1 3 (by omega), hμ5f.1 0 (by omega)]; exact hX.2.2.1, hX.2.2.2.1, fun i hi => by rw [hμ10l.1 2 (by omega), hμ5f.1 2 (by omega)]; exact hX.2.2.2.2 i hi⟩
        · refine z_ldc hC (-1000002) qc_X8_101 rfl dX8_port_41 ?_
          have e9 : opPort d p x y = ((-1000002), d) := by unfold opPort; rw [if_neg (by omega), if_pos (by omega)]
          exact z_iret hC dX8_port_43 ⟨by rw [e9], by rw [e9]; unfold rStK sKeep; rw [if_pos (by omega)]; exact hX⟩
      · refine z_ldc hC (-1000001) qc_X8_24 rfl dX8_port_30 ?_
        have e9 : opPort d p x y = ((-1000001), d) := by unfold opPort; rw [if_pos (by omega)]
        exact z_iret hC dX8_port_32 ⟨by rw [e9], by rw [e9]; unfold rStK sKeep; rw [if_pos (by omega)]; exact hX⟩

set_option maxHeartbeats 4000000 in
set_option maxRecDepth 100000 in
/-- callOff -/
theorem m_X8_callOff (l : Launch) (G : va_G) (ca : Nat → ClassId) (ad : Int → Nat) (A : Nat → Prop) (μ : zM) (d : zM) (n : Int) (h : Int → zM) (L : Int) (t : Int → Int) (hX : rSt μ d n h L t) (hI : zInv d) (k : Int) (hk : -2147483648 ≤ k ∧ k ≤ 2147483647) (hr : (-2147483648 ≤ (opOff d k).1 ∧ (opOff d k).1 ≤ 2147483647) ∧ -1000004 ≤ (opOff d k).1 ∧ ((opOff d k).1 ≤ -1000001 → (opOff d k).2 = d)) : zMet l (rω G ca ad) A yX8_callOff cX8_callOff 5 (some .int) 2 45 [.ref (ad 0), .int (iZ k)] μ (zpI (.int (iZ (opOff d k).1)) (fun μ' => rStK μ' (sKeep (opOff d k) d n h) L t)) := by
  refine zMet_of (by decide) (Nat.le_of_ble_eq_true rfl) (fun Γ hC => ?_)
  show Z Γ _ μ 0 [(0, .ref (ad 0)), (1, .int (iZ k))] []
  obtain ⟨hB, hf5, hf6, hIF, hIS, hII, hIL⟩ := id hI
  obtain ⟨hN, hP, hB3, hB4⟩ := id hB
  obtain ⟨hN1, hN2⟩ := id hN
  refine z_aload_n hC dX8_callOff_0 rfl ?_
  refine z_iload_n hC dX8_callOff_1 rfl ?_
  refine z_callV hC [.int (iZ k)] 1 rfl dX8_callOff_2 (fun l => m_X8_isShip l G ca ad _ μ d hX.1 k (by omega) (by omega)) qM_X8_91 qI_X8_isShip qS_X8_isShip qi_X8 qC_X8_isShip (by decide +kernel) (by decide) (by decide) rl_0 (rd_0 (ca := ca) (ad := ad)) rfl (Nat.le_of_ble_eq_true rfl) (zk_pure ?_) rfl
  refine z_ifb_ne hC 11 dX8_callOff_5 (by decide) (fun c_1 => ?_) (fun c_1 => ?_)
  · obtain ⟨hs0, hs1, hs2, hs3, hs4, hs6⟩ := hB3 k (by omega)
    refine z_iconst hC dX8_callOff_11 ?_
    refine z_iload_n hC dX8_callOff_12 rfl ?_
    refine z_bipush hC dX8_callOff_13 (by decide) ?_
    refine z_callS hC [.int (iZ 0), .int (iZ k), .int (iZ 6)] 3 rfl dX8_callOff_15 (fun l => m_X8_shipAt l _ _ _ 0 k 6) qM_X8_37 qT_X8_shipAt qi_X8 qC_X8_shipAt (by decide +kernel) (by decide) (by decide) (Nat.le_of_ble_eq_true rfl) (zk_pure ?_) rfl
    refine z_istore_n hC dX8_callOff_18 (by decide) rfl ?_
    refine z_aload_n hC dX8_callOff_19 rfl ?_
    refine z_get hC iA_X8 rfl 0 (by decide) qF_X8_7 rfl dX8_callOff_20 rl_0 (rd_0 (ca := ca) (ad := ad)) rfl ?_
    refine z_iload_n hC dX8_callOff_23 rfl ?_
    refine z_iald hC dX8_callOff_24 rl_1 (rd_1 (ca := ca) (ad := ad)) (by omega) (by omega) (by decide) ?_
    refine z_top (b := d (6 + k) 6) ((rv_ship (by omega) (by omega)).symm.trans (congrFun (congrFun hX.1 _) _)) ?_
    refine z_if_ne hC 31 dX8_callOff_25 (by decide) (by omega) (fun c_2 => ?_) (fun c_2 => ?_)
    · refine z_aload_n hC dX8_callOff_31 rfl ?_
      refine z_callV hC [] 0 rfl dX8_callOff_32 (fun l => m_X8_keeps l G ca ad _ μ) qM_X8_109 qI_X8_keeps qS_X8_keeps qi_X8 qC_X8_keeps (by decide +kernel) (by decide) (by decide) rl_0 (rd_0 (ca := ca) (ad := ad)) rfl (Nat.le_of_ble_eq_true rfl) (zk_void (fun μ3 hμ3 => ?_)) rfl
      obtain ⟨hμ3v, hμ3f⟩ := id hμ3
      have hk0 : rv μ3 0 = d := (rF1_v hμ3f (by omega)).trans hX.1
      have hk6 : rv μ3 6 = d := hμ3v.trans hX.1
      have hx9 := hIF k (by omega) (d (6 + k) 6 - 1) (by omega)
      have hw9 := worth_b (hB4 _ hx9)
      refine z_aload_n hC dX8_callOff_35 rfl ?_
      refine z_get hC iA_X8 rfl 0 (by decide) qF_X8_7 rfl dX8_callOff_36 rl_0 (rd_0 (ca := ca) (ad := ad)) rfl ?_
      refine z_iload_n hC dX8_callOff_39 rfl ?_
      refine z_dup2 hC dX8_callOff_40 rfl rfl ?_
      refine z_iald hC dX8_callOff_41 rl_1 (rd_1 (ca := ca) (ad := ad)) (by omega) (by omega) (by decide) ?_
      refine z_top (b := d (6 + k) 6) ((rv_ship (by omega) (by omega)).symm.trans (congrFun (congrFun hk0 _) _)) ?_
      refine z_iconst hC dX8_callOff_42 ?_
      refine z_isub hC dX8_callOff_43 ?_
      refine z_iast hC dX8_callOff_44 rl_1 (rd_1 (ca := ca) (ad := ad)) (by omega) (by omega) (by decide) ?_
      refine z_nm (fun μ4 hμ4 => ?_)
      obtain ⟨d6, hd6⟩ : ∃ q9 : zM, q9 = zup d (6 + k) 6 ((d (6 + k) 6) - 1) := ⟨_, rfl⟩
      have hd5 : rv μ4 0 = d6 := by rw [hμ4, rv_up (t := 0) (o := (6 + k)) (i := 6) (x := (190 * 0 + 17 + 18 * k + 6)) (by unfold zrel; omega) (by rw [rp_ship (by omega)]; omega), hk0, hd6]
      have hd7 : rv μ4 6 = d := by rw [hμ4, rv_far (by omega)]; exact hk6
      refine z_aload_n hC dX8_callOff_45 rfl ?_
      refine z_get hC iA_X8 rfl 0 (by decide) qF_X8_7 rfl dX8_callOff_46 rl_0 (rd_0 (ca := ca) (ad := ad)) rfl ?_
      refine z_iconst hC dX8_callOff_49 ?_
      refine z_iload_n hC dX8_callOff_50 rfl ?_
      refine z_bipush hC dX8_callOff_51 (by decide) ?_
      refine z_aload_n hC dX8_callOff_53 rfl ?_
      refine z_get hC iA_X8 rfl 0 (by decide) qF_X8_7 rfl dX8_callOff_54 rl_0 (rd_0 (ca := ca) (ad := ad)) rfl ?_
      refine z_iload_n hC dX8_callOff_57 rfl ?_
      refine z_iald hC dX8_callOff_58 rl_1 (rd_1 (ca := ca) (ad := ad)) (by omega) (by omega) (by decide) ?_
      refine z_top (b := d6 (6 + k) 6) ((rv_ship (by omega) (by omega)).symm.trans (congrFun (congrFun hd5 _) _)) ?_
      refine z_top (b := (d (6 + k) 6) - 1) (by rw [hd6, zup_s]) ?_
      refine z_iadd hC dX8_callOff_59 ?_
      refine z_callS hC [.int (iZ 0), .int (iZ k), .int (iZ (7 + ((d (6 + k) 6) - 1)))] 3 rfl dX8_callOff_60 (fun l => m_X8_shipAt l _ _ _ 0 k (7 + ((d (6 + k) 6) - 1))) qM_X8_37 qT_X8_shipAt qi_X8 qC_X8_shipAt (by decide +kernel) (by decide) (by decide) (Nat.le_of_ble_eq_true rfl) (zk_pure ?_) rfl
      refine z_iald hC dX8_callOff_63 rl_1 (rd_1 (ca := ca) (ad := ad)) (by omega) (by omega) (by decide) ?_
      refine z_top (b := d6 (11 + k) ((d (6 + k) 6) - 1)) ((rv_fx (by omega) (by omega)).symm.trans (congrFun (congrFun hd5 _) _)) ?_
      refine z_top (b := d (11 + k) ((d (6 + k) 6) - 1)) (by rw [hd6, zup_n (by omega)]) ?_
      refine z_istore_n hC dX8_callOff_64 (by decide) rfl ?_
      refine z_aload_n hC dX8_callOff_65 rfl ?_
      refine z_get hC iA_X8 rfl 0 (by decide) qF_X8_7 rfl dX8_callOff_66 rl_0 (rd_0 (ca := ca) (ad := ad)) rfl ?_
      refine z_iconst hC dX8_callOff_69 ?_
      refine z_iload_n hC dX8_callOff_70 rfl ?_
      refine z_iconst hC dX8_callOff_71 ?_
      refine z_callS hC [.int (iZ 0), .int (iZ (d (11 + k) ((d (6 + k) 6) - 1))), .int (iZ 0)] 3 rfl dX8_callOff_72 (fun l => m_X8_cargoAt l _ _ _ 0 (d (11 + k) ((d (6 + k) 6) - 1)) 0) qM_X8_44 qT_X8_cargoAt qi_X8 qC_X8_cargoAt (by decide +kernel) (by decide) (by decide) (Nat.le_of_ble_eq_true rfl) (zk_pure ?_) rfl
      refine z_iald hC dX8_callOff_75 rl_1 (rd_1 (ca := ca) (ad := ad)) (by omega) (by omega) (by decide) ?_
      refine z_top (b := d6 (16 + (d (11 + k) ((d (6 + k) 6) - 1))) 0) ((rv_cargo (by omega) (by omega)).symm.trans (congrFun (congrFun hd5 _) _)) ?_
      refine z_top (b := d (16 + (d (11 + k) ((d (6 + k) 6) - 1))) 0) (by rw [hd6, zup_n (by omega)]) ?_
      refine z_aload_n hC dX8_callOff_76 rfl ?_
      refine z_get hC iA_X8 rfl 0 (by decide) qF_X8_7 rfl dX8_callOff_77 rl_0 (rd_0 (ca := ca) (ad := ad)) rfl ?_
      refine z_iconst hC dX8_callOff_80 ?_
      refine z_iload_n hC dX8_callOff_81 rfl ?_
      refine z_iconst hC dX8_callOff_82 ?_
      refine z_callS hC [.int (iZ 0), .int (iZ (d (11 + k) ((d (6 + k) 6) - 1))), .int (iZ 5)] 3 rfl dX8_callOff_83 (fun l => m_X8_cargoAt l _ _ _ 0 (d (11 + k) ((d (6 + k) 6) - 1)) 5) qM_X8_44 qT_X8_cargoAt qi_X8 qC_X8_cargoAt (by decide +kernel) (by decide) (by decide) (Nat.le_of_ble_eq_true rfl) (zk_pure ?_) rfl
      refine z_iald hC dX8_callOff_86 rl_1 (rd_1 (ca := ca) (ad := ad)) (by omega) (by omega) (by decide) ?_
      refine z_top (b := d6 (16 + (d (11 + k) ((d (6 + k) 6) - 1))) 5) ((rv_cargo (by omega) (by omega)).symm.trans (congrFun (congrFun hd5 _) _)) ?_
      refine z_top (b := d (16 + (d (11 + k) ((d (6 + k) 6) - 1))) 5) (by rw [hd6, zup_n (by omega)]) ?_
      refine z_imul hC dX8_callOff_87 ?_
      refine z_bipush hC dX8_callOff_88 (by decide) ?_
      refine z_iadd hC dX8_callOff_90 ?_
      refine z_bipush hC dX8_callOff_91 (by decide) ?_
      refine z_idiv hC dX8_callOff_93 (by omega) (by omega) ?_
      refine z_top (b := sPay d (d (11 + k) (d (6 + k) 6 - 1))) (by unfold sPay; rw [Int.add_sub_assoc]; rfl) ?_
      refine z_istore hC dX8_callOff_94 (by decide) rfl ?_
      refine z_aload_n hC dX8_callOff_96 rfl ?_
      refine z_get hC iA_X8 rfl 0 (by decide) qF_X8_7 rfl dX8_callOff_97 rl_0 (rd_0 (ca := ca) (ad := ad)) rfl ?_
      refine z_iconst hC dX8_callOff_100 ?_
      refine z_iload_n hC dX8_callOff_101 rfl ?_
      refine z_bipush hC dX8_callOff_102 (by decide) ?_
      refine z_callS hC [.int (iZ 0), .int (iZ (d (11 + k) ((d (6 + k) 6) - 1))), .int (iZ 6)] 3 rfl dX8_callOff_104 (fun l => m_X8_cargoAt l _ _ _ 0 (d (11 + k) ((d (6 + k) 6) - 1)) 6) qM_X8_44 qT_X8_cargoAt qi_X8 qC_X8_cargoAt (by decide +kernel) (by decide) (by decide) (Nat.le_of_ble_eq_true rfl) (zk_pure ?_) rfl
      refine z_iconst hC dX8_callOff_107 ?_
      refine z_iast hC dX8_callOff_108 rl_1 (rd_1 (ca := ca) (ad := ad)) (by omega) (by omega) (by decide) ?_
      refine z_nm (fun μ8 hμ8 => ?_)
      obtain ⟨d10, hd10⟩ : ∃ q9 : zM, q9 = zup d6 (16 + (d (11 + k) ((d (6 + k) 6) - 1))) 6 0 := ⟨_, rfl⟩
      have hd9 : rv μ8 0 = d10 := by rw [hμ8, rv_up (t := 0) (o := (16 + (d (11 + k) ((d (6 + k) 6) - 1)))) (i := 6) (x := (190 * 0 + 108 + 8 * (d (11 + k) ((d (6 + k) 6) - 1)) + 6)) (by unfold zrel; omega) (by rw [rp_cargo (by omega)]; omega), hd5, hd10]
      have hd11 : rv μ8 6 = d := by rw [hμ8, rv_far (by omega)]; exact hd7
      refine z_aload_n hC dX8_callOff_109 rfl ?_
      refine z_get hC iA_X8 rfl 0 (by decide) qF_X8_7 rfl dX8_callOff_110 rl_0 (rd_0 (ca := ca) (ad := ad)) rfl ?_
      refine z_iconst hC dX8_callOff_113 ?_
      refine z_iload_n hC dX8_callOff_114 rfl ?_
      refine z_iconst hC dX8_callOff_115 ?_
      refine z_callS hC [.int (iZ 0), .int (iZ k), .int (iZ 5)] 3 rfl dX8_callOff_116 (fun l => m_X8_shipAt l _ _ _ 0 k 5) qM_X8_37 qT_X8_shipAt qi_X8 qC_X8_shipAt (by decide +kernel) (by decide) (by decide) (Nat.le_of_ble_eq_true rfl) (zk_pure ?_) rfl
      refine z_dup2 hC dX8_callOff_119 rfl rfl ?_
      refine z_iald hC dX8_callOff_120 rl_1 (rd_1 (ca := ca) (ad := ad)) (by omega) (by omega) (by decide) ?_
      refine z_top (b := d10 (6 + k) 5) ((rv_ship (by omega) (by omega)).symm.trans (congrFun (congrFun hd9 _) _)) ?_
      refine z_top (b := d (6 + k) 5) (by rw [hd10, zup_n (by omega), hd6, zup_n (by omega)]) ?_
      refine z_iload hC dX8_callOff_121 rfl ?_
      refine z_isub hC dX8_callOff_123 ?_
      refine z_iast hC dX8_callOff_124 rl_1 (rd_1 (ca := ca) (ad := ad)) (by omega) (by omega) (by decide) ?_
      refine z_nm (fun μ12 hμ12 => ?_)
      obtain ⟨d14, hd14⟩ : ∃ q9 : zM, q9 = zup d10 (6 + k) 5 ((d (6 + k) 5) - (sPay d (d (11 + k) (d (6 + k) 6 - 1)))) := ⟨_, rfl⟩
      have hd13 : rv μ12 0 = d14 := by rw [hμ12, rv_up (t := 0) (o := (6 + k)) (i := 5) (x := (190 * 0 + 17 + 18 * k + 5)) (by unfold zrel; omega) (by rw [rp_ship (by omega)]; omega), hd9, hd14]
      have hd15 : rv μ12 6 = d := by rw [hμ12, rv_far (by omega)]; exact hd11
      refine z_aload_n hC dX8_callOff_125 rfl ?_
      refine z_get hC iA_X8 rfl 0 (by decide) qF_X8_7 rfl dX8_callOff_126 rl_0 (rd_0 (ca := ca) (ad := ad)) rfl ?_
      refine z_sipush hC dX8_callOff_129 (by decide) ?_
      refine z_dup2 hC dX8_callOff_132 rfl rfl ?_
      refine z_iald hC dX8_callOff_133 rl_1 (rd_1 (ca := ca) (ad := ad)) (by omega) (by omega) (by decide) ?_
      refine z_top (b := d14 0 7) ((rv_off).symm.trans (congrFun (congrFun hd13 _) _)) ?_
      refine z_top (b := d 0 7) (by rw [hd14, zup_n (by omega), hd10, zup_n (by omega), hd6, zup_n (by omega)]) ?_
      refine z_iconst hC dX8_callOff_134 ?_
      refine z_iadd hC dX8_callOff_135 ?_
      refine z_iast hC dX8_callOff_136 rl_1 (rd_1 (ca := ca) (ad := ad)) (by omega) (by omega) (by decide) ?_
      refine z_nm (fun μ16 hμ16 => ?_)
      obtain ⟨d18, hd18⟩ : ∃ q9 : zM, q9 = zup d14 0 7 ((d 0 7) + 1) := ⟨_, rfl⟩
      have hd17 : rv μ16 0 = d18 := by rw [hμ16, rv_up (t := 0) (o := 0) (i := 7) (x := 189) (by unfold zrel; omega) (rfl), hd13, hd18]
      have hd19 : rv μ16 6 = d := by rw [hμ16, rv_far (by omega)]; exact hd15
      refine z_aload_n hC dX8_callOff_137 rfl ?_
      refine z_iload hC dX8_callOff_138 rfl ?_
      have e9 : opOff d k = (sPay d (d (11 + k) (d (6 + k) 6 - 1)), zup (zup (zup (zup d (6 + k) 6 ((d (6 + k) 6) - 1)) (16 + (d (11 + k) ((d (6 + k) 6) - 1))) 6 0) (6 + k) 5 ((d (6 + k) 5) - (sPay d (d (11 + k) (d (6 + k) 6 - 1))))) 0 7 ((d 0 7) + 1)) := by
        unfold opOff
        rw [if_neg (by omega), if_neg (by omega)]; exact Prod.ext rfl (by rw [show sDrop k 0 1 (d (6 + k) 6 - 1) d = zup d (16 + (d (11 + k) (d (6 + k) 6 - 1))) 6 0 from rfl, zup_cm (o := 16 + (d (11 + k) (d (6 + k) 6 - 1))) (i := 6) (by omega)])
      have hμ16v : rv μ16 0 = (opOff d k).2 := by rw [e9, hd17]; rw [hd18, hd14, hd10, hd6]
      have hμ16l : rSl μ3 μ16 := rSl_f1 (by rw [hμ16, hμ12, hμ8, hμ4]; exact rF1_up (rF1_up (rF1_up (rF1_up (rF1_rf 0 _) (by omega)) (by omega)) (by omega)) (by omega))
      have hv6 : rv μ16 6 = d := hd19
      refine z_top (b := (opOff d k).1) (by rw [e9]) ?_
      have hHi : rHi μ16 n h := rHi_fr hX.2.1 (by rw [hμ16l.2.1 1 (by omega), hμ3f.1 0 (by omega)]) (fun x hx => by rw [hμ16l.2.2 x (by omega), hμ3f.2 x (by omega)])
      refine z_callV hC [.int (iZ ((opOff d k).1))] 1 rfl dX8_callOff_140 (fun l => m_X8_acted l G ca ad _ μ16 (opOff d k).1 hr.1 n h hHi) qM_X8_112 qI_X8_acted qS_X8_acted qi_X8 qC_X8_acted (by decide +kernel) (by decide) (by decide) rl_0 (rd_0 (ca := ca) (ad := ad)) rfl (Nat.le_of_ble_eq_true rfl) (zk_int (fun μ20 hμ20 => ?_)) rfl
      refine z_iret hC dX8_callOff_143 ⟨rfl, ?_⟩
      unfold rAct at hμ20
      unfold rStK sKeep
      by_cases q9 : -1000001 < (opOff d k).1
      · rw [if_pos q9] at hμ20
        obtain ⟨a1, a2, a3, a4⟩ := hμ20
        rw [if_neg (by omega)]
        rw [hv6] at a1
        exact ⟨a2.trans hμ16v, a1, by rw [a4 3 (by omega), hμ16l.2.1 3 (by omega), hμ3f.1 0 (by omega)]; exact hX.2.2.1, hX.2.2.2.1, fun i hi => by rw [a3 2 (by omega), hμ16l.1 2 (by omega), hμ3f.1 2 (by omega)]; exact hX.2.2.2.2 i hi⟩
      · rw [if_neg q9] at hμ20
        rw [hμ20, if_pos (by omega)]
        exact ⟨hμ16v.trans (hr.2.2 (by omega)), hHi, by rw [hμ16l.2.1 3 (by omega), hμ3f.1 0 (by omega)]; exact hX.2.2.1, hX.2.2.2.1, fun i hi => by rw [hμ16l.1 2 (by omega), hμ3f.1 2 (by omega)]; exact hX.2.2.2.2 i hi⟩
    · refine z_ldc hC (-1000002) qc_X8_101 rfl dX8_callOff_28 ?_
      have e9 : opOff d k = ((-1000002), d) := by unfold opOff; rw [if_neg (by omega), if_pos (by omega)]
      exact z_iret hC dX8_callOff_30 ⟨by rw [e9], by rw [e9]; unfold rStK sKeep; rw [if_pos (by omega)]; exact hX⟩
  · refine z_ldc hC (-1000001) qc_X8_24 rfl dX8_callOff_8 ?_
    have e9 : opOff d k = ((-1000001), d) := by unfold opOff; rw [if_pos (by omega)]
    exact z_iret hC dX8_callOff_10 ⟨by rw [e9], by rw [e9]; unfold rStK sKeep; rw [if_pos (by omega)]; exact hX⟩

set_option maxHeartbeats 4000000 in
set_option maxRecDepth 100000 in
/-- settle -/
theorem m_X8_settle (l : Launch) (G : va_G) (ca : Nat → ClassId) (ad : Int → Nat) (A : Nat → Prop) (μ : zM) (d : zM) (n : Int) (h : Int → zM) (L : Int) (t : Int → Int) (hX : rSt μ d n h L t) (hI : zInv d) (k : Int) (hk : -2147483648 ≤ k ∧ k ≤ 2147483647) (hr : (-2147483648 ≤ (opSettle d k).1 ∧ (opSettle d k).1 ≤ 2147483647) ∧ -1000004 ≤ (opSettle d k).1 ∧ ((opSettle d k).1 ≤ -1000001 → (opSettle d k).2 = d)) : zMet l (rω G ca ad) A yX8_settle cX8_settle 4 (some .int) 6 143 [.ref (ad 0), .int (iZ k)] μ (zpI (.int (iZ (opSettle d k).1)) (fun μ' => rStK μ' (sKeep (opSettle d k) d n h) L t)) := by
  refine zMet_of (by decide) (Nat.le_of_ble_eq_true rfl) (fun Γ hC => ?_)
  show Z Γ _ μ 0 [(0, .ref (ad 0)), (1, .int (iZ k))] []
  obtain ⟨hB, hf5, hf6, hIF, hIS, hII, hIL⟩ := id hI
  obtain ⟨hN, hP, hB3, hB4⟩ := id hB
  obtain ⟨hN1, hN2⟩ := id hN
  refine z_aload_n hC dX8_settle_0 rfl ?_
  refine z_iload_n hC dX8_settle_1 rfl ?_
  refine z_callV hC [.int (iZ k)] 1 rfl dX8_settle_2 (fun l => m_X8_isShip l G ca ad _ μ d hX.1 k (by omega) (by omega)) qM_X8_91 qI_X8_isShip qS_X8_isShip qi_X8 qC_X8_isShip (by decide +kernel) (by decide) (by decide) rl_0 (rd_0 (ca := ca) (ad := ad)) rfl (Nat.le_of_ble_eq_true rfl) (zk_pure ?_) rfl
  refine z_ifb_ne hC 11 dX8_settle_5 (by decide) (fun c_1 => ?_) (fun c_1 => ?_)
  · obtain ⟨hs0, hs1, hs2, hs3, hs4, hs6⟩ := hB3 k (by omega)
    refine z_aload_n hC dX8_settle_11 rfl ?_
    refine z_get hC iA_X8 rfl 0 (by decide) qF_X8_7 rfl dX8_settle_12 rl_0 (rd_0 (ca := ca) (ad := ad)) rfl ?_
    refine z_iconst hC dX8_settle_15 ?_
    refine z_iload_n hC dX8_settle_16 rfl ?_
    refine z_bipush hC dX8_settle_17 (by decide) ?_
    refine z_callS hC [.int (iZ 0), .int (iZ k), .int (iZ 6)] 3 rfl dX8_settle_19 (fun l => m_X8_shipAt l _ _ _ 0 k 6) qM_X8_37 qT_X8_shipAt qi_X8 qC_X8_shipAt (by decide +kernel) (by decide) (by decide) (Nat.le_of_ble_eq_true rfl) (zk_pure ?_) rfl
    refine z_iald hC dX8_settle_22 rl_1 (rd_1 (ca := ca) (ad := ad)) (by omega) (by omega) (by decide) ?_
    refine z_top (b := d (6 + k) 6) ((rv_ship (by omega) (by omega)).symm.trans (congrFun (congrFun hX.1 _) _)) ?_
    refine z_istore_n hC dX8_settle_23 (by decide) rfl ?_
    refine z_iload_n hC dX8_settle_24 rfl ?_
    refine z_if_ne hC 31 dX8_settle_25 (by decide) (by omega) (fun c_2 => ?_) (fun c_2 => ?_)
    · refine z_aload_n hC dX8_settle_31 rfl ?_
      refine z_callV hC [] 0 rfl dX8_settle_32 (fun l => m_X8_keeps l G ca ad _ μ) qM_X8_109 qI_X8_keeps qS_X8_keeps qi_X8 qC_X8_keeps (by decide +kernel) (by decide) (by decide) rl_0 (rd_0 (ca := ca) (ad := ad)) rfl (Nat.le_of_ble_eq_true rfl) (zk_void (fun μ3 hμ3 => ?_)) rfl
      obtain ⟨hμ3v, hμ3f⟩ := id hμ3
      have hk0 : rv μ3 0 = d := (rF1_v hμ3f (by omega)).trans hX.1
      have hk6 : rv μ3 6 = d := hμ3v.trans hX.1
      refine z_aload_n hC dX8_settle_35 rfl ?_
      refine z_iconst hC dX8_settle_36 ?_
      refine z_iload_n hC dX8_settle_37 rfl ?_
      refine z_callV hC [.int (iZ 0), .int (iZ k)] 2 rfl dX8_settle_38 (fun l => m_X8_goesAll l G ca ad _ μ3 d hk0 0 (by omega) d hk0 (fun _ => ⟨rfl, rfl⟩) hP k hB (by omega) (fOk_of hI (by omega))) qM_X8_87 qI_X8_goesAll qS_X8_goesAll qi_X8 qC_X8_goesAll (by decide +kernel) (by decide) (by decide) rl_0 (rd_0 (ca := ca) (ad := ad)) rfl (Nat.le_of_ble_eq_true rfl) (zk_void (fun μ4 hμ4 => ?_)) rfl
      obtain ⟨hμ4f, hμ4g⟩ := id hμ4
      rw [sInT_all (late_of hI (by omega))] at hμ4g
      obtain ⟨hμ412, hμ413, hμ414, hμ415⟩ := hμ4g
      have hμ4e12 : μ4 0 12 = (sEnd d k).1 := hμ412
      have hμ4e13 : μ4 0 13 = (sEnd d k).2.1 := hμ413
      have hμ4e14 : μ4 0 14 = (sEnd d k).2.2 := hμ414
      have hd5 : rv μ4 0 = d := by rw [rv_fr hμ4f]; exact hk0
      have hd6 : rv μ4 6 = d := by rw [rv_fr hμ4f]; exact hk6
      refine z_iconst hC dX8_settle_41 ?_
      refine z_istore_n hC dX8_settle_42 (by decide) rfl ?_
      have hNe := sNum_e (d := d) (k := k) (by omega)
      have LOOP : ∀ (r n9 : Nat), n9 + r = sNum d k → ∀ (μ1 d1 : zM) (x : Int), rv μ1 0 = d1 → rF1 0 μ4 μ1 → (∀ o i, o < 16 → d1 o i = d o i) → x = 0 + (n9 : Int) → sDrop k 2 r x d1 = sDrop k 2 (sNum d k) (0) d → Z Γ (rω G ca ad) μ1 43 [(3, .int (iZ x)), (0, .ref (ad 0)), (1, .int (iZ k)), (2, .int (iZ (d (6 + k) 6)))] [] := by
        intro r
        induction r with
        | zero =>
          intro n9 hn μ1 d1 x hd1 hfr he hx hD
          have hx1 : d1 (6 + k) 6 = d (6 + k) 6 := he _ _ (by omega)
          have hv61 : rv μ1 6 = d := (rF1_v hfr (by omega)).trans hd6
          refine z_iload_n hC dX8_settle_43 rfl ?_
          refine z_iload_n hC dX8_settle_44 rfl ?_
          refine z_icmp_ge hC 80 dX8_settle_45 (by decide) (by omega) (by omega) (fun c_7 => ?_) (fun c_7 => ?_)
          · refine z_aload_n hC dX8_settle_80 rfl ?_
            refine z_get hC iA_X8 rfl 0 (by decide) qF_X8_7 rfl dX8_settle_81 rl_0 (rd_0 (ca := ca) (ad := ad)) rfl ?_
            refine z_iconst hC dX8_settle_84 ?_
            refine z_iload_n hC dX8_settle_85 rfl ?_
            refine z_iconst hC dX8_settle_86 ?_
            refine z_callS hC [.int (iZ 0), .int (iZ k), .int (iZ 5)] 3 rfl dX8_settle_87 (fun l => m_X8_shipAt l _ _ _ 0 k 5) qM_X8_37 qT_X8_shipAt qi_X8 qC_X8_shipAt (by decide +kernel) (by decide) (by decide) (Nat.le_of_ble_eq_true rfl) (zk_pure ?_) rfl
            refine z_dup2 hC dX8_settle_90 rfl rfl ?_
            refine z_iald hC dX8_settle_91 rl_1 (rd_1 (ca := ca) (ad := ad)) (by omega) (by omega) (by decide) ?_
            refine z_top (b := d1 (6 + k) 5) ((rv_ship (by omega) (by omega)).symm.trans (congrFun (congrFun hd1 _) _)) ?_
            refine z_top (b := d (6 + k) 5) (he _ _ (by omega)) ?_
            refine z_aload_n hC dX8_settle_92 rfl ?_
            refine z_get hC iA_X8 rfl 14 (by decide) qF_X8_69 rfl dX8_settle_93 rl_0 (rd_0 (ca := ca) (ad := ad)) rfl ?_
            refine z_top (b := (sEnd d k).2.2) (by rw [hfr.1 0 (by omega), hμ4e14]) ?_
            refine z_iadd hC dX8_settle_96 ?_
            refine z_iast hC dX8_settle_97 rl_1 (rd_1 (ca := ca) (ad := ad)) (by omega) (by omega) (by decide) ?_
            refine z_nm (fun μ8 hμ8 => ?_)
            obtain ⟨d10, hd10⟩ : ∃ q9 : zM, q9 = zup d1 (6 + k) 5 ((d (6 + k) 5) + ((sEnd d k).2.2)) := ⟨_, rfl⟩
            have hd9 : rv μ8 0 = d10 := by rw [hμ8, rv_up (t := 0) (o := (6 + k)) (i := 5) (x := (190 * 0 + 17 + 18 * k + 5)) (by unfold zrel; omega) (by rw [rp_ship (by omega)]; omega), hd1, hd10]
            have hd11 : rv μ8 6 = d := by rw [hμ8, rv_far (by omega)]; exact hv61
            refine z_aload_n hC dX8_settle_98 rfl ?_
            refine z_get hC iA_X8 rfl 0 (by decide) qF_X8_7 rfl dX8_settle_99 rl_0 (rd_0 (ca := ca) (ad := ad)) rfl ?_
            refine z_iconst hC dX8_settle_102 ?_
            refine z_iload_n hC dX8_settle_103 rfl ?_
            refine z_iconst hC dX8_settle_104 ?_
            refine z_callS hC [.int (iZ 0), .int (iZ k), .int (iZ 3)] 3 rfl dX8_settle_105 (fun l => m_X8_shipAt l _ _ _ 0 k 3) qM_X8_37 qT_X8_shipAt qi_X8 qC_X8_shipAt (by decide +kernel) (by decide) (by decide) (Nat.le_of_ble_eq_true rfl) (zk_pure ?_) rfl
            refine z_aload_n hC dX8_settle_108 rfl ?_
            refine z_get hC iA_X8 rfl 12 (by decide) qF_X8_63 rfl dX8_settle_109 rl_0 (rd_0 (ca := ca) (ad := ad)) rfl ?_
            refine z_top (b := (sEnd d k).1) (by rw [hμ8, zup_n (by omega), hfr.1 0 (by omega), hμ4e12]) ?_
            refine z_iast hC dX8_settle_112 rl_1 (rd_1 (ca := ca) (ad := ad)) (by omega) (by omega) (by decide) ?_
            refine z_nm (fun μ12 hμ12 => ?_)
            obtain ⟨d14, hd14⟩ : ∃ q9 : zM, q9 = zup d10 (6 + k) 3 ((sEnd d k).1) := ⟨_, rfl⟩
            have hd13 : rv μ12 0 = d14 := by rw [hμ12, rv_up (t := 0) (o := (6 + k)) (i := 3) (x := (190 * 0 + 17 + 18 * k + 3)) (by unfold zrel; omega) (by rw [rp_ship (by omega)]; omega), hd9, hd14]
            have hd15 : rv μ12 6 = d := by rw [hμ12, rv_far (by omega)]; exact hd11
            refine z_aload_n hC dX8_settle_113 rfl ?_
            refine z_get hC iA_X8 rfl 0 (by decide) qF_X8_7 rfl dX8_settle_114 rl_0 (rd_0 (ca := ca) (ad := ad)) rfl ?_
            refine z_iconst hC dX8_settle_117 ?_
            refine z_iload_n hC dX8_settle_118 rfl ?_
            refine z_iconst hC dX8_settle_119 ?_
            refine z_callS hC [.int (iZ 0), .int (iZ k), .int (iZ 4)] 3 rfl dX8_settle_120 (fun l => m_X8_shipAt l _ _ _ 0 k 4) qM_X8_37 qT_X8_shipAt qi_X8 qC_X8_shipAt (by decide +kernel) (by decide) (by decide) (Nat.le_of_ble_eq_true rfl) (zk_pure ?_) rfl
            refine z_aload_n hC dX8_settle_123 rfl ?_
            refine z_get hC iA_X8 rfl 13 (by decide) qF_X8_66 rfl dX8_settle_124 rl_0 (rd_0 (ca := ca) (ad := ad)) rfl ?_
            refine z_top (b := (sEnd d k).2.1) (by rw [hμ12, zup_n (by omega), hμ8, zup_n (by omega), hfr.1 0 (by omega), hμ4e13]) ?_
            refine z_iast hC dX8_settle_127 rl_1 (rd_1 (ca := ca) (ad := ad)) (by omega) (by omega) (by decide) ?_
            refine z_nm (fun μ16 hμ16 => ?_)
            obtain ⟨d18, hd18⟩ : ∃ q9 : zM, q9 = zup d14 (6 + k) 4 ((sEnd d k).2.1) := ⟨_, rfl⟩
            have hd17 : rv μ16 0 = d18 := by rw [hμ16, rv_up (t := 0) (o := (6 + k)) (i := 4) (x := (190 * 0 + 17 + 18 * k + 4)) (by unfold zrel; omega) (by rw [rp_ship (by omega)]; omega), hd13, hd18]
            have hd19 : rv μ16 6 = d := by rw [hμ16, rv_far (by omega)]; exact hd15
            refine z_aload_n hC dX8_settle_128 rfl ?_
            refine z_get hC iA_X8 rfl 0 (by decide) qF_X8_7 rfl dX8_settle_129 rl_0 (rd_0 (ca := ca) (ad := ad)) rfl ?_
            refine z_iconst hC dX8_settle_132 ?_
            refine z_iload_n hC dX8_settle_133 rfl ?_
            refine z_bipush hC dX8_settle_134 (by decide) ?_
            refine z_callS hC [.int (iZ 0), .int (iZ k), .int (iZ 6)] 3 rfl dX8_settle_136 (fun l => m_X8_shipAt l _ _ _ 0 k 6) qM_X8_37 qT_X8_shipAt qi_X8 qC_X8_shipAt (by decide +kernel) (by decide) (by decide) (Nat.le_of_ble_eq_true rfl) (zk_pure ?_) rfl
            refine z_iconst hC dX8_settle_139 ?_
            refine z_iast hC dX8_settle_140 rl_1 (rd_1 (ca := ca) (ad := ad)) (by omega) (by omega) (by decide) ?_
            refine z_nm (fun μ20 hμ20 => ?_)
            obtain ⟨d22, hd22⟩ : ∃ q9 : zM, q9 = zup d18 (6 + k) 6 0 := ⟨_, rfl⟩
            have hd21 : rv μ20 0 = d22 := by rw [hμ20, rv_up (t := 0) (o := (6 + k)) (i := 6) (x := (190 * 0 + 17 + 18 * k + 6)) (by unfold zrel; omega) (by rw [rp_ship (by omega)]; omega), hd17, hd22]
            have hd23 : rv μ20 6 = d := by rw [hμ20, rv_far (by omega)]; exact hd19
            refine z_aload_n hC dX8_settle_141 rfl ?_
            refine z_aload_n hC dX8_settle_142 rfl ?_
            refine z_get hC iA_X8 rfl 14 (by decide) qF_X8_69 rfl dX8_settle_143 rl_0 (rd_0 (ca := ca) (ad := ad)) rfl ?_
            refine z_top (b := (sEnd d k).2.2) (by rw [hμ20, zup_n (by omega), hμ16, zup_n (by omega), hμ12, zup_n (by omega), hμ8, zup_n (by omega), hfr.1 0 (by omega), hμ4e14]) ?_
            refine z_ldc hC (1000000) qc_X8_129 rfl dX8_settle_146 ?_
            refine z_iadd hC dX8_settle_148 ?_
            have hD1 : d1 = sDrop k 2 (sNum d k) 0 d := hD
            have e9 : opSettle d k = (((sEnd d k).2.2) + (1000000), zup (zup (zup (zup d1 (6 + k) 5 ((d (6 + k) 5) + ((sEnd d k).2.2))) (6 + k) 3 ((sEnd d k).1)) (6 + k) 4 ((sEnd d k).2.1)) (6 + k) 6 0) := by
              unfold opSettle
              rw [if_neg (by omega), if_neg (by omega)]; exact Prod.ext rfl (by show zup (sDrop k 2 (sNum d k) 0 _) _ _ _ = _; rw [sDrop_up (by omega) (by omega) _ _ _ (fun j hj => by rw [zup_n (by omega), zup_n (by omega)]; exact (hIF k (by omega) j (by omega)).1) (by omega), sDrop_up (by omega) (by omega) _ _ _ (fun j hj => by rw [zup_n (by omega)]; exact (hIF k (by omega) j (by omega)).1) (by omega), sDrop_up (by omega) (by omega) _ _ _ (fun j hj => (hIF k (by omega) j (by omega)).1) (by omega), ← hD1])
            have hμ20v : rv μ20 0 = (opSettle d k).2 := by rw [e9, hd21]; rw [hd22, hd18, hd14, hd10]
            have hμ20l : rSl μ3 μ20 := rSl_tr (rSl_fr hμ4f) (rSl_tr (rSl_f1 hfr) (rSl_f1 (by rw [hμ20, hμ16, hμ12, hμ8]; exact rF1_up (rF1_up (rF1_up (rF1_up (rF1_rf 0 _) (by omega)) (by omega)) (by omega)) (by omega))))
            have hv6 : rv μ20 6 = d := hd23
            refine z_top (b := (opSettle d k).1) (by rw [e9]) ?_
            have hHi : rHi μ20 n h := rHi_fr hX.2.1 (by rw [hμ20l.2.1 1 (by omega), hμ3f.1 0 (by omega)]) (fun x hx => by rw [hμ20l.2.2 x (by omega), hμ3f.2 x (by omega)])
            refine z_callV hC [.int (iZ ((opSettle d k).1))] 1 rfl dX8_settle_149 (fun l => m_X8_acted l G ca ad _ μ20 (opSettle d k).1 hr.1 n h hHi) qM_X8_112 qI_X8_acted qS_X8_acted qi_X8 qC_X8_acted (by decide +kernel) (by decide) (by decide) rl_0 (rd_0 (ca := ca) (ad := ad)) rfl (Nat.le_of_ble_eq_true rfl) (zk_int (fun μ24 hμ24 => ?_)) rfl
            refine z_iret hC dX8_settle_152 ⟨rfl, ?_⟩
            unfold rAct at hμ24
            unfold rStK sKeep
            by_cases q9 : -1000001 < (opSettle d k).1
            · rw [if_pos q9] at hμ24
              obtain ⟨a1, a2, a3, a4⟩ := hμ24
              rw [if_neg (by omega)]
              rw [hv6] at a1
              exact ⟨a2.trans hμ20v, a1, by rw [a4 3 (by omega), hμ20l.2.1 3 (by omega), hμ3f.1 0 (by omega)]; exact hX.2.2.1, hX.2.2.2.1, fun i hi => by rw [a3 2 (by omega), hμ20l.1 2 (by omega), hμ3f.1 2 (by omega)]; exact hX.2.2.2.2 i hi⟩
            · rw [if_neg q9] at hμ24
              rw [hμ24, if_pos (by omega)]
              exact ⟨hμ20v.trans (hr.2.2 (by omega)), hHi, by rw [hμ20l.2.1 3 (by omega), hμ3f.1 0 (by omega)]; exact hX.2.2.1, hX.2.2.2.1, fun i hi => by rw [hμ20l.1 2 (by omega), hμ3f.1 2 (by omega)]; exact hX.2.2.2.2 i hi⟩
          · exfalso; omega
        | succ r ih =>
          intro n9 hn μ1 d1 x hd1 hfr he hx hD
          have hv61 : rv μ1 6 = d := (rF1_v hfr (by omega)).trans hd6
          have hx9 : 0 ≤ d1 (11 + k) x ∧ d1 (11 + k) x < d 0 5 := by rw [he _ _ (by omega)]; exact hIF k (by omega) x (by omega)
          refine z_iload_n hC dX8_settle_43 rfl ?_
          refine z_iload_n hC dX8_settle_44 rfl ?_
          refine z_icmp_ge hC 80 dX8_settle_45 (by decide) (by omega) (by omega) (fun c_25 => ?_) (fun c_25 => ?_)
          · exfalso; omega
          · refine z_aload_n hC dX8_settle_48 rfl ?_
            refine z_get hC iA_X8 rfl 0 (by decide) qF_X8_7 rfl dX8_settle_49 rl_0 (rd_0 (ca := ca) (ad := ad)) rfl ?_
            refine z_iconst hC dX8_settle_52 ?_
            refine z_aload_n hC dX8_settle_53 rfl ?_
            refine z_get hC iA_X8 rfl 0 (by decide) qF_X8_7 rfl dX8_settle_54 rl_0 (rd_0 (ca := ca) (ad := ad)) rfl ?_
            refine z_iconst hC dX8_settle_57 ?_
            refine z_iload_n hC dX8_settle_58 rfl ?_
            refine z_bipush hC dX8_settle_59 (by decide) ?_
            refine z_iload_n hC dX8_settle_61 rfl ?_
            refine z_iadd hC dX8_settle_62 ?_
            refine z_callS hC [.int (iZ 0), .int (iZ k), .int (iZ (7 + x))] 3 rfl dX8_settle_63 (fun l => m_X8_shipAt l _ _ _ 0 k (7 + x)) qM_X8_37 qT_X8_shipAt qi_X8 qC_X8_shipAt (by decide +kernel) (by decide) (by decide) (Nat.le_of_ble_eq_true rfl) (zk_pure ?_) rfl
            refine z_iald hC dX8_settle_66 rl_1 (rd_1 (ca := ca) (ad := ad)) (by omega) (by omega) (by decide) ?_
            refine z_top (b := d1 (11 + k) x) ((rv_fx (by omega) (by omega)).symm.trans (congrFun (congrFun hd1 _) _)) ?_
            refine z_bipush hC dX8_settle_67 (by decide) ?_
            refine z_callS hC [.int (iZ 0), .int (iZ (d1 (11 + k) x)), .int (iZ 6)] 3 rfl dX8_settle_69 (fun l => m_X8_cargoAt l _ _ _ 0 (d1 (11 + k) x) 6) qM_X8_44 qT_X8_cargoAt qi_X8 qC_X8_cargoAt (by decide +kernel) (by decide) (by decide) (Nat.le_of_ble_eq_true rfl) (zk_pure ?_) rfl
            refine z_iconst hC dX8_settle_72 ?_
            refine z_iast hC dX8_settle_73 rl_1 (rd_1 (ca := ca) (ad := ad)) (by omega) (by omega) (by decide) ?_
            refine z_nm (fun μ26 hμ26 => ?_)
            obtain ⟨d28, hd28⟩ : ∃ q9 : zM, q9 = zup d1 (16 + (d1 (11 + k) x)) 6 2 := ⟨_, rfl⟩
            have hd27 : rv μ26 0 = d28 := by rw [hμ26, rv_up (t := 0) (o := (16 + (d1 (11 + k) x))) (i := 6) (x := (190 * 0 + 108 + 8 * (d1 (11 + k) x) + 6)) (by unfold zrel; omega) (by rw [rp_cargo (by omega)]; omega), hd1, hd28]
            have hd29 : rv μ26 6 = d := by rw [hμ26, rv_far (by omega)]; exact hv61
            refine z_iinc hC dX8_settle_74 rfl (by decide) rfl ?_
            refine z_goto hC 43 dX8_settle_77 (by decide) ?_
            refine z_weak (L' := [(3, .int (iZ (x + 1))), (0, .ref (ad 0)), (1, .int (iZ k)), (2, .int (iZ (d (6 + k) 6)))]) ⟨rfl, rfl, rfl, rfl, trivial⟩ ?_
            exact ih (n9 + 1) (by omega) μ26 d28 (x + 1) hd27 (by rw [hμ26]; exact rF1_up hfr (by omega)) (fun o i ho => by rw [hd28, zup_n (by omega)]; exact he o i ho) (by omega) (by rw [← hD, hd28]; rfl)
      refine z_weak (L' := [(3, .int (iZ 0)), (0, .ref (ad 0)), (1, .int (iZ k)), (2, .int (iZ (d (6 + k) 6)))]) ⟨rfl, rfl, rfl, rfl, trivial⟩ ?_
      exact LOOP (sNum d k) 0 (by omega) μ4 d 0 hd5 (rF1_rf 0 _) (fun _ _ _ => rfl) (by omega) rfl
    · refine z_ldc hC (-1000002) qc_X8_101 rfl dX8_settle_28 ?_
      have e9 : opSettle d k = ((-1000002), d) := by unfold opSettle; rw [if_neg (by omega), if_pos (by omega)]
      exact z_iret hC dX8_settle_30 ⟨by rw [e9], by rw [e9]; unfold rStK sKeep; rw [if_pos (by omega)]; exact hX⟩
  · refine z_ldc hC (-1000001) qc_X8_24 rfl dX8_settle_8 ?_
    have e9 : opSettle d k = ((-1000001), d) := by unfold opSettle; rw [if_pos (by omega)]
    exact z_iret hC dX8_settle_10 ⟨by rw [e9], by rw [e9]; unfold rStK sKeep; rw [if_pos (by omega)]; exact hX⟩
