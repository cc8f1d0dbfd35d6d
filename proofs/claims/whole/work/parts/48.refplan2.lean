set_option maxHeartbeats 4000000 in
set_option maxRecDepth 100000 in
/-- plan -/
theorem m_X8_plan (l : Launch) (G : va_G) (ca : Nat → ClassId) (ad : Int → Nat) (A : Nat → Prop) (μ : zM) (d : zM) (n : Int) (h : Int → zM) (L : Int) (t : Int → Int) (hX : rSt μ d n h L t) (hI : zInv d) (hOb : zObOK) (w : Int) (hw : -2147483648 ≤ w ∧ w ≤ 2147483647) : zMet l (rω G ca ad) A yX8_plan cX8_plan 12 (some .int) 7 166 [.ref (ad 0), .int (iZ w)] μ (zpI (.int (rPlan d w)) (fun μ' => rSt μ' d n h L t)) := by
  refine zMet_of (by decide) (Nat.le_of_ble_eq_true rfl) (fun Γ hC => ?_)
  show Z Γ _ μ 0 [(0, .ref (ad 0)), (1, .int (iZ w))] []
  obtain ⟨hB, hf5, hf6, hIF, hIS, hII, hIL⟩ := id hI
  obtain ⟨hN, hP, hB3, hB4⟩ := id hB
  obtain ⟨hN1, hN2⟩ := id hN
  refine z_iload_n hC dX8_plan_0 rfl ?_
  refine z_iconst hC dX8_plan_1 ?_
  refine z_iconst hC dX8_plan_2 ?_
  refine z_callS hC [.int (iZ w), .int (iZ 0), .int (iZ 3)] 3 rfl dX8_plan_3 (fun l => m_X8_in l _ _ _ w 0 3 (by omega) (by omega) (by omega)) qM_X8_29 qT_X8_in qi_X8 qC_X8_in (by decide +kernel) (by decide) (by decide) (Nat.le_of_ble_eq_true rfl) (zk_pure ?_) rfl
  refine z_ifb_ne hC 12 dX8_plan_6 (by decide) (fun c_1 => ?_) (fun c_1 => ?_)
  · refine z_aload_n hC dX8_plan_12 rfl ?_
    refine z_iconst hC dX8_plan_13 ?_
    refine z_iconst hC dX8_plan_14 ?_
    refine z_callV hC [.int (iZ 0), .int (iZ 5)] 2 rfl dX8_plan_15 (fun l => m_X8_copies l G ca ad _ μ 0 5 (by omega) (by omega) (by omega)) qM_X8_20 qI_X8_copies qS_X8_copies qi_X8 qC_X8_copies (by decide +kernel) (by decide) (by decide) rl_0 (rd_0 (ca := ca) (ad := ad)) rfl (Nat.le_of_ble_eq_true rfl) (zk_void (fun μ2 hμ2 => ?_)) rfl
    obtain ⟨hμ2v, hμ2f⟩ := id hμ2
    refine z_iconst hC dX8_plan_18 ?_
    refine z_istore_n hC dX8_plan_19 (by decide) rfl ?_
    refine z_iconst hC dX8_plan_20 ?_
    refine z_istore_n hC dX8_plan_21 (by decide) rfl ?_
    refine z_lconst hC dX8_plan_22 rfl ?_
    refine z_lstore hC dX8_plan_23 (by decide) rfl rfl ?_
    refine z_iconst hC dX8_plan_25 ?_
    refine z_istore hC dX8_plan_26 (by decide) rfl ?_
    refine z_iload hC dX8_plan_28 rfl ?_
    refine z_if_eq hC 207 dX8_plan_30 (by decide) (by omega) (fun c_3 => ?_) (fun c_3 => ?_)
    · exfalso; omega
    · have LOOP : ∀ (r : Nat) (μ1 d1 : zM) (m a : Int) (p : Int64), m + (r : Int) = 10 → 0 ≤ m → sPlan r d1 m a p = sPlan 10 d 0 0 0 → sCnt d1 0 (d1 0 5).toNat ≤ (r : Int) → zInv d1 → rv μ1 5 = d1 → rS5 μ μ1 → rSame d d1 → Z Γ (rω G ca ad) μ1 33 [(2, .int (iZ m)), (3, .int (iZ a)), (4, .long p), (6, .int (iZ 1)), (0, .ref (ad 0)), (1, .int (iZ w))] [] := by
        intro r
        refine Nat.strongRecOn r (fun r ih => ?_)
        intro μ1 d1 m a p hm hm0 hQ hO hI1 h5 hfr hsm
        have hd0 : rv μ1 0 = d := (rv_5 hfr (by omega)).trans hX.1
        have hpe5 : ∀ p, d 1 p = d1 1 p ∧ d 2 p = d1 2 p := fun p => ⟨(hsm 1 p (by omega)).symm, (hsm 2 p (by omega)).symm⟩
        have hS1 : d1 0 4 = d 0 4 := hsm 0 4 (by omega)
        have hC1 : d1 0 5 = d 0 5 := hsm 0 5 (by omega)
        obtain ⟨hN9, hP1, hB31, hB41⟩ := id hI1.1
        obtain ⟨hN91, hN92⟩ := id hN9
        refine z_iconst hC dX8_plan_33 ?_
        refine z_istore hC dX8_plan_34 (by decide) rfl ?_
        refine z_iconst hC dX8_plan_36 ?_
        refine z_istore hC dX8_plan_37 (by decide) rfl ?_
        refine z_iconst hC dX8_plan_39 ?_
        refine z_istore hC dX8_plan_40 (by decide) rfl ?_
        refine z_iconst hC dX8_plan_42 ?_
        refine z_istore hC dX8_plan_43 (by decide) rfl ?_
        have LOOPK : ∀ (r2 n2 : Nat), n2 + r2 = (d1 0 4).toNat → ∀ (μ2 : zM) (x sh cg mo : Int), x = 0 + (n2 : Int) → rFr μ1 μ2 → rPl (sAll d1 0 0 (d1 0 5).toNat n2 (0, 0, 0, 0)) sh cg mo → (-1 ≤ sh ∧ sh ≤ 100) → (-1 ≤ cg ∧ cg ≤ 100) → (0 ≤ mo ∧ mo ≤ 9801) → Z Γ (rω G ca ad) μ2 45 [(10, .int (iZ x)), (7, .int (iZ sh)), (8, .int (iZ cg)), (9, .int (iZ mo)), (2, .int (iZ m)), (3, .int (iZ a)), (4, .long p), (6, .int (iZ 1)), (0, .ref (ad 0)), (1, .int (iZ w))] [] := by
          intro r2
          induction r2 with
          | zero =>
            intro n2 hn2 μ2 x sh cg mo hx hf2 hK hsh hcg hmo
            have hd02 : rv μ2 0 = d := (rv_fr hf2).trans hd0
            have hd52 : rv μ2 5 = d1 := (rv_fr hf2).trans h5
            obtain rfl : n2 = (d1 0 4).toNat := by omega
            refine z_iload hC dX8_plan_45 rfl ?_
            refine z_aload_n hC dX8_plan_47 rfl ?_
            refine z_get hC iA_X8 rfl 0 (by decide) qF_X8_7 rfl dX8_plan_48 rl_0 (rd_0 (ca := ca) (ad := ad)) rfl ?_
            refine z_bipush hC dX8_plan_51 (by decide) ?_
            refine z_iald hC dX8_plan_53 rl_1 (rd_1 (ca := ca) (ad := ad)) (by omega) (by omega) (by decide) ?_
            refine z_top (b := d 0 4) ((rv_S).symm.trans (congrFun (congrFun hd02 _) _)) ?_
            refine z_icmp_ge hC 135 dX8_plan_54 (by decide) (by omega) (by omega) (fun c_4 => ?_) (fun c_4 => ?_)
            · refine z_iload hC dX8_plan_135 rfl ?_
              refine z_if_lt hC 144 dX8_plan_137 (by decide) (by omega) (fun c_5 => ?_) (fun c_5 => ?_)
              · refine z_iconst hC dX8_plan_144 ?_
                refine z_istore hC dX8_plan_145 (by decide) rfl ?_
                refine z_iload hC dX8_plan_147 rfl ?_
                refine z_if_eq hC 204 dX8_plan_149 (by decide) (by omega) (fun c_6 => ?_) (fun c_6 => ?_)
                · refine z_goto hC 28 dX8_plan_204 (by decide) ?_
                  refine z_iload hC dX8_plan_28 rfl ?_
                  refine z_if_eq hC 207 dX8_plan_30 (by decide) (by omega) (fun c_7 => ?_) (fun c_7 => ?_)
                  · have hng : ¬ ((sBest d1).1 = 1 ∧ 0 < (sBest d1).2.2.2) := by
                      rcases hK with ⟨q1, q2, q3, q4, q5⟩ | ⟨q, _⟩
                      · have hbk := (sBest_c hI1.1.1 q1).1; exact absurd q3 (by unfold sBest at hbk; omega)
                      · exact q
                    have hQ2 : sPlan 10 d 0 0 0 = (d1, m, a, p) := by
                      rw [← hQ]
                      cases r with
                      | zero => rfl
                      | succ r => exact if_neg hng
                    refine z_iconst hC dX8_plan_207 ?_
                    refine z_istore hC dX8_plan_208 (by decide) rfl ?_
                    refine z_iconst hC dX8_plan_210 ?_
                    refine z_istore hC dX8_plan_211 (by decide) rfl ?_
                    have LOOPO : ∀ (r4 n4 : Nat), n4 + r4 = (d1 0 5).toNat → True → Z Γ (rω G ca ad) μ2 213 [(8, .int (iZ (n4 : Int))), (7, .int (sOpen d1 n4)), (2, .int (iZ m)), (3, .int (iZ a)), (4, .long p), (0, .ref (ad 0)), (1, .int (iZ w))] [] := by
                      intro r4
                      induction r4 with
                      | zero =>
                        intro n4 hn4 _
                        obtain rfl : n4 = (d1 0 5).toNat := by omega
                        refine z_iload hC dX8_plan_213 rfl ?_
                        refine z_aload_n hC dX8_plan_215 rfl ?_
                        refine z_get hC iA_X8 rfl 0 (by decide) qF_X8_7 rfl dX8_plan_216 rl_0 (rd_0 (ca := ca) (ad := ad)) rfl ?_
                        refine z_bipush hC dX8_plan_219 (by decide) ?_
                        refine z_iald hC dX8_plan_221 rl_1 (rd_1 (ca := ca) (ad := ad)) (by omega) (by omega) (by decide) ?_
                        refine z_top (b := d 0 5) ((rv_C).symm.trans (congrFun (congrFun hd02 _) _)) ?_
                        refine z_icmp_ge hC 260 dX8_plan_222 (by decide) (by omega) (by omega) (fun c_8 => ?_) (fun c_8 => ?_)
                        · refine z_iconst hC dX8_plan_260 ?_
                          refine z_istore hC dX8_plan_261 (by decide) rfl ?_
                          refine z_iconst hC dX8_plan_263 ?_
                          refine z_istore hC dX8_plan_264 (by decide) rfl ?_
                          have LOOPB : ∀ (r5 n5 : Nat), n5 + r5 = 64 → True → Z Γ (rω G ca ad) μ2 266 [(9, .int (iZ (n5 : Int))), (8, .int (iZ (sBt p n5))), (7, .int (sOpen d1 (d1 0 5).toNat)), (2, .int (iZ m)), (3, .int (iZ a)), (4, .long p), (0, .ref (ad 0)), (1, .int (iZ w))] [] := by
                            intro r5
                            induction r5 with
                            | zero =>
                              intro n5 hn5 _
                              obtain rfl : n5 = 64 := by omega
                              have hsb := sBt_b p 64
                              refine z_iload hC dX8_plan_266 rfl ?_
                              refine z_bipush hC dX8_plan_268 (by decide) ?_
                              refine z_icmp_ge hC 292 dX8_plan_270 (by decide) (by omega) (by omega) (fun c_9 => ?_) (fun c_9 => ?_)
                              · refine z_iload_n hC dX8_plan_292 rfl ?_
                                refine z_if_ne hC 300 dX8_plan_293 (by decide) (by omega) (fun c_10 => ?_) (fun c_10 => ?_)
                                · refine z_iload_n hC dX8_plan_300 rfl ?_
                                  refine z_iconst hC dX8_plan_301 ?_
                                  refine z_icmp_ne hC 309 dX8_plan_302 (by decide) (by omega) (by omega) (fun c_11 => ?_) (fun c_11 => ?_)
                                  · refine z_iload_n hC dX8_plan_309 rfl ?_
                                    refine z_iconst hC dX8_plan_310 ?_
                                    refine z_icmp_ne hC 319 dX8_plan_311 (by decide) (by omega) (by omega) (fun c_12 => ?_) (fun c_12 => ?_)
                                    · refine z_iload hC dX8_plan_319 rfl ?_
                                      exact z_iret hC dX8_plan_321 ⟨by unfold rPlan; rw [if_neg (by omega), if_neg (by omega), if_neg (by omega), if_neg (by omega), hQ2], rSt_5 hX (rS5_tr hfr (rS5_fr hf2))⟩
                                    · refine z_iload hC dX8_plan_314 rfl ?_
                                      refine z_goto hC 321 dX8_plan_316 (by decide) ?_
                                      exact z_iret hC dX8_plan_321 ⟨by unfold rPlan; rw [if_neg (by omega), if_neg (by omega), if_neg (by omega), if_pos (by omega), hQ2], rSt_5 hX (rS5_tr hfr (rS5_fr hf2))⟩
                                  · refine z_iload_n hC dX8_plan_305 rfl ?_
                                    refine z_goto hC 321 dX8_plan_306 (by decide) ?_
                                    exact z_iret hC dX8_plan_321 ⟨by unfold rPlan; rw [if_neg (by omega), if_neg (by omega), if_pos (by omega), hQ2], rSt_5 hX (rS5_tr hfr (rS5_fr hf2))⟩
                                · refine z_iload_n hC dX8_plan_296 rfl ?_
                                  refine z_goto hC 321 dX8_plan_297 (by decide) ?_
                                  exact z_iret hC dX8_plan_321 ⟨by unfold rPlan; rw [if_neg (by omega), if_pos (by omega), hQ2], rSt_5 hX (rS5_tr hfr (rS5_fr hf2))⟩
                              · exfalso; omega
                            | succ r5 ih5 =>
                              intro n5 hn5 _
                              have hsb := sBt_b p n5
                              have hjb := jBt_b p n5
                              refine z_iload hC dX8_plan_266 rfl ?_
                              refine z_bipush hC dX8_plan_268 (by decide) ?_
                              refine z_icmp_ge hC 292 dX8_plan_270 (by decide) (by omega) (by omega) (fun c_13 => ?_) (fun c_13 => ?_)
                              · exfalso; omega
                              · refine z_iload hC dX8_plan_273 rfl ?_
                                refine z_lload hC dX8_plan_275 rfl ?_
                                refine z_iload hC dX8_plan_277 rfl ?_
                                refine z_lshr hC dX8_plan_279 rfl ?_
                                refine z_lconst hC dX8_plan_280 rfl ?_
                                refine z_land hC dX8_plan_281 ?_
                                refine z_l2i hC dX8_plan_282 rfl ?_
                                refine z_top32 (b := iZ (jBt p n5)) (jBt_e p n5 (by omega)) ?_
                                refine z_iadd hC dX8_plan_283 ?_
                                refine z_istore hC dX8_plan_284 (by decide) rfl ?_
                                refine z_iinc hC dX8_plan_286 rfl (by decide) rfl ?_
                                refine z_goto hC 266 dX8_plan_289 (by decide) ?_
                                refine z_weak (L' := [(9, .int (iZ ((n5 + 1 : Nat) : Int))), (8, .int (iZ (sBt p n5 + jBt p n5))), (7, .int (sOpen d1 (d1 0 5).toNat)), (2, .int (iZ m)), (3, .int (iZ a)), (4, .long p), (0, .ref (ad 0)), (1, .int (iZ w))]) ⟨rfl, rfl, rfl, rfl, rfl, rfl, rfl, rfl, trivial⟩ ?_
                                exact ih5 (n5 + 1) (by omega) trivial
                          refine z_weak (L' := [(9, .int (iZ ((0 : Nat) : Int))), (8, .int (iZ (sBt p 0))), (7, .int (sOpen d1 (d1 0 5).toNat)), (2, .int (iZ m)), (3, .int (iZ a)), (4, .long p), (0, .ref (ad 0)), (1, .int (iZ w))]) ⟨rfl, rfl, rfl, rfl, rfl, rfl, rfl, rfl, trivial⟩ ?_
                          exact LOOPB 64 0 (by omega) trivial
                        · exfalso; omega
                      | succ r4 ih4 =>
                        intro n4 hn4 _
                        have hn9 : (n4 : Int) < d1 0 5 := by omega
                        obtain ⟨hq0, hq1, hq2, hq3, hq4, hq5, hq6⟩ := hB41 (n4 : Int) (by omega)
                        refine z_iload hC dX8_plan_213 rfl ?_
                        refine z_aload_n hC dX8_plan_215 rfl ?_
                        refine z_get hC iA_X8 rfl 0 (by decide) qF_X8_7 rfl dX8_plan_216 rl_0 (rd_0 (ca := ca) (ad := ad)) rfl ?_
                        refine z_bipush hC dX8_plan_219 (by decide) ?_
                        refine z_iald hC dX8_plan_221 rl_1 (rd_1 (ca := ca) (ad := ad)) (by omega) (by omega) (by decide) ?_
                        refine z_top (b := d 0 5) ((rv_C).symm.trans (congrFun (congrFun hd02 _) _)) ?_
                        refine z_icmp_ge hC 260 dX8_plan_222 (by decide) (by omega) (by omega) (fun c_14 => ?_) (fun c_14 => ?_)
                        · exfalso; omega
                        · refine z_iload hC dX8_plan_225 rfl ?_
                          refine z_aload_n hC dX8_plan_227 rfl ?_
                          refine z_get hC iA_X8 rfl 0 (by decide) qF_X8_7 rfl dX8_plan_228 rl_0 (rd_0 (ca := ca) (ad := ad)) rfl ?_
                          refine z_iconst hC dX8_plan_231 ?_
                          refine z_iload hC dX8_plan_232 rfl ?_
                          refine z_bipush hC dX8_plan_234 (by decide) ?_
                          refine z_callS hC [.int (iZ 5), .int (iZ (n4 : Int)), .int (iZ 6)] 3 rfl dX8_plan_236 (fun l => m_X8_cargoAt l _ _ _ 5 (n4 : Int) 6) qM_X8_44 qT_X8_cargoAt qi_X8 qC_X8_cargoAt (by decide +kernel) (by decide) (by decide) (Nat.le_of_ble_eq_true rfl) (zk_pure ?_) rfl
                          refine z_iald hC dX8_plan_239 rl_1 (rd_1 (ca := ca) (ad := ad)) (by omega) (by omega) (by decide) ?_
                          refine z_top (b := d1 (16 + (n4 : Int)) 6) ((rv_cargo (by omega) (by omega)).symm.trans (congrFun (congrFun hd52 _) _)) ?_
                          refine z_if_ne hC 250 dX8_plan_240 (by decide) (by omega) (fun c_15 => ?_) (fun c_15 => ?_)
                          · refine z_iconst hC dX8_plan_250 ?_
                            refine z_ior hC dX8_plan_251 ?_
                            refine z_istore hC dX8_plan_252 (by decide) rfl ?_
                            refine z_iinc hC dX8_plan_254 rfl (by decide) rfl ?_
                            refine z_goto hC 213 dX8_plan_257 (by decide) ?_
                            have e9 : sOpen d1 (n4 + 1) = (sOpen d1 n4) ||| (iZ 0) := by show (if _ then _ else _) = _; rw [if_neg (by omega), or_z0]
                            refine z_weak (L' := [(8, .int (iZ ((n4 + 1 : Nat) : Int))), (7, .int ((sOpen d1 n4) ||| (iZ 0))), (2, .int (iZ m)), (3, .int (iZ a)), (4, .long p), (0, .ref (ad 0)), (1, .int (iZ w))]) ⟨rfl, rfl, rfl, rfl, rfl, rfl, rfl, trivial⟩ ?_
                            rw [← e9]; exact ih4 (n4 + 1) (by omega) trivial
                          · refine z_iconst hC dX8_plan_243 ?_
                            refine z_iload hC dX8_plan_244 rfl ?_
                            refine z_ishl hC dX8_plan_246 ?_
                            refine z_goto hC 251 dX8_plan_247 (by decide) ?_
                            refine z_ior hC dX8_plan_251 ?_
                            refine z_istore hC dX8_plan_252 (by decide) rfl ?_
                            refine z_iinc hC dX8_plan_254 rfl (by decide) rfl ?_
                            refine z_goto hC 213 dX8_plan_257 (by decide) ?_
                            have e9 : sOpen d1 (n4 + 1) = (sOpen d1 n4) ||| ((iZ 1 <<< (iZ (n4 : Int) &&& 31))) := by show (if _ then _ else _) = _; rw [if_pos (by omega)]
                            refine z_weak (L' := [(8, .int (iZ ((n4 + 1 : Nat) : Int))), (7, .int ((sOpen d1 n4) ||| ((iZ 1 <<< (iZ (n4 : Int) &&& 31))))), (2, .int (iZ m)), (3, .int (iZ a)), (4, .long p), (0, .ref (ad 0)), (1, .int (iZ w))]) ⟨rfl, rfl, rfl, rfl, rfl, rfl, rfl, trivial⟩ ?_
                            rw [← e9]; exact ih4 (n4 + 1) (by omega) trivial
                    refine z_weak (L' := [(8, .int (iZ ((0 : Nat) : Int))), (7, .int (sOpen d1 0)), (2, .int (iZ m)), (3, .int (iZ a)), (4, .long p), (0, .ref (ad 0)), (1, .int (iZ w))]) ⟨rfl, rfl, rfl, rfl, rfl, rfl, rfl, trivial⟩ ?_
                    exact LOOPO (d1 0 5).toNat 0 (by omega) trivial
                  · exfalso; omega
                · exfalso; omega
              · refine z_iconst hC dX8_plan_140 ?_
                refine z_goto hC 145 dX8_plan_141 (by decide) ?_
                refine z_istore hC dX8_plan_145 (by decide) rfl ?_
                refine z_iload hC dX8_plan_147 rfl ?_
                refine z_if_eq hC 204 dX8_plan_149 (by decide) (by omega) (fun c_16 => ?_) (fun c_16 => ?_)
                · exfalso; omega
                · refine z_aload_n hC dX8_plan_152 rfl ?_
                  refine z_iconst hC dX8_plan_153 ?_
                  refine z_iload hC dX8_plan_154 rfl ?_
                  refine z_iload hC dX8_plan_156 rfl ?_
                  obtain ⟨b1, b2, b3, b4, b5⟩ : (sBest d1).1 = 1 ∧ 0 < (sBest d1).2.2.2 ∧ sh = (sBest d1).2.1 ∧ cg = (sBest d1).2.2.1 ∧ mo = (sBest d1).2.2.2 := by
                    rcases hK with q | ⟨_, q, _⟩
                    · exact q
                    · omega
                  have hbk := sBest_c hI1.1.1 b1
                  rw [← b3, ← b4] at hbk
                  obtain ⟨hbk1, hbk2, hbo, hbc, hbe⟩ := hbk
                  have hf9 := zInv_full hI1 sh cg (by omega) (by omega) hbo
                  obtain ⟨hs0, hs1, hs2, hs3, hs4, hs6⟩ := hB31 sh (by omega)
                  obtain ⟨hq0, hq1, hq2, hq3, hq4, hq5, hq6⟩ := hB41 cg (by omega)
                  have hl1 : d1 (16 + cg) 1 = d (16 + cg) 1 := hsm _ _ (by omega)
                  have hl2 : d1 (16 + cg) 2 = d (16 + cg) 2 := hsm _ _ (by omega)
                  refine z_callV hC [.int (iZ 5), .int (iZ sh), .int (iZ cg)] 3 rfl dX8_plan_158 (fun l => m_X8_fixes l G ca ad _ μ2 5 (by omega) d1 hd52 sh cg (by omega) (by omega) (by omega)) qM_X8_102 qI_X8_fixes qS_X8_fixes qi_X8 qC_X8_fixes (by decide +kernel) (by decide) (by decide) rl_0 (rd_0 (ca := ca) (ad := ad)) rfl (Nat.le_of_ble_eq_true rfl) (zk_void (fun μ17 hμ17 => ?_)) rfl
                  obtain ⟨hμ17v0, hμ17f⟩ := id hμ17
                  have hμ17v : rv μ17 5 = (opFix d1 sh cg).2 := by rw [hμ17v0]; unfold opFix; rw [if_neg (by omega), if_neg (by omega)]
                  have hμ17d : rv μ17 0 = d := (rF1_v hμ17f (by omega)).trans hd02
                  refine z_iinc hC dX8_plan_161 rfl (by decide) rfl ?_
                  refine z_iload_n hC dX8_plan_164 rfl ?_
                  refine z_iload hC dX8_plan_165 rfl ?_
                  refine z_iadd hC dX8_plan_167 ?_
                  refine z_istore_n hC dX8_plan_168 (by decide) rfl ?_
                  refine z_lload hC dX8_plan_169 rfl ?_
                  refine z_lconst hC dX8_plan_171 rfl ?_
                  refine z_bipush hC dX8_plan_172 (by decide) ?_
                  refine z_aload_n hC dX8_plan_174 rfl ?_
                  refine z_get hC iA_X8 rfl 0 (by decide) qF_X8_7 rfl dX8_plan_175 rl_0 (rd_0 (ca := ca) (ad := ad)) rfl ?_
                  refine z_iconst hC dX8_plan_178 ?_
                  refine z_iload hC dX8_plan_179 rfl ?_
                  refine z_iconst hC dX8_plan_181 ?_
                  refine z_callS hC [.int (iZ 0), .int (iZ cg), .int (iZ 1)] 3 rfl dX8_plan_182 (fun l => m_X8_cargoAt l _ _ _ 0 cg 1) qM_X8_44 qT_X8_cargoAt qi_X8 qC_X8_cargoAt (by decide +kernel) (by decide) (by decide) (Nat.le_of_ble_eq_true rfl) (zk_pure ?_) rfl
                  refine z_iald hC dX8_plan_185 rl_1 (rd_1 (ca := ca) (ad := ad)) (by omega) (by omega) (by decide) ?_
                  refine z_top (b := d (16 + cg) 1) ((rv_cargo (by omega) (by omega)).symm.trans (congrFun (congrFun hμ17d _) _)) ?_
                  refine z_imul hC dX8_plan_186 ?_
                  refine z_aload_n hC dX8_plan_187 rfl ?_
                  refine z_get hC iA_X8 rfl 0 (by decide) qF_X8_7 rfl dX8_plan_188 rl_0 (rd_0 (ca := ca) (ad := ad)) rfl ?_
                  refine z_iconst hC dX8_plan_191 ?_
                  refine z_iload hC dX8_plan_192 rfl ?_
                  refine z_iconst hC dX8_plan_194 ?_
                  refine z_callS hC [.int (iZ 0), .int (iZ cg), .int (iZ 2)] 3 rfl dX8_plan_195 (fun l => m_X8_cargoAt l _ _ _ 0 cg 2) qM_X8_44 qT_X8_cargoAt qi_X8 qC_X8_cargoAt (by decide +kernel) (by decide) (by decide) (Nat.le_of_ble_eq_true rfl) (zk_pure ?_) rfl
                  refine z_iald hC dX8_plan_198 rl_1 (rd_1 (ca := ca) (ad := ad)) (by omega) (by omega) (by decide) ?_
                  refine z_top (b := d (16 + cg) 2) ((rv_cargo (by omega) (by omega)).symm.trans (congrFun (congrFun hμ17d _) _)) ?_
                  refine z_iadd hC dX8_plan_199 ?_
                  refine z_lshl hC dX8_plan_200 rfl ?_
                  refine z_lor hC dX8_plan_201 ?_
                  refine z_lstore hC dX8_plan_202 (by decide) rfl rfl ?_
                  refine z_goto hC 28 dX8_plan_204 (by decide) ?_
                  refine z_iload hC dX8_plan_28 rfl ?_
                  refine z_if_eq hC 207 dX8_plan_30 (by decide) (by omega) (fun c_18 => ?_) (fun c_18 => ?_)
                  · exfalso; omega
                  · refine z_weak (L' := [(2, .int (iZ (m + 1))), (3, .int (iZ (a + mo))), (4, .long (p ||| sPair d cg)), (6, .int (iZ 1)), (0, .ref (ad 0)), (1, .int (iZ w))]) ⟨rfl, rfl, rfl, rfl, rfl, rfl, trivial⟩ ?_
                    have hp9 : sPair d cg = sPair d1 cg := (sPair_s hsm (by omega)).symm
                    have hc8 := sCnt_fix (d := d1) (k := sh) (c := cg) (by omega) (by omega) hbo hbc (by omega)
                    have hc7 := sCnt_b (opFix d1 sh cg).2 0 ((opFix d1 sh cg).2 0 5).toNat
                    obtain ⟨r', rfl⟩ : ∃ r', r = r' + 1 := ⟨r - 1, by omega⟩
                    have hQ9 : sPlan r' (opFix d1 sh cg).2 (m + 1) (a + mo) (p ||| sPair d cg) = sPlan 10 d 0 0 0 := by
                      rw [← hQ, hp9, b3, b4, b5]; exact (if_pos ⟨b1, b2⟩).symm
                    exact ih r' (by omega) μ17 (opFix d1 sh cg).2 (m + 1) (a + mo) _ (by omega) (by omega) hQ9 (by omega) (zOb_fix hOb hI1 (by omega) (by omega)) hμ17v (rS5_tr hfr (rS5_tr (rS5_fr hf2) (rS5_f1 hμ17f))) (rSame_fix hsm (by omega))
            · exfalso; omega
          | succ r2 ih2 =>
            intro n2 hn2 μ2 x sh cg mo hx hf2 hK hsh hcg hmo
            have hd02 : rv μ2 0 = d := (rv_fr hf2).trans hd0
            have hd52 : rv μ2 5 = d1 := (rv_fr hf2).trans h5
            have hkx : 0 ≤ x ∧ x < d1 0 4 := by omega
            obtain ⟨hs0, hs1, hs2, hs3, hs4, hs6⟩ := hB31 x hkx
            refine z_iload hC dX8_plan_45 rfl ?_
            refine z_aload_n hC dX8_plan_47 rfl ?_
            refine z_get hC iA_X8 rfl 0 (by decide) qF_X8_7 rfl dX8_plan_48 rl_0 (rd_0 (ca := ca) (ad := ad)) rfl ?_
            refine z_bipush hC dX8_plan_51 (by decide) ?_
            refine z_iald hC dX8_plan_53 rl_1 (rd_1 (ca := ca) (ad := ad)) (by omega) (by omega) (by decide) ?_
            refine z_top (b := d 0 4) ((rv_S).symm.trans (congrFun (congrFun hd02 _) _)) ?_
            refine z_icmp_ge hC 135 dX8_plan_54 (by decide) (by omega) (by omega) (fun c_19 => ?_) (fun c_19 => ?_)
            · exfalso; omega
            · refine z_iconst hC dX8_plan_57 ?_
              refine z_istore hC dX8_plan_58 (by decide) rfl ?_
              have LOOPC : ∀ (r3 n3 : Nat), n3 + r3 = (d1 0 5).toNat → ∀ (μ3 : zM) (y sh cg mo : Int), y = 0 + (n3 : Int) → rFr μ1 μ3 → rPl (sRow d1 x 0 n3 (sAll d1 0 0 (d1 0 5).toNat n2 (0, 0, 0, 0))) sh cg mo → (-1 ≤ sh ∧ sh ≤ 100) → (-1 ≤ cg ∧ cg ≤ 100) → (0 ≤ mo ∧ mo ≤ 9801) → Z Γ (rω G ca ad) μ3 60 [(11, .int (iZ y)), (10, .int (iZ x)), (7, .int (iZ sh)), (8, .int (iZ cg)), (9, .int (iZ mo)), (2, .int (iZ m)), (3, .int (iZ a)), (4, .long p), (6, .int (iZ 1)), (0, .ref (ad 0)), (1, .int (iZ w))] [] := by
                intro r3
                induction r3 with
                | zero =>
                  intro n3 hn3 μ3 y sh cg mo hy hf3 hK hsh hcg hmo
                  have hd03 : rv μ3 0 = d := (rv_fr hf3).trans hd0
                  have hd53 : rv μ3 5 = d1 := (rv_fr hf3).trans h5
                  refine z_iload hC dX8_plan_60 rfl ?_
                  refine z_aload_n hC dX8_plan_62 rfl ?_
                  refine z_get hC iA_X8 rfl 0 (by decide) qF_X8_7 rfl dX8_plan_63 rl_0 (rd_0 (ca := ca) (ad := ad)) rfl ?_
                  refine z_bipush hC dX8_plan_66 (by decide) ?_
                  refine z_iald hC dX8_plan_68 rl_1 (rd_1 (ca := ca) (ad := ad)) (by omega) (by omega) (by decide) ?_
                  refine z_top (b := d 0 5) ((rv_C).symm.trans (congrFun (congrFun hd03 _) _)) ?_
                  refine z_icmp_ge hC 129 dX8_plan_69 (by decide) (by omega) (by omega) (fun c_20 => ?_) (fun c_20 => ?_)
                  · refine z_iinc hC dX8_plan_129 rfl (by decide) rfl ?_
                    refine z_goto hC 45 dX8_plan_132 (by decide) ?_
                    obtain rfl : n3 = (d1 0 5).toNat := by omega
                    have eA : sAll d1 0 0 (d1 0 5).toNat (n2 + 1) (0, 0, 0, 0) = sRow d1 x 0 (d1 0 5).toNat (sAll d1 0 0 (d1 0 5).toNat n2 (0, 0, 0, 0)) := by rw [hx]; rfl
                    refine z_weak (L' := [(10, .int (iZ (x + 1))), (7, .int (iZ sh)), (8, .int (iZ cg)), (9, .int (iZ mo)), (2, .int (iZ m)), (3, .int (iZ a)), (4, .long p), (6, .int (iZ 1)), (0, .ref (ad 0)), (1, .int (iZ w))]) ⟨rfl, rfl, rfl, rfl, rfl, rfl, rfl, rfl, rfl, rfl, trivial⟩ ?_
                    exact ih2 (n2 + 1) (by omega) μ3 (x + 1) sh cg mo (by omega) hf3 (by rw [eA]; exact hK) hsh hcg hmo
                  · exfalso; omega
                | succ r3 ih3 =>
                  intro n3 hn3 μ3 y sh cg mo hy hf3 hK hsh hcg hmo
                  have hd03 : rv μ3 0 = d := (rv_fr hf3).trans hd0
                  have hd53 : rv μ3 5 = d1 := (rv_fr hf3).trans h5
                  have hky : 0 ≤ y ∧ y < d1 0 5 := by omega
                  obtain ⟨hq0, hq1, hq2, hq3, hq4, hq5, hq6⟩ := hB41 y hky
                  have hcb := sCould_b d1 x y
                  have heb : -300000 ≤ sEarn d1 x y (sEnd d1 x).1 (sEnd d1 x).2.1 ∧ sEarn d1 x y (sEnd d1 x).1 (sEnd d1 x).2.1 ≤ 9801 := sEa_b hI1.1 hkx hky (zInv_G hI1 x hkx)
                  have h01 := sRow_01 (d := d1) (k := x) (c := 0) (sAll_01 (d := d1) (k := 0) (c := 0) (m := (d1 0 5).toNat) (q := (0, 0, 0, 0)) (Or.inl rfl) n2) n3
                  refine z_iload hC dX8_plan_60 rfl ?_
                  refine z_aload_n hC dX8_plan_62 rfl ?_
                  refine z_get hC iA_X8 rfl 0 (by decide) qF_X8_7 rfl dX8_plan_63 rl_0 (rd_0 (ca := ca) (ad := ad)) rfl ?_
                  refine z_bipush hC dX8_plan_66 (by decide) ?_
                  refine z_iald hC dX8_plan_68 rl_1 (rd_1 (ca := ca) (ad := ad)) (by omega) (by omega) (by decide) ?_
                  refine z_top (b := d 0 5) ((rv_C).symm.trans (congrFun (congrFun hd03 _) _)) ?_
                  refine z_icmp_ge hC 129 dX8_plan_69 (by decide) (by omega) (by omega) (fun c_21 => ?_) (fun c_21 => ?_)
                  · exfalso; omega
                  · refine z_aload_n hC dX8_plan_72 rfl ?_
                    refine z_get hC iA_X8 rfl 0 (by decide) qF_X8_7 rfl dX8_plan_73 rl_0 (rd_0 (ca := ca) (ad := ad)) rfl ?_
                    refine z_iconst hC dX8_plan_76 ?_
                    refine z_iload hC dX8_plan_77 rfl ?_
                    refine z_bipush hC dX8_plan_79 (by decide) ?_
                    refine z_callS hC [.int (iZ 5), .int (iZ y), .int (iZ 6)] 3 rfl dX8_plan_81 (fun l => m_X8_cargoAt l _ _ _ 5 y 6) qM_X8_44 qT_X8_cargoAt qi_X8 qC_X8_cargoAt (by decide +kernel) (by decide) (by decide) (Nat.le_of_ble_eq_true rfl) (zk_pure ?_) rfl
                    refine z_iald hC dX8_plan_84 rl_1 (rd_1 (ca := ca) (ad := ad)) (by omega) (by omega) (by decide) ?_
                    refine z_top (b := d1 (16 + y) 6) ((rv_cargo (by omega) (by omega)).symm.trans (congrFun (congrFun hd53 _) _)) ?_
                    refine z_if_ne hC 123 dX8_plan_85 (by decide) (by omega) (fun c_22 => ?_) (fun c_22 => ?_)
                    · refine z_iinc hC dX8_plan_123 rfl (by decide) rfl ?_
                      refine z_goto hC 60 dX8_plan_126 (by decide) ?_
                      have eR : sRow d1 x 0 (n3 + 1) (sAll d1 0 0 (d1 0 5).toNat n2 (0, 0, 0, 0)) = sStep d1 x y (sRow d1 x 0 n3 (sAll d1 0 0 (d1 0 5).toNat n2 (0, 0, 0, 0))) := by rw [hy]; rfl
                      refine z_weak (L' := [(11, .int (iZ (y + 1))), (10, .int (iZ x)), (7, .int (iZ sh)), (8, .int (iZ cg)), (9, .int (iZ mo)), (2, .int (iZ m)), (3, .int (iZ a)), (4, .long p), (6, .int (iZ 1)), (0, .ref (ad 0)), (1, .int (iZ w))]) ⟨rfl, rfl, rfl, rfl, rfl, rfl, rfl, rfl, rfl, rfl, rfl, trivial⟩ ?_
                      exact ih3 (n3 + 1) (by omega) μ3 (y + 1) sh cg mo (by omega) (hf3) (by rw [eR]; exact rPl_n hK (by unfold sEa; omega)) hsh hcg hmo
                    · refine z_aload_n hC dX8_plan_88 rfl ?_
                      refine z_iconst hC dX8_plan_89 ?_
                      refine z_iload hC dX8_plan_90 rfl ?_
                      refine z_iload hC dX8_plan_92 rfl ?_
                      refine z_callV hC [.int (iZ 5), .int (iZ x), .int (iZ y)] 3 rfl dX8_plan_94 (fun l => m_X8_could l G ca ad _ μ3 d hd03 5 (by omega) d1 hd53 hpe5 hP x y hI1.1 (by omega) (by omega) (fOk_of hI1 (by omega)) (late_of hI1 (by omega))) qM_X8_98 qI_X8_could qS_X8_could qi_X8 qC_X8_could (by decide +kernel) (by decide) (by decide) rl_0 (rd_0 (ca := ca) (ad := ad)) rfl (Nat.le_of_ble_eq_true rfl) (zk_int (fun μ23 hμ23 => ?_)) rfl
                      obtain ⟨hμ23f, ⟨hμ238, hμ239, hμ23a, hμ23b⟩, hμ2313⟩ := id hμ23
                      have hd24 : rv μ23 0 = d := by rw [rv_fr hμ23f]; exact hd03
                      have hd25 : rv μ23 5 = d1 := by rw [rv_fr hμ23f]; exact hd53
                      refine z_if_ne hC 123 dX8_plan_97 (by decide) (by omega) (fun c_26 => ?_) (fun c_26 => ?_)
                      · refine z_iinc hC dX8_plan_123 rfl (by decide) rfl ?_
                        refine z_goto hC 60 dX8_plan_126 (by decide) ?_
                        have eR : sRow d1 x 0 (n3 + 1) (sAll d1 0 0 (d1 0 5).toNat n2 (0, 0, 0, 0)) = sStep d1 x y (sRow d1 x 0 n3 (sAll d1 0 0 (d1 0 5).toNat n2 (0, 0, 0, 0))) := by rw [hy]; rfl
                        refine z_weak (L' := [(11, .int (iZ (y + 1))), (10, .int (iZ x)), (7, .int (iZ sh)), (8, .int (iZ cg)), (9, .int (iZ mo)), (2, .int (iZ m)), (3, .int (iZ a)), (4, .long p), (6, .int (iZ 1)), (0, .ref (ad 0)), (1, .int (iZ w))]) ⟨rfl, rfl, rfl, rfl, rfl, rfl, rfl, rfl, rfl, rfl, rfl, trivial⟩ ?_
                        exact ih3 (n3 + 1) (by omega) μ23 (y + 1) sh cg mo (by omega) (rFr_tr hf3 hμ23f) (by rw [eR]; exact rPl_n hK (by unfold sEa; omega)) hsh hcg hmo
                      · refine z_aload_n hC dX8_plan_100 rfl ?_
                        refine z_get hC iA_X8 rfl 11 (by decide) qF_X8_60 rfl dX8_plan_101 rl_0 (rd_0 (ca := ca) (ad := ad)) rfl ?_
                        refine z_top (b := sEarn d1 x y (sEnd d1 x).1 (sEnd d1 x).2.1) (by rw [hμ23b]) ?_
                        refine z_iload hC dX8_plan_104 rfl ?_
                        refine z_icmp_le hC 123 dX8_plan_106 (by decide) (by omega) (by omega) (fun c_27 => ?_) (fun c_27 => ?_)
                        · refine z_iinc hC dX8_plan_123 rfl (by decide) rfl ?_
                          refine z_goto hC 60 dX8_plan_126 (by decide) ?_
                          have eR : sRow d1 x 0 (n3 + 1) (sAll d1 0 0 (d1 0 5).toNat n2 (0, 0, 0, 0)) = sStep d1 x y (sRow d1 x 0 n3 (sAll d1 0 0 (d1 0 5).toNat n2 (0, 0, 0, 0))) := by rw [hy]; rfl
                          refine z_weak (L' := [(11, .int (iZ (y + 1))), (10, .int (iZ x)), (7, .int (iZ sh)), (8, .int (iZ cg)), (9, .int (iZ mo)), (2, .int (iZ m)), (3, .int (iZ a)), (4, .long p), (6, .int (iZ 1)), (0, .ref (ad 0)), (1, .int (iZ w))]) ⟨rfl, rfl, rfl, rfl, rfl, rfl, rfl, rfl, rfl, rfl, rfl, trivial⟩ ?_
                          exact ih3 (n3 + 1) (by omega) μ23 (y + 1) sh cg mo (by omega) (rFr_tr hf3 hμ23f) (by rw [eR]; exact rPl_n hK (by unfold sEa; omega)) hsh hcg hmo
                        · refine z_iload hC dX8_plan_109 rfl ?_
                          refine z_istore hC dX8_plan_111 (by decide) rfl ?_
                          refine z_iload hC dX8_plan_113 rfl ?_
                          refine z_istore hC dX8_plan_115 (by decide) rfl ?_
                          refine z_aload_n hC dX8_plan_117 rfl ?_
                          refine z_get hC iA_X8 rfl 11 (by decide) qF_X8_60 rfl dX8_plan_118 rl_0 (rd_0 (ca := ca) (ad := ad)) rfl ?_
                          refine z_top (b := sEarn d1 x y (sEnd d1 x).1 (sEnd d1 x).2.1) (by rw [hμ23b]) ?_
                          refine z_istore hC dX8_plan_121 (by decide) rfl ?_
                          refine z_iinc hC dX8_plan_123 rfl (by decide) rfl ?_
                          refine z_goto hC 60 dX8_plan_126 (by decide) ?_
                          have eR : sRow d1 x 0 (n3 + 1) (sAll d1 0 0 (d1 0 5).toNat n2 (0, 0, 0, 0)) = sStep d1 x y (sRow d1 x 0 n3 (sAll d1 0 0 (d1 0 5).toNat n2 (0, 0, 0, 0))) := by rw [hy]; rfl
                          refine z_weak (L' := [(11, .int (iZ (y + 1))), (10, .int (iZ x)), (7, .int (iZ x)), (8, .int (iZ y)), (9, .int (iZ (sEarn d1 x y (sEnd d1 x).1 (sEnd d1 x).2.1))), (2, .int (iZ m)), (3, .int (iZ a)), (4, .long p), (6, .int (iZ 1)), (0, .ref (ad 0)), (1, .int (iZ w))]) ⟨rfl, rfl, rfl, rfl, rfl, rfl, rfl, rfl, rfl, rfl, rfl, trivial⟩ ?_
                          exact ih3 (n3 + 1) (by omega) μ23 (y + 1) x y (sEarn d1 x y (sEnd d1 x).1 (sEnd d1 x).2.1) (by omega) (rFr_tr hf3 hμ23f) (by rw [eR]; exact rPl_p hK (by omega) (by omega) (by unfold sEa; omega) h01) (by omega) (by omega) (by omega)
              refine z_weak (L' := [(11, .int (iZ 0)), (10, .int (iZ x)), (7, .int (iZ sh)), (8, .int (iZ cg)), (9, .int (iZ mo)), (2, .int (iZ m)), (3, .int (iZ a)), (4, .long p), (6, .int (iZ 1)), (0, .ref (ad 0)), (1, .int (iZ w))]) ⟨rfl, rfl, rfl, rfl, rfl, rfl, rfl, rfl, rfl, rfl, rfl, trivial⟩ ?_
              exact LOOPC (d1 0 5).toNat 0 (by omega) μ2 0 sh cg mo (by omega) hf2 hK hsh hcg hmo
        refine z_weak (L' := [(10, .int (iZ 0)), (7, .int (iZ (-1))), (8, .int (iZ (-1))), (9, .int (iZ 0)), (2, .int (iZ m)), (3, .int (iZ a)), (4, .long p), (6, .int (iZ 1)), (0, .ref (ad 0)), (1, .int (iZ w))]) ⟨rfl, rfl, rfl, rfl, rfl, rfl, rfl, rfl, rfl, rfl, trivial⟩ ?_
        exact LOOPK (d1 0 4).toNat 0 (by omega) μ1 0 (-1) (-1) 0 (by omega) (rFr_rf μ1) (Or.inr ⟨fun z => absurd (show (0 : Int) = 1 from z.1) (by decide), rfl, rfl, rfl⟩) (by omega) (by omega) (by omega)
      refine z_weak (L' := [(2, .int (iZ 0)), (3, .int (iZ 0)), (4, .long 0), (6, .int (iZ 1)), (0, .ref (ad 0)), (1, .int (iZ w))]) ⟨rfl, rfl, rfl, rfl, rfl, rfl, trivial⟩ ?_
      have hc9 := sCnt_b d 0 (d 0 5).toNat
      exact LOOP 10 μ2 d 0 0 0 (by omega) (by omega) rfl (by omega) hI (hμ2v.trans hX.1) (rS5_f1 hμ2f) (fun _ _ _ => rfl)
  · refine z_ldc hC (-1000001) qc_X8_24 rfl dX8_plan_9 ?_
    exact z_iret hC dX8_plan_11 ⟨by unfold rPlan; rw [if_pos (by omega)], hX⟩
