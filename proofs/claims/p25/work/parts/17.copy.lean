set_option maxHeartbeats 4000000 in
set_option maxRecDepth 100000 in
/-- Ship.copyFrom(other) -/
theorem m_X6_copyFrom (l : Launch) (G : va_G) (ca : Nat → ClassId) (ad : Int → Nat) (A : Nat → Prop) (μ : zM) (b b2 : Int) (hb : zb b) (hb2 : zb b2) (hbb : b2 + 26 ≤ b ∨ b + 26 ≤ b2) (k : Int) (hk : 0 ≤ k ∧ k < 5) : zMet l (cω G ca ad) A yX6_copyFrom cX6_copyFrom 2 none 1 40 [.ref (ad (b + 6 + k)), .ref (ad (b2 + 6 + k))] μ (zpV (fun μ' => (∀ c i, c ≠ b + 6 + k → c ≠ b + 11 + k → μ' c i = μ c i) ∧ (∀ i, 0 ≤ i ∧ i < 7 → μ' (b + 6 + k) i = μ (b2 + 6 + k) i) ∧ (∀ i, 0 ≤ i ∧ i < 10 → μ' (b + 11 + k) i = μ (b2 + 11 + k) i))) := by
  refine zMet_of (by decide) (Nat.le_of_ble_eq_true rfl) (fun Γ hC => ?_)
  show Z Γ _ μ 0 [(0, .ref (ad (b + 6 + k))), (1, .ref (ad (b2 + 6 + k)))] []
  refine z_aload_n hC dX6_copyFrom_0 rfl ?_
  refine z_aload_n hC dX6_copyFrom_1 rfl ?_
  refine z_get hC iA_X6 rfl 0 (by decide) qF_X6_15 rfl dX6_copyFrom_2 (cl_ship hb2 (by omega)) (cd_ship hb2 (by omega)) rfl ?_
  refine z_put hC iA_X6 rfl tyX6 tyX6_ok nmX6 0 (by decide) rfl rfl 0 rfl qF_X6_15 rfl dX6_copyFrom_5 (cl_ship hb (by omega)) (cd_ship hb (by omega)) (fun _ => rfl) (fun _ => Nat.le_of_ble_eq_true rfl) ?_
  refine z_nm (fun μ1 hμ1 => ?_)
  refine z_aload_n hC dX6_copyFrom_8 rfl ?_
  refine z_aload_n hC dX6_copyFrom_9 rfl ?_
  refine z_get hC iA_X6 rfl 1 (by decide) qF_X6_19 rfl dX6_copyFrom_10 (cl_ship hb2 (by omega)) (cd_ship hb2 (by omega)) rfl ?_
  refine z_top (b := μ (b2 + 6 + k) 1) (by rw [hμ1, zup_n (by omega)]) ?_
  refine z_put hC iA_X6 rfl tyX6 tyX6_ok nmX6 1 (by decide) rfl rfl 1 rfl qF_X6_19 rfl dX6_copyFrom_13 (cl_ship hb (by omega)) (cd_ship hb (by omega)) (fun _ => rfl) (fun _ => Nat.le_of_ble_eq_true rfl) ?_
  refine z_nm (fun μ2 hμ2 => ?_)
  refine z_aload_n hC dX6_copyFrom_16 rfl ?_
  refine z_aload_n hC dX6_copyFrom_17 rfl ?_
  refine z_get hC iA_X6 rfl 2 (by decide) qF_X6_22 rfl dX6_copyFrom_18 (cl_ship hb2 (by omega)) (cd_ship hb2 (by omega)) rfl ?_
  refine z_top (b := μ (b2 + 6 + k) 2) (by rw [hμ2, zup_n (by omega), hμ1, zup_n (by omega)]) ?_
  refine z_put hC iA_X6 rfl tyX6 tyX6_ok nmX6 2 (by decide) rfl rfl 2 rfl qF_X6_22 rfl dX6_copyFrom_21 (cl_ship hb (by omega)) (cd_ship hb (by omega)) (fun _ => rfl) (fun _ => Nat.le_of_ble_eq_true rfl) ?_
  refine z_nm (fun μ3 hμ3 => ?_)
  refine z_aload_n hC dX6_copyFrom_24 rfl ?_
  refine z_aload_n hC dX6_copyFrom_25 rfl ?_
  refine z_get hC iA_X6 rfl 3 (by decide) qF_X6_25 rfl dX6_copyFrom_26 (cl_ship hb2 (by omega)) (cd_ship hb2 (by omega)) rfl ?_
  refine z_top (b := μ (b2 + 6 + k) 3) (by rw [hμ3, zup_n (by omega), hμ2, zup_n (by omega), hμ1, zup_n (by omega)]) ?_
  refine z_put hC iA_X6 rfl tyX6 tyX6_ok nmX6 3 (by decide) rfl rfl 3 rfl qF_X6_25 rfl dX6_copyFrom_29 (cl_ship hb (by omega)) (cd_ship hb (by omega)) (fun _ => rfl) (fun _ => Nat.le_of_ble_eq_true rfl) ?_
  refine z_nm (fun μ4 hμ4 => ?_)
  refine z_aload_n hC dX6_copyFrom_32 rfl ?_
  refine z_aload_n hC dX6_copyFrom_33 rfl ?_
  refine z_get hC iA_X6 rfl 4 (by decide) qF_X6_28 rfl dX6_copyFrom_34 (cl_ship hb2 (by omega)) (cd_ship hb2 (by omega)) rfl ?_
  refine z_top (b := μ (b2 + 6 + k) 4) (by rw [hμ4, zup_n (by omega), hμ3, zup_n (by omega), hμ2, zup_n (by omega), hμ1, zup_n (by omega)]) ?_
  refine z_put hC iA_X6 rfl tyX6 tyX6_ok nmX6 4 (by decide) rfl rfl 4 rfl qF_X6_28 rfl dX6_copyFrom_37 (cl_ship hb (by omega)) (cd_ship hb (by omega)) (fun _ => rfl) (fun _ => Nat.le_of_ble_eq_true rfl) ?_
  refine z_nm (fun μ5 hμ5 => ?_)
  refine z_aload_n hC dX6_copyFrom_40 rfl ?_
  refine z_aload_n hC dX6_copyFrom_41 rfl ?_
  refine z_get hC iA_X6 rfl 5 (by decide) qF_X6_31 rfl dX6_copyFrom_42 (cl_ship hb2 (by omega)) (cd_ship hb2 (by omega)) rfl ?_
  refine z_top (b := μ (b2 + 6 + k) 5) (by rw [hμ5, zup_n (by omega), hμ4, zup_n (by omega), hμ3, zup_n (by omega), hμ2, zup_n (by omega), hμ1, zup_n (by omega)]) ?_
  refine z_put hC iA_X6 rfl tyX6 tyX6_ok nmX6 5 (by decide) rfl rfl 5 rfl qF_X6_31 rfl dX6_copyFrom_45 (cl_ship hb (by omega)) (cd_ship hb (by omega)) (fun _ => rfl) (fun _ => Nat.le_of_ble_eq_true rfl) ?_
  refine z_nm (fun μ6 hμ6 => ?_)
  refine z_aload_n hC dX6_copyFrom_48 rfl ?_
  refine z_aload_n hC dX6_copyFrom_49 rfl ?_
  refine z_get hC iA_X6 rfl 6 (by decide) qF_X6_34 rfl dX6_copyFrom_50 (cl_ship hb2 (by omega)) (cd_ship hb2 (by omega)) rfl ?_
  refine z_top (b := μ (b2 + 6 + k) 6) (by rw [hμ6, zup_n (by omega), hμ5, zup_n (by omega), hμ4, zup_n (by omega), hμ3, zup_n (by omega), hμ2, zup_n (by omega), hμ1, zup_n (by omega)]) ?_
  refine z_put hC iA_X6 rfl tyX6 tyX6_ok nmX6 6 (by decide) rfl rfl 6 rfl qF_X6_34 rfl dX6_copyFrom_53 (cl_ship hb (by omega)) (cd_ship hb (by omega)) (fun _ => rfl) (fun _ => Nat.le_of_ble_eq_true rfl) ?_
  refine z_nm (fun μ7 hμ7 => ?_)
  refine z_aload_n hC dX6_copyFrom_56 rfl ?_
  refine z_get hC iA_X6 rfl 7 (by decide) qF_X6_9 rfl dX6_copyFrom_57 (cl_ship hb2 (by omega)) (cd_ship hb2 (by omega)) rfl ?_
  refine z_iconst hC dX6_copyFrom_60 ?_
  refine z_aload_n hC dX6_copyFrom_61 rfl ?_
  refine z_get hC iA_X6 rfl 7 (by decide) qF_X6_9 rfl dX6_copyFrom_62 (cl_ship hb (by omega)) (cd_ship hb (by omega)) rfl ?_
  refine z_iconst hC dX6_copyFrom_65 ?_
  refine z_bipush hC dX6_copyFrom_66 (by decide) ?_
  refine z_copy hC qM_X6_37 dX6_copyFrom_68 (cl_fx hb2 (by omega)) (cl_fx hb (by omega)) (n := 10) (cd_fx hb2 (by omega)) (cd_fx hb (by omega)) (by decide) (by decide) (Nat.le_of_ble_eq_true rfl) ?_
  refine z_nm (fun μ8 hμ8 => ?_)
  refine z_vret hC dX6_copyFrom_71 ⟨rfl, fun c i q1 q2 => ?_, fun i hi => ?_, fun i hi => ?_⟩
  · rw [hμ8]; dsimp only; rw [if_neg (by omega), hμ7, zup_n (by omega), hμ6, zup_n (by omega), hμ5, zup_n (by omega), hμ4, zup_n (by omega), hμ3, zup_n (by omega), hμ2, zup_n (by omega), hμ1, zup_n (by omega)]
  · rw [hμ8]; dsimp only; rw [if_neg (by omega)]
    have q : i = 0 ∨ i = 1 ∨ i = 2 ∨ i = 3 ∨ i = 4 ∨ i = 5 ∨ i = 6 := by omega
    rcases q with rfl | rfl | rfl | rfl | rfl | rfl | rfl
    · rw [hμ7, zup_n (by omega), hμ6, zup_n (by omega), hμ5, zup_n (by omega), hμ4, zup_n (by omega), hμ3, zup_n (by omega), hμ2, zup_n (by omega), hμ1, zup_s]
    · rw [hμ7, zup_n (by omega), hμ6, zup_n (by omega), hμ5, zup_n (by omega), hμ4, zup_n (by omega), hμ3, zup_n (by omega), hμ2, zup_s]
    · rw [hμ7, zup_n (by omega), hμ6, zup_n (by omega), hμ5, zup_n (by omega), hμ4, zup_n (by omega), hμ3, zup_s]
    · rw [hμ7, zup_n (by omega), hμ6, zup_n (by omega), hμ5, zup_n (by omega), hμ4, zup_s]
    · rw [hμ7, zup_n (by omega), hμ6, zup_n (by omega), hμ5, zup_s]
    · rw [hμ7, zup_n (by omega), hμ6, zup_s]
    · rw [hμ7, zup_s]
  · rw [hμ8]; dsimp only; rw [if_pos ⟨rfl, by omega, by omega⟩, hμ7, zup_n (by omega), hμ6, zup_n (by omega), hμ5, zup_n (by omega), hμ4, zup_n (by omega), hμ3, zup_n (by omega), hμ2, zup_n (by omega), hμ1, zup_n (by omega)]

set_option maxHeartbeats 4000000 in
set_option maxRecDepth 100000 in
/-- Cargo.copyFrom(other) -/
theorem m_X0_copyFrom (l : Launch) (G : va_G) (ca : Nat → ClassId) (ad : Int → Nat) (A : Nat → Prop) (μ : zM) (b b2 : Int) (hb : zb b) (hb2 : zb b2) (hbb : b2 + 26 ≤ b ∨ b + 26 ≤ b2) (k : Int) (hk : 0 ≤ k ∧ k < 10) : zMet l (cω G ca ad) A yX0_copyFrom cX0_copyFrom 2 none 0 0 [.ref (ad (b + 16 + k)), .ref (ad (b2 + 16 + k))] μ (zpV (fun μ' => (∀ c i, c ≠ b + 16 + k → μ' c i = μ c i) ∧ (∀ i, 0 ≤ i ∧ i < 8 → μ' (b + 16 + k) i = μ (b2 + 16 + k) i))) := by
  refine zMet_of (by decide) (Nat.le_of_ble_eq_true rfl) (fun Γ hC => ?_)
  show Z Γ _ μ 0 [(0, .ref (ad (b + 16 + k))), (1, .ref (ad (b2 + 16 + k)))] []
  refine z_aload_n hC dX0_copyFrom_0 rfl ?_
  refine z_aload_n hC dX0_copyFrom_1 rfl ?_
  refine z_get hC iA_X0 rfl 0 (by decide) qF_X0_7 rfl dX0_copyFrom_2 (cl_cargo hb2 (by omega)) (cd_cargo hb2 (by omega)) rfl ?_
  refine z_put hC iA_X0 rfl tyX0 tyX0_ok nmX0 0 (by decide) rfl rfl 0 rfl qF_X0_7 rfl dX0_copyFrom_5 (cl_cargo hb (by omega)) (cd_cargo hb (by omega)) (fun _ => rfl) (fun _ => Nat.le_of_ble_eq_true rfl) ?_
  refine z_nm (fun μ1 hμ1 => ?_)
  refine z_aload_n hC dX0_copyFrom_8 rfl ?_
  refine z_aload_n hC dX0_copyFrom_9 rfl ?_
  refine z_get hC iA_X0 rfl 1 (by decide) qF_X0_13 rfl dX0_copyFrom_10 (cl_cargo hb2 (by omega)) (cd_cargo hb2 (by omega)) rfl ?_
  refine z_top (b := μ (b2 + 16 + k) 1) (by rw [hμ1, zup_n (by omega)]) ?_
  refine z_put hC iA_X0 rfl tyX0 tyX0_ok nmX0 1 (by decide) rfl rfl 1 rfl qF_X0_13 rfl dX0_copyFrom_13 (cl_cargo hb (by omega)) (cd_cargo hb (by omega)) (fun _ => rfl) (fun _ => Nat.le_of_ble_eq_true rfl) ?_
  refine z_nm (fun μ2 hμ2 => ?_)
  refine z_aload_n hC dX0_copyFrom_16 rfl ?_
  refine z_aload_n hC dX0_copyFrom_17 rfl ?_
  refine z_get hC iA_X0 rfl 2 (by decide) qF_X0_16 rfl dX0_copyFrom_18 (cl_cargo hb2 (by omega)) (cd_cargo hb2 (by omega)) rfl ?_
  refine z_top (b := μ (b2 + 16 + k) 2) (by rw [hμ2, zup_n (by omega), hμ1, zup_n (by omega)]) ?_
  refine z_put hC iA_X0 rfl tyX0 tyX0_ok nmX0 2 (by decide) rfl rfl 2 rfl qF_X0_16 rfl dX0_copyFrom_21 (cl_cargo hb (by omega)) (cd_cargo hb (by omega)) (fun _ => rfl) (fun _ => Nat.le_of_ble_eq_true rfl) ?_
  refine z_nm (fun μ3 hμ3 => ?_)
  refine z_aload_n hC dX0_copyFrom_24 rfl ?_
  refine z_aload_n hC dX0_copyFrom_25 rfl ?_
  refine z_get hC iA_X0 rfl 3 (by decide) qF_X0_19 rfl dX0_copyFrom_26 (cl_cargo hb2 (by omega)) (cd_cargo hb2 (by omega)) rfl ?_
  refine z_top (b := μ (b2 + 16 + k) 3) (by rw [hμ3, zup_n (by omega), hμ2, zup_n (by omega), hμ1, zup_n (by omega)]) ?_
  refine z_put hC iA_X0 rfl tyX0 tyX0_ok nmX0 3 (by decide) rfl rfl 3 rfl qF_X0_19 rfl dX0_copyFrom_29 (cl_cargo hb (by omega)) (cd_cargo hb (by omega)) (fun _ => rfl) (fun _ => Nat.le_of_ble_eq_true rfl) ?_
  refine z_nm (fun μ4 hμ4 => ?_)
  refine z_aload_n hC dX0_copyFrom_32 rfl ?_
  refine z_aload_n hC dX0_copyFrom_33 rfl ?_
  refine z_get hC iA_X0 rfl 4 (by decide) qF_X0_22 rfl dX0_copyFrom_34 (cl_cargo hb2 (by omega)) (cd_cargo hb2 (by omega)) rfl ?_
  refine z_top (b := μ (b2 + 16 + k) 4) (by rw [hμ4, zup_n (by omega), hμ3, zup_n (by omega), hμ2, zup_n (by omega), hμ1, zup_n (by omega)]) ?_
  refine z_put hC iA_X0 rfl tyX0 tyX0_ok nmX0 4 (by decide) rfl rfl 4 rfl qF_X0_22 rfl dX0_copyFrom_37 (cl_cargo hb (by omega)) (cd_cargo hb (by omega)) (fun _ => rfl) (fun _ => Nat.le_of_ble_eq_true rfl) ?_
  refine z_nm (fun μ5 hμ5 => ?_)
  refine z_aload_n hC dX0_copyFrom_40 rfl ?_
  refine z_aload_n hC dX0_copyFrom_41 rfl ?_
  refine z_get hC iA_X0 rfl 5 (by decide) qF_X0_25 rfl dX0_copyFrom_42 (cl_cargo hb2 (by omega)) (cd_cargo hb2 (by omega)) rfl ?_
  refine z_top (b := μ (b2 + 16 + k) 5) (by rw [hμ5, zup_n (by omega), hμ4, zup_n (by omega), hμ3, zup_n (by omega), hμ2, zup_n (by omega), hμ1, zup_n (by omega)]) ?_
  refine z_put hC iA_X0 rfl tyX0 tyX0_ok nmX0 5 (by decide) rfl rfl 5 rfl qF_X0_25 rfl dX0_copyFrom_45 (cl_cargo hb (by omega)) (cd_cargo hb (by omega)) (fun _ => rfl) (fun _ => Nat.le_of_ble_eq_true rfl) ?_
  refine z_nm (fun μ6 hμ6 => ?_)
  refine z_aload_n hC dX0_copyFrom_48 rfl ?_
  refine z_aload_n hC dX0_copyFrom_49 rfl ?_
  refine z_get hC iA_X0 rfl 6 (by decide) qF_X0_28 rfl dX0_copyFrom_50 (cl_cargo hb2 (by omega)) (cd_cargo hb2 (by omega)) rfl ?_
  refine z_top (b := μ (b2 + 16 + k) 6) (by rw [hμ6, zup_n (by omega), hμ5, zup_n (by omega), hμ4, zup_n (by omega), hμ3, zup_n (by omega), hμ2, zup_n (by omega), hμ1, zup_n (by omega)]) ?_
  refine z_put hC iA_X0 rfl tyX0 tyX0_ok nmX0 6 (by decide) rfl rfl 6 rfl qF_X0_28 rfl dX0_copyFrom_53 (cl_cargo hb (by omega)) (cd_cargo hb (by omega)) (fun _ => rfl) (fun _ => Nat.le_of_ble_eq_true rfl) ?_
  refine z_nm (fun μ7 hμ7 => ?_)
  refine z_aload_n hC dX0_copyFrom_56 rfl ?_
  refine z_aload_n hC dX0_copyFrom_57 rfl ?_
  refine z_get hC iA_X0 rfl 7 (by decide) qF_X0_31 rfl dX0_copyFrom_58 (cl_cargo hb2 (by omega)) (cd_cargo hb2 (by omega)) rfl ?_
  refine z_top (b := μ (b2 + 16 + k) 7) (by rw [hμ7, zup_n (by omega), hμ6, zup_n (by omega), hμ5, zup_n (by omega), hμ4, zup_n (by omega), hμ3, zup_n (by omega), hμ2, zup_n (by omega), hμ1, zup_n (by omega)]) ?_
  refine z_put hC iA_X0 rfl tyX0 tyX0_ok nmX0 7 (by decide) rfl rfl 7 rfl qF_X0_31 rfl dX0_copyFrom_61 (cl_cargo hb (by omega)) (cd_cargo hb (by omega)) (fun _ => rfl) (fun _ => Nat.le_of_ble_eq_true rfl) ?_
  refine z_nm (fun μ8 hμ8 => ?_)
  refine z_vret hC dX0_copyFrom_64 ⟨rfl, fun c i q1 => ?_, fun i hi => ?_⟩
  · rw [hμ8, zup_n (by omega), hμ7, zup_n (by omega), hμ6, zup_n (by omega), hμ5, zup_n (by omega), hμ4, zup_n (by omega), hμ3, zup_n (by omega), hμ2, zup_n (by omega), hμ1, zup_n (by omega)]
  · have q : i = 0 ∨ i = 1 ∨ i = 2 ∨ i = 3 ∨ i = 4 ∨ i = 5 ∨ i = 6 ∨ i = 7 := by omega
    rcases q with rfl | rfl | rfl | rfl | rfl | rfl | rfl | rfl
    · rw [hμ8, zup_n (by omega), hμ7, zup_n (by omega), hμ6, zup_n (by omega), hμ5, zup_n (by omega), hμ4, zup_n (by omega), hμ3, zup_n (by omega), hμ2, zup_n (by omega), hμ1, zup_s]
    · rw [hμ8, zup_n (by omega), hμ7, zup_n (by omega), hμ6, zup_n (by omega), hμ5, zup_n (by omega), hμ4, zup_n (by omega), hμ3, zup_n (by omega), hμ2, zup_s]
    · rw [hμ8, zup_n (by omega), hμ7, zup_n (by omega), hμ6, zup_n (by omega), hμ5, zup_n (by omega), hμ4, zup_n (by omega), hμ3, zup_s]
    · rw [hμ8, zup_n (by omega), hμ7, zup_n (by omega), hμ6, zup_n (by omega), hμ5, zup_n (by omega), hμ4, zup_s]
    · rw [hμ8, zup_n (by omega), hμ7, zup_n (by omega), hμ6, zup_n (by omega), hμ5, zup_s]
    · rw [hμ8, zup_n (by omega), hμ7, zup_n (by omega), hμ6, zup_s]
    · rw [hμ8, zup_n (by omega), hμ7, zup_s]
    · rw [hμ8, zup_s]

set_option maxHeartbeats 4000000 in
set_option maxRecDepth 100000 in
/-- Desk.copyFrom(other) -/
theorem m_X2_copyFrom (l : Launch) (G : va_G) (ca : Nat → ClassId) (ad : Int → Nat) (A : Nat → Prop) (μ : zM) (b b2 : Int) (hb : zb b) (hb2 : zb b2) (hbb : b2 + 26 ≤ b ∨ b + 26 ≤ b2) : zMet l (cω G ca ad) A yX2_copyFrom cX2_copyFrom 3 none 2 61 [.ref (ad b), .ref (ad b2)] μ (zpV (fun μ' => vw μ' b = vw μ b2 ∧ zFd μ b μ')) := by
  refine zMet_of (by decide) (Nat.le_of_ble_eq_true rfl) (fun Γ hC => ?_)
  show Z Γ _ μ 0 [(0, .ref (ad b)), (1, .ref (ad b2))] []
  refine z_aload_n hC dX2_copyFrom_0 rfl ?_
  refine z_get hC iA_X2 rfl 0 (by decide) qF_X2_9 rfl dX2_copyFrom_1 (cl_desk hb2) (cd_desk hb2) rfl ?_
  refine z_iconst hC dX2_copyFrom_4 ?_
  refine z_aload_n hC dX2_copyFrom_5 rfl ?_
  refine z_get hC iA_X2 rfl 0 (by decide) qF_X2_9 rfl dX2_copyFrom_6 (cl_desk hb) (cd_desk hb) rfl ?_
  refine z_iconst hC dX2_copyFrom_9 ?_
  refine z_bipush hC dX2_copyFrom_10 (by decide) ?_
  refine z_copy hC qM_X2_39 dX2_copyFrom_12 (cl_x hb2) (cl_x hb) (n := 8) (cd_x hb2) (cd_x hb) (by decide) (by decide) (Nat.le_of_ble_eq_true rfl) ?_
  refine z_nm (fun μ1 hμ1 => ?_)
  refine z_aload_n hC dX2_copyFrom_15 rfl ?_
  refine z_get hC iA_X2 rfl 1 (by decide) qF_X2_15 rfl dX2_copyFrom_16 (cl_desk hb2) (cd_desk hb2) rfl ?_
  refine z_iconst hC dX2_copyFrom_19 ?_
  refine z_aload_n hC dX2_copyFrom_20 rfl ?_
  refine z_get hC iA_X2 rfl 1 (by decide) qF_X2_15 rfl dX2_copyFrom_21 (cl_desk hb) (cd_desk hb) rfl ?_
  refine z_iconst hC dX2_copyFrom_24 ?_
  refine z_bipush hC dX2_copyFrom_25 (by decide) ?_
  refine z_copy hC qM_X2_39 dX2_copyFrom_27 (cl_y hb2) (cl_y hb) (n := 8) (cd_y hb2) (cd_y hb) (by decide) (by decide) (Nat.le_of_ble_eq_true rfl) ?_
  refine z_nm (fun μ2 hμ2 => ?_)
  refine z_iconst hC dX2_copyFrom_30 ?_
  refine z_istore_n hC dX2_copyFrom_31 (by decide) rfl ?_
  have LOOP : ∀ (r n : Nat), n + r = 5 → ∀ μ1 : zM, zCp μ b b2 (n : Int) 0 μ1 → Z Γ (cω G ca ad) μ1 32 [(2, .int (iZ (n : Int))), (0, .ref (ad b)), (1, .ref (ad b2))] [] := by
    intro r
    induction r with
    | zero =>
      intro n hn μ1 hp
      refine z_iload_n hC dX2_copyFrom_32 rfl ?_
      refine z_iconst hC dX2_copyFrom_33 ?_
      refine z_icmp_ge hC 58 dX2_copyFrom_34 (by decide) (by omega) (by omega) (fun c_3 => ?_) (fun c_3 => ?_)
      · refine z_iconst hC dX2_copyFrom_58 ?_
        refine z_istore_n hC dX2_copyFrom_59 (by decide) rfl ?_
        have LOOPC : ∀ (r n : Nat), n + r = 10 → ∀ μ1 : zM, zCp μ b b2 5 (n : Int) μ1 → Z Γ (cω G ca ad) μ1 60 [(2, .int (iZ (n : Int))), (0, .ref (ad b)), (1, .ref (ad b2))] [] := by
          intro r
          induction r with
          | zero =>
            intro n hn μ1 hp
            refine z_iload_n hC dX2_copyFrom_60 rfl ?_
            refine z_bipush hC dX2_copyFrom_61 (by decide) ?_
            refine z_icmp_ge hC 87 dX2_copyFrom_63 (by decide) (by omega) (by omega) (fun c_4 => ?_) (fun c_4 => ?_)
            · refine z_aload_n hC dX2_copyFrom_87 rfl ?_
              refine z_aload_n hC dX2_copyFrom_88 rfl ?_
              refine z_get hC iA_X2 rfl 4 (by decide) qF_X2_52 rfl dX2_copyFrom_89 (cl_desk hb2) (cd_desk hb2) rfl ?_
              refine z_put hC iA_X2 rfl tyX2 tyX2_ok nmX2 4 (by decide) rfl rfl 4 rfl qF_X2_52 rfl dX2_copyFrom_92 (cl_desk hb) (cd_desk hb) (fun _ => rfl) (fun _ => Nat.le_of_ble_eq_true rfl) ?_
              refine z_nm (fun μ5 hμ5 => ?_)
              refine z_aload_n hC dX2_copyFrom_95 rfl ?_
              refine z_aload_n hC dX2_copyFrom_96 rfl ?_
              refine z_get hC iA_X2 rfl 5 (by decide) qF_X2_56 rfl dX2_copyFrom_97 (cl_desk hb2) (cd_desk hb2) rfl ?_
              refine z_top (b := μ1 b2 5) (by rw [hμ5, zup_n (by omega)]) ?_
              refine z_put hC iA_X2 rfl tyX2 tyX2_ok nmX2 5 (by decide) rfl rfl 5 rfl qF_X2_56 rfl dX2_copyFrom_100 (cl_desk hb) (cd_desk hb) (fun _ => rfl) (fun _ => Nat.le_of_ble_eq_true rfl) ?_
              refine z_nm (fun μ6 hμ6 => ?_)
              refine z_aload_n hC dX2_copyFrom_103 rfl ?_
              refine z_aload_n hC dX2_copyFrom_104 rfl ?_
              refine z_get hC iA_X2 rfl 6 (by decide) qF_X2_59 rfl dX2_copyFrom_105 (cl_desk hb2) (cd_desk hb2) rfl ?_
              refine z_top (b := μ1 b2 6) (by rw [hμ6, zup_n (by omega), hμ5, zup_n (by omega)]) ?_
              refine z_put hC iA_X2 rfl tyX2 tyX2_ok nmX2 6 (by decide) rfl rfl 6 rfl qF_X2_59 rfl dX2_copyFrom_108 (cl_desk hb) (cd_desk hb) (fun _ => rfl) (fun _ => Nat.le_of_ble_eq_true rfl) ?_
              refine z_nm (fun μ7 hμ7 => ?_)
              refine z_aload_n hC dX2_copyFrom_111 rfl ?_
              refine z_aload_n hC dX2_copyFrom_112 rfl ?_
              refine z_get hC iA_X2 rfl 7 (by decide) qF_X2_62 rfl dX2_copyFrom_113 (cl_desk hb2) (cd_desk hb2) rfl ?_
              refine z_top (b := μ1 b2 7) (by rw [hμ7, zup_n (by omega), hμ6, zup_n (by omega), hμ5, zup_n (by omega)]) ?_
              refine z_put hC iA_X2 rfl tyX2 tyX2_ok nmX2 7 (by decide) rfl rfl 7 rfl qF_X2_62 rfl dX2_copyFrom_116 (cl_desk hb) (cd_desk hb) (fun _ => rfl) (fun _ => Nat.le_of_ble_eq_true rfl) ?_
              refine z_nm (fun μ8 hμ8 => ?_)
              obtain rfl : n = 10 := by omega
              refine z_vret hC dX2_copyFrom_119 ⟨rfl, zCp_all hp (fun c q => ?_) (fun i hi => ?_)⟩
              · rw [hμ8, zup_o q, hμ7, zup_o q, hμ6, zup_o q, hμ5, zup_o q]
              · have q : i = 4 ∨ i = 5 ∨ i = 6 ∨ i = 7 := by omega
                rcases q with rfl | rfl | rfl | rfl
                · rw [hμ8, zup_n (by omega), hμ7, zup_n (by omega), hμ6, zup_n (by omega), hμ5, zup_s, hp.1 _ (by omega)]
                · rw [hμ8, zup_n (by omega), hμ7, zup_n (by omega), hμ6, zup_s, hp.1 _ (by omega)]
                · rw [hμ8, zup_n (by omega), hμ7, zup_s, hp.1 _ (by omega)]
                · rw [hμ8, zup_s, hp.1 _ (by omega)]
            · exfalso; omega
          | succ r ih =>
            intro n hn μ1 hp
            refine z_iload_n hC dX2_copyFrom_60 rfl ?_
            refine z_bipush hC dX2_copyFrom_61 (by decide) ?_
            refine z_icmp_ge hC 87 dX2_copyFrom_63 (by decide) (by omega) (by omega) (fun c_9 => ?_) (fun c_9 => ?_)
            · exfalso; omega
            · refine z_aload_n hC dX2_copyFrom_66 rfl ?_
              refine z_get hC iA_X2 rfl 3 (by decide) qF_X2_26 rfl dX2_copyFrom_67 (cl_desk hb) (cd_desk hb) rfl ?_
              refine z_iload_n hC dX2_copyFrom_70 rfl ?_
              refine z_aald hC dX2_copyFrom_71 3 rfl (cl_cargoes hb) (fun _ i => b + 16 + i) (cd_cargoes hb) (by omega) (by omega) (by decide) ?_
              refine z_aload_n hC dX2_copyFrom_72 rfl ?_
              refine z_get hC iA_X2 rfl 3 (by decide) qF_X2_26 rfl dX2_copyFrom_73 (cl_desk hb2) (cd_desk hb2) rfl ?_
              refine z_iload_n hC dX2_copyFrom_76 rfl ?_
              refine z_aald hC dX2_copyFrom_77 3 rfl (cl_cargoes hb2) (fun _ i => b2 + 16 + i) (cd_cargoes hb2) (by omega) (by omega) (by decide) ?_
              refine z_callV hC [.ref (ad (b2 + 16 + (n : Int)))] 1 rfl dX2_copyFrom_78 (fun l => m_X0_copyFrom l G ca ad _ μ1 b b2 hb hb2 hbb (n : Int) (by omega)) qM_X2_49 qI_X0_copyFrom qS_X0_copyFrom qi_X0 qC_X0_copyFrom (by decide +kernel) (by decide) (by decide) (cl_cargo hb (by omega)) (cd_cargo hb (by omega)) rfl (Nat.le_of_ble_eq_true rfl) (zk_void (fun μ10 hμ10 => ?_)) rfl
              refine z_iinc hC dX2_copyFrom_81 rfl (by decide) rfl ?_
              refine z_goto hC 60 dX2_copyFrom_84 (by decide) ?_
              refine z_weak (L' := [(2, .int (iZ ((n + 1 : Nat) : Int))), (0, .ref (ad b)), (1, .ref (ad b2))]) ⟨rfl, rfl, rfl, trivial⟩ ?_
              exact ih (n + 1) (by omega) _ (zCp_cargo hbb (by omega) (by omega) hp hμ10.1 hμ10.2)
        refine z_weak (L' := [(2, .int (iZ ((0 : Nat) : Int))), (0, .ref (ad b)), (1, .ref (ad b2))]) ⟨rfl, rfl, rfl, trivial⟩ ?_
        obtain rfl : n = 5 := by omega
        exact LOOPC 10 0 (by omega) _ hp
      · exfalso; omega
    | succ r ih =>
      intro n hn μ1 hp
      refine z_iload_n hC dX2_copyFrom_32 rfl ?_
      refine z_iconst hC dX2_copyFrom_33 ?_
      refine z_icmp_ge hC 58 dX2_copyFrom_34 (by decide) (by omega) (by omega) (fun c_11 => ?_) (fun c_11 => ?_)
      · exfalso; omega
      · refine z_aload_n hC dX2_copyFrom_37 rfl ?_
        refine z_get hC iA_X2 rfl 2 (by decide) qF_X2_20 rfl dX2_copyFrom_38 (cl_desk hb) (cd_desk hb) rfl ?_
        refine z_iload_n hC dX2_copyFrom_41 rfl ?_
        refine z_aald hC dX2_copyFrom_42 2 rfl (cl_ships hb) (fun _ i => b + 6 + i) (cd_ships hb) (by omega) (by omega) (by decide) ?_
        refine z_aload_n hC dX2_copyFrom_43 rfl ?_
        refine z_get hC iA_X2 rfl 2 (by decide) qF_X2_20 rfl dX2_copyFrom_44 (cl_desk hb2) (cd_desk hb2) rfl ?_
        refine z_iload_n hC dX2_copyFrom_47 rfl ?_
        refine z_aald hC dX2_copyFrom_48 2 rfl (cl_ships hb2) (fun _ i => b2 + 6 + i) (cd_ships hb2) (by omega) (by omega) (by decide) ?_
        refine z_callV hC [.ref (ad (b2 + 6 + (n : Int)))] 1 rfl dX2_copyFrom_49 (fun l => m_X6_copyFrom l G ca ad _ μ1 b b2 hb hb2 hbb (n : Int) (by omega)) qM_X2_45 qI_X6_copyFrom qS_X6_copyFrom qi_X6 qC_X6_copyFrom (by decide +kernel) (by decide) (by decide) (cl_ship hb (by omega)) (cd_ship hb (by omega)) rfl (Nat.le_of_ble_eq_true rfl) (zk_void (fun μ12 hμ12 => ?_)) rfl
        refine z_iinc hC dX2_copyFrom_52 rfl (by decide) rfl ?_
        refine z_goto hC 32 dX2_copyFrom_55 (by decide) ?_
        refine z_weak (L' := [(2, .int (iZ ((n + 1 : Nat) : Int))), (0, .ref (ad b)), (1, .ref (ad b2))]) ⟨rfl, rfl, rfl, trivial⟩ ?_
        exact ih (n + 1) (by omega) _ (zCp_ship hbb (by omega) hp hμ12.1 hμ12.2.1 hμ12.2.2)
  refine z_weak (L' := [(2, .int (iZ ((0 : Nat) : Int))), (0, .ref (ad b)), (1, .ref (ad b2))]) ⟨rfl, rfl, rfl, trivial⟩ ?_
  refine LOOP 5 0 (by omega) _ ⟨fun c hc => ?_, fun o i hr ho => ?_⟩
  · funext i; rw [hμ2]; dsimp only; rw [if_neg (by omega), hμ1]; dsimp only; rw [if_neg (by omega)]
  · unfold zrel at hr
    rw [hμ2]; dsimp only
    by_cases q : o = 2
    · rw [if_pos (by omega), hμ1]; dsimp only; rw [if_neg (by omega), q]
    · have q1 : o = 1 := by omega
      rw [if_neg (by omega), hμ1]; dsimp only; rw [if_pos (by omega), q1]
