set_option maxHeartbeats 4000000 in
set_option maxRecDepth 100000 in
/-- isIn(v, lo, hi) -/
theorem m_X7_isIn (l : Launch) (ω : zO) (A : Nat → Prop) (μ : zM) (v lo hi : Int) (hv : -2147483648 ≤ v ∧ v ≤ 2147483647) (hlo : -2147483648 ≤ lo ∧ lo ≤ 2147483647) (hhi : -2147483648 ≤ hi ∧ hi ≤ 2147483647) : zMet l (ω) A yX7_isIn cX7_isIn 3 (some .boolean) 0 0 [.int (iZ v), .int (iZ lo), .int (iZ hi)] μ (zpI (.int (iZ (zB (lo ≤ v ∧ v ≤ hi)))) (fun m => m = μ)) := by
  refine zMet_of (by decide) (Nat.le_of_ble_eq_true rfl) (fun Γ hC => ?_)
  show Z Γ _ μ 0 [(0, .int (iZ v)), (1, .int (iZ lo)), (2, .int (iZ hi))] []
  refine z_iload_n hC dX7_isIn_0 rfl ?_
  refine z_iload_n hC dX7_isIn_1 rfl ?_
  refine z_icmp_lt hC 14 dX7_isIn_2 (by decide) (by omega) (by omega) (fun c_1 => ?_) (fun c_1 => ?_)
  · refine z_iconst hC dX7_isIn_14 ?_
    exact z_zret0 hC dX7_isIn_15 ⟨by rw [zB_f (by omega)], rfl⟩
  · refine z_iload_n hC dX7_isIn_5 rfl ?_
    refine z_iload_n hC dX7_isIn_6 rfl ?_
    refine z_icmp_gt hC 14 dX7_isIn_7 (by decide) (by omega) (by omega) (fun c_2 => ?_) (fun c_2 => ?_)
    · refine z_iconst hC dX7_isIn_14 ?_
      exact z_zret0 hC dX7_isIn_15 ⟨by rw [zB_f (by omega)], rfl⟩
    · refine z_iconst hC dX7_isIn_10 ?_
      refine z_goto hC 15 dX7_isIn_11 (by decide) ?_
      exact z_zret1 hC dX7_isIn_15 ⟨by rw [zB_t (by omega)], rfl⟩

set_option maxHeartbeats 4000000 in
set_option maxRecDepth 100000 in
/-- isPort(v) -/
theorem m_X7_isPort (l : Launch) (ω : zO) (A : Nat → Prop) (μ : zM) (v : Int) (hv : -2147483648 ≤ v ∧ v ≤ 2147483647) : zMet l (ω) A yX7_isPort cX7_isPort 1 (some .boolean) 1 22 [.int (iZ v)] μ (zpI (.int (iZ (zB (0 ≤ v ∧ v ≤ 7)))) (fun m => m = μ)) := by
  refine zMet_of (by decide) (Nat.le_of_ble_eq_true rfl) (fun Γ hC => ?_)
  show Z Γ _ μ 0 [(0, .int (iZ v))] []
  refine z_iload_n hC dX7_isPort_0 rfl ?_
  refine z_iconst hC dX7_isPort_1 ?_
  refine z_bipush hC dX7_isPort_2 (by decide) ?_
  refine z_callS hC [.int (iZ v), .int (iZ 0), .int (iZ 7)] 3 rfl dX7_isPort_4 (fun l => m_X7_isIn l _ _ _ v 0 7 (by omega) (by omega) (by omega)) qM_X7_156 qT_X7_isIn qi_X7 qC_X7_isIn (by decide +kernel) (by decide) (by decide) (Nat.le_of_ble_eq_true rfl) (zk_pure ?_) rfl
  exact z_zret hC dX7_isPort_7 ⟨rfl, rfl⟩

set_option maxHeartbeats 4000000 in
set_option maxRecDepth 100000 in
/-- isError(v) -/
theorem m_X7_isError (l : Launch) (ω : zO) (A : Nat → Prop) (μ : zM) (v : Int) (hv : -2147483648 ≤ v ∧ v ≤ 2147483647) : zMet l (ω) A yX7_isError cX7_isError 1 (some .boolean) 1 22 [.int (iZ v)] μ (zpI (.int (iZ (zB (-1000004 ≤ v ∧ v ≤ -1000001)))) (fun m => m = μ)) := by
  refine zMet_of (by decide) (Nat.le_of_ble_eq_true rfl) (fun Γ hC => ?_)
  show Z Γ _ μ 0 [(0, .int (iZ v))] []
  refine z_iload_n hC dX7_isError_0 rfl ?_
  refine z_ldc hC (-1000004) qc_X7_155 rfl dX7_isError_1 ?_
  refine z_ldc hC (-1000001) qc_X7_77 rfl dX7_isError_3 ?_
  refine z_callS hC [.int (iZ v), .int (iZ (-1000004)), .int (iZ (-1000001))] 3 rfl dX7_isError_5 (fun l => m_X7_isIn l _ _ _ v (-1000004) (-1000001) (by omega) (by omega) (by omega)) qM_X7_156 qT_X7_isIn qi_X7 qC_X7_isIn (by decide +kernel) (by decide) (by decide) (Nat.le_of_ble_eq_true rfl) (zk_pure ?_) rfl
  exact z_zret hC dX7_isError_8 ⟨rfl, rfl⟩

set_option maxHeartbeats 4000000 in
set_option maxRecDepth 100000 in
/-- divideUp(v, u) -/
theorem m_X7_divideUp (l : Launch) (ω : zO) (A : Nat → Prop) (μ : zM) (v u : Int) (hv : 0 ≤ v ∧ v ≤ 1000000) (hu : 1 ≤ u ∧ u ≤ 1000000) : zMet l (ω) A yX7_divideUp cX7_divideUp 2 (some .int) 0 0 [.int (iZ v), .int (iZ u)] μ (zpI (.int (iZ ((v + u - 1) / u))) (fun m => m = μ)) := by
  refine zMet_of (by decide) (Nat.le_of_ble_eq_true rfl) (fun Γ hC => ?_)
  show Z Γ _ μ 0 [(0, .int (iZ v)), (1, .int (iZ u))] []
  refine z_iload_n hC dX7_divideUp_0 rfl ?_
  refine z_iconst hC dX7_divideUp_1 ?_
  refine z_icmp_ge hC 9 dX7_divideUp_2 (by decide) (by omega) (by omega) (fun c_1 => ?_) (fun c_1 => ?_)
  · refine z_iload_n hC dX7_divideUp_9 rfl ?_
    refine z_iload_n hC dX7_divideUp_10 rfl ?_
    refine z_iadd hC dX7_divideUp_11 ?_
    refine z_iconst hC dX7_divideUp_12 ?_
    refine z_isub hC dX7_divideUp_13 ?_
    refine z_iload_n hC dX7_divideUp_14 rfl ?_
    refine z_idiv hC dX7_divideUp_15 (by omega) (by omega) ?_
    exact z_iret hC dX7_divideUp_16 ⟨rfl, rfl⟩
  · exfalso; omega

set_option maxHeartbeats 4000000 in
set_option maxRecDepth 100000 in
/-- Desk.isShip(v) -/
theorem m_X2_isShip (l : Launch) (G : va_G) (ca : Nat → ClassId) (ad : Int → Nat) (A : Nat → Prop) (μ : zM) (b : Int) (hb : zb b) (v : Int) (hv : -2147483648 ≤ v ∧ v ≤ 2147483647) (hS : 0 ≤ μ b 4 ∧ μ b 4 ≤ 10) : zMet l (cω G ca ad) A yX2_isShip cX2_isShip 2 (some .boolean) 0 0 [.ref (ad b), .int (iZ v)] μ (zpI (.int (iZ (zB (0 ≤ v ∧ v < μ b 4)))) (fun m => m = μ)) := by
  refine zMet_of (by decide) (Nat.le_of_ble_eq_true rfl) (fun Γ hC => ?_)
  show Z Γ _ μ 0 [(0, .ref (ad b)), (1, .int (iZ v))] []
  refine z_iload_n hC dX2_isShip_0 rfl ?_
  refine z_if_lt hC 16 dX2_isShip_1 (by decide) (by omega) (fun c_1 => ?_) (fun c_1 => ?_)
  · refine z_iconst hC dX2_isShip_16 ?_
    exact z_zret0 hC dX2_isShip_17 ⟨by rw [zB_f (by omega)], rfl⟩
  · refine z_iload_n hC dX2_isShip_4 rfl ?_
    refine z_aload_n hC dX2_isShip_5 rfl ?_
    refine z_get hC iA_X2 rfl 4 (by decide) qF_X2_52 rfl dX2_isShip_6 (cl_desk hb) (cd_desk hb) rfl ?_
    refine z_icmp_ge hC 16 dX2_isShip_9 (by decide) (by omega) (by omega) (fun c_2 => ?_) (fun c_2 => ?_)
    · refine z_iconst hC dX2_isShip_16 ?_
      exact z_zret0 hC dX2_isShip_17 ⟨by rw [zB_f (by omega)], rfl⟩
    · refine z_iconst hC dX2_isShip_12 ?_
      refine z_goto hC 17 dX2_isShip_13 (by decide) ?_
      exact z_zret1 hC dX2_isShip_17 ⟨by rw [zB_t (by omega)], rfl⟩

set_option maxHeartbeats 4000000 in
set_option maxRecDepth 100000 in
/-- Desk.isCargo(v) -/
theorem m_X2_isCargo (l : Launch) (G : va_G) (ca : Nat → ClassId) (ad : Int → Nat) (A : Nat → Prop) (μ : zM) (b : Int) (hb : zb b) (v : Int) (hv : -2147483648 ≤ v ∧ v ≤ 2147483647) (hS : 0 ≤ μ b 5 ∧ μ b 5 ≤ 10) : zMet l (cω G ca ad) A yX2_isCargo cX2_isCargo 2 (some .boolean) 0 0 [.ref (ad b), .int (iZ v)] μ (zpI (.int (iZ (zB (0 ≤ v ∧ v < μ b 5)))) (fun m => m = μ)) := by
  refine zMet_of (by decide) (Nat.le_of_ble_eq_true rfl) (fun Γ hC => ?_)
  show Z Γ _ μ 0 [(0, .ref (ad b)), (1, .int (iZ v))] []
  refine z_iload_n hC dX2_isCargo_0 rfl ?_
  refine z_if_lt hC 16 dX2_isCargo_1 (by decide) (by omega) (fun c_1 => ?_) (fun c_1 => ?_)
  · refine z_iconst hC dX2_isCargo_16 ?_
    exact z_zret0 hC dX2_isCargo_17 ⟨by rw [zB_f (by omega)], rfl⟩
  · refine z_iload_n hC dX2_isCargo_4 rfl ?_
    refine z_aload_n hC dX2_isCargo_5 rfl ?_
    refine z_get hC iA_X2 rfl 5 (by decide) qF_X2_56 rfl dX2_isCargo_6 (cl_desk hb) (cd_desk hb) rfl ?_
    refine z_icmp_ge hC 16 dX2_isCargo_9 (by decide) (by omega) (by omega) (fun c_2 => ?_) (fun c_2 => ?_)
    · refine z_iconst hC dX2_isCargo_16 ?_
      exact z_zret0 hC dX2_isCargo_17 ⟨by rw [zB_f (by omega)], rfl⟩
    · refine z_iconst hC dX2_isCargo_12 ?_
      refine z_goto hC 17 dX2_isCargo_13 (by decide) ?_
      exact z_zret1 hC dX2_isCargo_17 ⟨by rw [zB_t (by omega)], rfl⟩

set_option maxHeartbeats 4000000 in
set_option maxRecDepth 100000 in
/-- Cargo.worth() -/
theorem m_X0_worth (l : Launch) (G : va_G) (ca : Nat → ClassId) (ad : Int → Nat) (A : Nat → Prop) (μ : zM) (b : Int) (hb : zb b) (k : Int) (hk : 0 ≤ k ∧ k < 10) : zMet l (cω G ca ad) A yX0_worth cX0_worth 1 (some .int) 0 0 [.ref (ad (b + 16 + k))] μ (zpI (.int (iZ (μ (b + 16 + k) 0 * μ (b + 16 + k) 5))) (fun m => m = μ)) := by
  refine zMet_of (by decide) (Nat.le_of_ble_eq_true rfl) (fun Γ hC => ?_)
  show Z Γ _ μ 0 [(0, .ref (ad (b + 16 + k)))] []
  refine z_aload_n hC dX0_worth_0 rfl ?_
  refine z_get hC iA_X0 rfl 0 (by decide) qF_X0_7 rfl dX0_worth_1 (cl_cargo hb (by omega)) (cd_cargo hb (by omega)) rfl ?_
  refine z_aload_n hC dX0_worth_4 rfl ?_
  refine z_get hC iA_X0 rfl 5 (by decide) qF_X0_25 rfl dX0_worth_5 (cl_cargo hb (by omega)) (cd_cargo hb (by omega)) rfl ?_
  refine z_imul hC dX0_worth_8 ?_
  exact z_iret hC dX0_worth_9 ⟨rfl, rfl⟩
