/-! THE CONSTRUCTORS -/
theorem va_up_s {T : Type} {f : Nat → T} {k : Nat} {v : T} : va_up f k v k = v := if_pos rfl
theorem va_up_n {T : Type} {f : Nat → T} {k j : Nat} {v : T} (h : j ≠ k) : va_up f k v j = f j := if_neg h
theorem y_eq {Γ : yG} {G : va_G} {nc ns n nc' ns' n' : Nat} {α : Nat → Nat} {ε : Nat → va_E} {pc : Nat} {L : List (Nat × Value)} {st : List Value} (h1 : nc = nc') (h2 : ns = ns') (h3 : n = n') (kk : Y Γ G nc' ns' n' α ε pc L st) : Y Γ G nc ns n α ε pc L st := by
  subst h1
  subst h2
  subst h3
  exact kk
abbrev vz : Value := .int (iZ 0)
abbrev vr (f : Nat → Option Nat) : (Nat → Int32) ⊕ (Nat → Int64) ⊕ (Nat → UInt32) ⊕ (Nat → UInt64) ⊕ (Nat → Option Nat) := .inr (.inr (.inr (.inr f)))
def eSh (q : Value) : va_E := .inr (6, [vz, vz, vz, vz, vz, vz, vz, q])
def eCg : va_E := .inr (0, [vz, vz, vz, vz, vz, vz, vz, vz])
def eCo : va_E := .inr (1, [vz, vz, vz, vz, vz, vz, vz, vz])
def eFx (ca : Nat → ClassId) : va_E := .inl (ca 0, 10, .inl (fun _ => iZ 0))
def eShip (ca : Nat → ClassId) (α : Nat → Nat) : Nat → va_E := fun k => if k = 0 then eSh (.ref (α 1)) else eFx ca
def eScr (ca : Nat → ClassId) (α : Nat → Nat) : Nat → va_E := fun k => if k = 0 then .inr (5, [.ref (α 1), vz, vz, .ref (α 2), vz]) else if k = 1 then .inl (ca 1, 60, .inl (fun _ => iZ 0)) else .inl (ca 0, 6, .inl (fun _ => iZ 0))
def eFd : va_E := .inr (3, [vz, vz, vz, vz])
/-- a desk that is being made: P ports stand, S ships, C cargoes are there -/
def eDesk (ca : Nat → ClassId) (P S C : Nat) (α : Nat → Nat) : Nat → va_E := fun k =>
  if k = 0 then .inr (2, [.ref (α 1), .ref (α 2), .ref (α 3), .ref (α 4), vz, vz, vz, vz, .ref (α 5), vz, vz, vz])
  else if k = 1 then .inl (ca 0, 8, .inl (fun j => iZ (if j < P then 10 * (j : Int) else 0)))
  else if k = 2 then .inl (ca 0, 8, .inl (fun j => iZ (if j < P then 5 * ((j : Int) % 3) else 0)))
  else if k = 3 then .inl (ca 2, 5, vr (fun j => if j < S then some (α (6 + 2 * j)) else none))
  else if k = 4 then .inl (ca 3, 10, vr (fun j => if j < C then some (α (16 + j)) else none))
  else if k = 5 then eCo
  else if k < 16 then (if k % 2 = 0 then eSh (.ref (α (k + 1))) else eFx ca)
  else eCg
theorem eDesk_0 {ca : Nat → ClassId} {P S C : Nat} {α : Nat → Nat} : eDesk ca P S C α 0 = .inr (2, [.ref (α 1), .ref (α 2), .ref (α 3), .ref (α 4), vz, vz, vz, vz, .ref (α 5), vz, vz, vz]) := rfl
theorem eDesk_1 {ca : Nat → ClassId} {P S C : Nat} {α : Nat → Nat} : eDesk ca P S C α 1 = .inl (ca 0, 8, .inl (fun j => iZ (if j < P then 10 * (j : Int) else 0))) := rfl
theorem eDesk_2 {ca : Nat → ClassId} {P S C : Nat} {α : Nat → Nat} : eDesk ca P S C α 2 = .inl (ca 0, 8, .inl (fun j => iZ (if j < P then 5 * ((j : Int) % 3) else 0))) := rfl
theorem eDesk_3 {ca : Nat → ClassId} {P S C : Nat} {α : Nat → Nat} : eDesk ca P S C α 3 = .inl (ca 2, 5, vr (fun j => if j < S then some (α (6 + 2 * j)) else none)) := rfl
theorem eDesk_4 {ca : Nat → ClassId} {P S C : Nat} {α : Nat → Nat} : eDesk ca P S C α 4 = .inl (ca 3, 10, vr (fun j => if j < C then some (α (16 + j)) else none)) := rfl
theorem eDesk_5 {ca : Nat → ClassId} {P S C : Nat} {α : Nat → Nat} : eDesk ca P S C α 5 = eCo := rfl
theorem eDesk_e {ca : Nat → ClassId} {P S C : Nat} {α : Nat → Nat} {k : Nat} (h : 6 ≤ k ∧ k < 16) (h2 : k % 2 = 0) : eDesk ca P S C α k = eSh (.ref (α (k + 1))) := by
  unfold eDesk
  rw [if_neg (by omega), if_neg (by omega), if_neg (by omega), if_neg (by omega), if_neg (by omega), if_neg (by omega), if_pos h.2, if_pos h2]
theorem eDesk_f {ca : Nat → ClassId} {P S C : Nat} {α : Nat → Nat} {k : Nat} (h : 6 ≤ k ∧ k < 16) (h2 : k % 2 = 1) : eDesk ca P S C α k = eFx ca := by
  unfold eDesk
  rw [if_neg (by omega), if_neg (by omega), if_neg (by omega), if_neg (by omega), if_neg (by omega), if_neg (by omega), if_pos h.2, if_neg (by omega)]
theorem eDesk_c {ca : Nat → ClassId} {P S C : Nat} {α : Nat → Nat} {k : Nat} (h : 16 ≤ k) : eDesk ca P S C α k = eCg := by
  unfold eDesk
  rw [if_neg (by omega), if_neg (by omega), if_neg (by omega), if_neg (by omega), if_neg (by omega), if_neg (by omega), if_neg (by omega)]
theorem lt6 {k : Nat} (h : k < 6) : k = 0 ∨ k = 1 ∨ k = 2 ∨ k = 3 ∨ k = 4 ∨ k = 5 := by omega
/-- a desk's cells speak of the desk's own addresses alone -/
theorem eDesk_cg {ca : Nat → ClassId} {P S C N k : Nat} {α α' : Nat → Nat} (hS : 6 + 2 * S ≤ N) (hC : C = 0 ∨ 16 + C ≤ N) (hN : 6 ≤ N) (h : ∀ j, j < N → α j = α' j) (hk : k < N) (hodd : 6 ≤ k ∧ k < 16 ∧ k % 2 = 0 → k + 1 < N) : eDesk ca P S C α k = eDesk ca P S C α' k := by
  by_cases q : k < 6
  · rcases lt6 q with rfl | rfl | rfl | rfl | rfl | rfl
    · rw [eDesk_0, eDesk_0, h 1 (by omega), h 2 (by omega), h 3 (by omega), h 4 (by omega), h 5 (by omega)]
    · rfl
    · rfl
    · rw [eDesk_3, eDesk_3]
      have : (fun j => if j < S then some (α (6 + 2 * j)) else none) = (fun j => if j < S then some (α' (6 + 2 * j)) else none) := by
        funext j
        by_cases z : j < S
        · rw [if_pos z, if_pos z, h _ (by omega)]
        · rw [if_neg z, if_neg z]
      rw [this]
    · rw [eDesk_4, eDesk_4]
      have : (fun j => if j < C then some (α (16 + j)) else none) = (fun j => if j < C then some (α' (16 + j)) else none) := by
        funext j
        by_cases z : j < C
        · rw [if_pos z, if_pos z, h _ (by omega)]
        · rw [if_neg z, if_neg z]
      rw [this]
    · rfl
  · by_cases q2 : k < 16
    · by_cases q3 : k % 2 = 0
      · rw [eDesk_e (by omega) q3, eDesk_e (by omega) q3, h _ (hodd (by omega))]
      · rw [eDesk_f (by omega) (by omega), eDesk_f (by omega) (by omega)]
    · rw [eDesk_c (by omega), eDesk_c (by omega)]

set_option maxHeartbeats 4000000 in
set_option maxRecDepth 100000 in
theorem m_X0_init (l : Launch) (G : va_G) (ca : Nat → ClassId) (h0 : Nat) (x0 : va_E) : yMet l G ca yX0_init cX0_init 1 1 12 0 0 h0 x0 1 (fun _ _ => x0) := by
  refine yMet_of (by decide) rfl (by decide) (fun Γ hC => ?_)
  refine y_aload_n hC dX0_init_0 rfl ?_
  refine y_obj hC qM_X0_1 dX0_init_1 (by decide) (by decide) ?_
  exact y_ret hC (by decide) (by decide) rfl rfl (fun k hk => rfl) dX0_init_4

set_option maxHeartbeats 4000000 in
set_option maxRecDepth 100000 in
theorem m_X1_init (l : Launch) (G : va_G) (ca : Nat → ClassId) (h0 : Nat) (x0 : va_E) : yMet l G ca yX1_init cX1_init 1 1 12 0 0 h0 x0 1 (fun _ _ => x0) := by
  refine yMet_of (by decide) rfl (by decide) (fun Γ hC => ?_)
  refine y_aload_n hC dX1_init_0 rfl ?_
  refine y_obj hC qM_X1_3 dX1_init_1 (by decide) (by decide) ?_
  exact y_ret hC (by decide) (by decide) rfl rfl (fun k hk => rfl) dX1_init_4

set_option maxHeartbeats 4000000 in
set_option maxRecDepth 100000 in
theorem m_X3_init (l : Launch) (G : va_G) (ca : Nat → ClassId) (h0 : Nat) (x0 : va_E) : yMet l G ca yX3_init cX3_init 1 1 12 0 0 h0 x0 1 (fun _ _ => x0) := by
  refine yMet_of (by decide) rfl (by decide) (fun Γ hC => ?_)
  refine y_aload_n hC dX3_init_0 rfl ?_
  refine y_obj hC qM_X3_1 dX3_init_1 (by decide) (by decide) ?_
  exact y_ret hC (by decide) (by decide) rfl rfl (fun k hk => rfl) dX3_init_4

set_option maxHeartbeats 4000000 in
set_option maxRecDepth 100000 in
/-- a ship: its object, its row of fixtures -/
theorem m_X6_init (l : Launch) (G : va_G) (ca : Nat → ClassId) (h0 : Nat) : yMet l G ca yX6_init cX6_init 1 1 12 1 10 h0 (eSh .null) 2 (eShip ca) := by
  refine yMet_of (by decide) rfl (by decide) (fun Γ hC => ?_)
  refine y_aload_n hC dX6_init_0 rfl ?_
  refine y_obj hC qM_X6_3 dX6_init_1 (by decide) (by decide) ?_
  refine y_aload_n hC dX6_init_4 rfl ?_
  refine y_bipush hC dX6_init_5 (by decide) ?_
  refine y_newi hC (len := 10) rfl (by decide) dX6_init_7 (by decide) (by decide) (fun q7 => ?_)
  refine y_put hC iA_X6 (ci := 6) (N := 8) rfl tyX6 tyX6_ok nmX6 7 (by decide) qF_X6_9 rfl rfl rfl dX6_init_9 0 (by decide) rfl rfl rfl rfl (Nat.le_of_ble_eq_true rfl) ?_
  refine y_ret hC (by decide) (by decide) rfl rfl (fun k hk => ?_) dX6_init_12
  rcases (show k = 0 ∨ k = 1 by omega) with rfl | rfl
  · rfl
  · rfl

set_option maxHeartbeats 4000000 in
set_option maxRecDepth 100000 in
/-- the script: its object, characters, numbers -/
theorem m_X5_init (l : Launch) (G : va_G) (ca : Nat → ClassId) (h0 : Nat) : yMet l G ca yX5_init cX5_init 1 1 12 2 66 h0 (.inr (5, [.null, vz, vz, .null, vz])) 3 (eScr ca) := by
  refine yMet_of (by decide) rfl (by decide) (fun Γ hC => ?_)
  refine y_aload_n hC dX5_init_0 rfl ?_
  refine y_obj hC qM_X5_3 dX5_init_1 (by decide) (by decide) ?_
  refine y_aload_n hC dX5_init_4 rfl ?_
  refine y_bipush hC dX5_init_5 (by decide) ?_
  refine y_newc hC (len := 60) rfl (by decide) dX5_init_7 (by decide) (by decide) (fun q7 => ?_)
  refine y_put hC iA_X5 (ci := 5) (N := 5) rfl tyX5 tyX5_ok nmX5 0 (by decide) qF_X5_9 rfl rfl rfl dX5_init_9 0 (by decide) rfl rfl rfl rfl (Nat.le_of_ble_eq_true rfl) ?_
  refine y_aload_n hC dX5_init_12 rfl ?_
  refine y_bipush hC dX5_init_13 (by decide) ?_
  refine y_newi hC (len := 6) rfl (by decide) dX5_init_15 (by decide) (by decide) (fun q15 => ?_)
  refine y_put hC iA_X5 (ci := 5) (N := 5) rfl tyX5 tyX5_ok nmX5 3 (by decide) qF_X5_15 rfl rfl rfl dX5_init_17 0 (by decide) rfl rfl rfl rfl (Nat.le_of_ble_eq_true rfl) ?_
  refine y_ret hC (by decide) (by decide) rfl rfl (fun k hk => ?_) dX5_init_20
  rcases (show k = 0 ∨ k = 1 ∨ k = 2 by omega) with rfl | rfl | rfl
  · rfl
  · rfl
  · rfl

set_option maxHeartbeats 4000000 in
set_option maxRecDepth 100000 in
/-- a desk: 26 cells -/
theorem m_X2_init (l : Launch) (G : va_G) (ca : Nat → ClassId) (h0 : Nat) : yMet l G ca yX2_init cX2_init 2 2 32 25 209 h0 (.inr (2, [.null, .null, .null, .null, vz, vz, vz, vz, .null, vz, vz, vz])) 26 (eDesk ca 8 5 10) := by
  refine yMet_of (by decide) rfl (by decide) (fun Γ hC => ?_)
  refine y_aload_n hC dX2_init_0 rfl ?_
  refine y_obj hC qM_X2_3 dX2_init_1 (by decide) (by decide) ?_
  refine y_aload_n hC dX2_init_4 rfl ?_
  refine y_bipush hC dX2_init_5 (by decide) ?_
  refine y_newi hC (len := 8) rfl (by decide) dX2_init_7 (by decide) (by decide) (fun q7 => ?_)
  refine y_put hC iA_X2 (ci := 2) (N := 12) rfl tyX2 tyX2_ok nmX2 0 (by decide) qF_X2_9 rfl rfl rfl dX2_init_9 0 (by decide) rfl rfl rfl rfl (Nat.le_of_ble_eq_true rfl) ?_
  refine y_aload_n hC dX2_init_12 rfl ?_
  refine y_bipush hC dX2_init_13 (by decide) ?_
  refine y_newi hC (len := 8) rfl (by decide) dX2_init_15 (by decide) (by decide) (fun q15 => ?_)
  refine y_put hC iA_X2 (ci := 2) (N := 12) rfl tyX2 tyX2_ok nmX2 1 (by decide) qF_X2_15 rfl rfl rfl dX2_init_17 0 (by decide) rfl rfl rfl rfl (Nat.le_of_ble_eq_true rfl) ?_
  refine y_aload_n hC dX2_init_20 rfl ?_
  refine y_iconst hC dX2_init_21 ?_
  refine y_newr hC 2 rfl (fun U h => h.2.2.1) qK_X2_18 (len := 5) rfl (by decide) dX2_init_22 (by decide) (by decide) (fun q22 => ?_)
  refine y_put hC iA_X2 (ci := 2) (N := 12) rfl tyX2 tyX2_ok nmX2 2 (by decide) qF_X2_20 rfl rfl rfl dX2_init_25 0 (by decide) rfl rfl rfl rfl (Nat.le_of_ble_eq_true rfl) ?_
  refine y_aload_n hC dX2_init_28 rfl ?_
  refine y_bipush hC dX2_init_29 (by decide) ?_
  refine y_newr hC 3 rfl (fun U h => h.2.2.2.1) qK_X2_24 (len := 10) rfl (by decide) dX2_init_31 (by decide) (by decide) (fun q31 => ?_)
  refine y_put hC iA_X2 (ci := 2) (N := 12) rfl tyX2 tyX2_ok nmX2 3 (by decide) qF_X2_26 rfl rfl rfl dX2_init_34 0 (by decide) rfl rfl rfl rfl (Nat.le_of_ble_eq_true rfl) ?_
  refine y_aload_n hC dX2_init_37 rfl ?_
  refine y_new hC iA_X1 (ci := 1) (N := 8) rfl tyX1 tyX1_ok qK_X2_30 qn_X1 qi_X1 (fs := [vz, vz, vz, vz, vz, vz, vz, vz]) (fun j hj => by rcases (show j = 0 ∨ j = 1 ∨ j = 2 ∨ j = 3 ∨ j = 4 ∨ j = 5 ∨ j = 6 ∨ j = 7 by omega) with rfl | rfl | rfl | rfl | rfl | rfl | rfl | rfl <;> rfl) dX2_init_38 (by decide) (by decide) (fun q38 => ?_)
  refine y_dup hC dX2_init_41 rfl ?_
  refine y_callN hC rfl dX2_init_42 (fun l => m_X1_init l G ca _ _) rfl (by decide +kernel) qI_X1_init qi_X1 qC_X1_init (by decide) (by decide) (by decide) (by decide) (by decide) (Nat.le_of_ble_eq_true rfl) (fun α2 hα2 => ?_)
  refine y_put hC iA_X2 (ci := 2) (N := 12) rfl tyX2 tyX2_ok nmX2 8 (by decide) qF_X2_33 rfl rfl rfl dX2_init_45 0 (by decide) rfl rfl rfl rfl (Nat.le_of_ble_eq_true rfl) ?_
  refine y_iconst hC dX2_init_48 ?_
  refine y_istore_n hC dX2_init_49 (by decide) rfl ?_
  -- the ports
  have cargoes : ∀ (r i : Nat), i + r = 10 → ∀ α : Nat → Nat, α 0 = h0 → Y Γ G (15 + i) (129 + 8 * i) (16 + i) α (eDesk ca 8 5 i α) 111 [(1, .int (iZ (i : Int))), (0, .ref h0)] [] := by
    intro r
    induction r with
    | zero =>
      intro i hi α hα
      refine y_iload_n hC dX2_init_111 rfl ?_
      refine y_bipush hC dX2_init_112 (by decide) ?_
      refine y_icmp_ge hC 136 dX2_init_114 (by decide) (by omega) (by omega) (fun c_1 => ?_) (fun c_1 => ?_)
      rotate_left
      · exfalso; omega
      obtain rfl : i = 10 := by omega
      exact y_ret hC (by decide) (by decide) rfl hα (fun k hk => rfl) dX2_init_136
    | succ r ih =>
      intro i hi α hα
      refine y_iload_n hC dX2_init_111 rfl ?_
      refine y_bipush hC dX2_init_112 (by decide) ?_
      refine y_icmp_ge hC 136 dX2_init_114 (by decide) (by omega) (by omega) (fun c_1 => ?_) (fun c_1 => ?_)
      · exfalso; omega
      refine y_aload_n hC dX2_init_117 rfl ?_
      refine y_get hC iA_X2 (ci := 2) (N := 12) rfl 3 (by decide) qF_X2_26 rfl dX2_init_118 0 (by omega) hα eDesk_0 rfl ?_
      refine y_iload_n hC dX2_init_121 rfl ?_
      refine y_new hC iA_X0 (ci := 0) (N := 8) rfl tyX0 tyX0_ok qK_X2_24 qn_X0 qi_X0 (fs := [vz, vz, vz, vz, vz, vz, vz, vz]) (fun j hj => by rcases (show j = 0 ∨ j = 1 ∨ j = 2 ∨ j = 3 ∨ j = 4 ∨ j = 5 ∨ j = 6 ∨ j = 7 by omega) with rfl | rfl | rfl | rfl | rfl | rfl | rfl | rfl <;> rfl) dX2_init_122 (by omega) (by omega) (fun q => ?_)
      refine y_dup hC dX2_init_125 rfl ?_
      refine y_callN hC va_up_s dX2_init_126 (fun l => m_X0_init l G ca _ _) rfl (by decide +kernel) qI_X0_init qi_X0 qC_X0_init (by decide) (by decide) (by decide) (by omega) (by omega) (by show 1 + (1 + (1 + 0)) ≤ 8; decide) (fun α2 hα2 => ?_)
      rw [va_up_s] at hα2
      obtain ⟨α3, hα3⟩ : ∃ α3 : Nat → Nat, α3 = fun k => if k < 16 + i then va_up α (16 + i) q k else α2 (k - (16 + i)) := ⟨_, rfl⟩
      have o3 : ∀ k, k < 16 + i → α3 k = α k := fun k hk => by rw [hα3]; show (if k < 16 + i then va_up α (16 + i) q k else _) = _; rw [if_pos hk, va_up_n (by omega)]
      have q3 : α3 (16 + i) = q := by rw [hα3]; show (if 16 + i < 16 + i then _ else α2 (16 + i - (16 + i))) = _; rw [if_neg (by omega), Nat.sub_self]; exact hα2
      refine y_cg (α' := α3) (ε' := fun k => if k < 16 + i then eDesk ca 8 5 i α k else eCg) (fun k hk => ⟨by rw [hα3], ?_⟩) ?_
      · by_cases z : k < 16 + i
        · simp only [z, if_true]
          rw [va_up_n (by omega)]
        · simp only [z, if_false]
          rw [va_up_s]
          rfl
      refine y_aast hC dX2_init_129 3 rfl (r0 := (RX0, TX0, 8)) (ci := 0) rfl 4 (by omega) (o3 4 (by omega)) (len := 10) (f := fun j => if j < i then some (α (16 + j)) else none) (by rw [if_pos (by omega)]; rfl) (16 + i) (by omega) q3 (fs := [vz, vz, vz, vz, vz, vz, vz, vz]) (by rw [if_neg (by omega)]; rfl) (by omega) (by omega) (by decide) ?_
      refine y_iinc hC dX2_init_130 rfl (by decide) rfl ?_
      refine y_goto hC 111 dX2_init_133 (by decide) ?_
      refine y_weak (L' := [(1, .int (iZ ((i : Int) + 1))), (0, .ref h0)]) ⟨rfl, rfl, trivial⟩ ?_
      refine y_cg (α' := α3) (ε' := eDesk ca 8 5 (i + 1) α3) (fun k hk => ⟨rfl, ?_⟩) ?_
      · by_cases z4 : k = 4
        · subst z4
          rw [va_up_s, eDesk_4]
          have : va_up (fun j => if j < i then some (α (16 + j)) else none) (i : Int).toNat (some q) = (fun j => if j < i + 1 then some (α3 (16 + j)) else none) := by
            funext j
            rw [Int.toNat_natCast]
            by_cases zj : j = i
            · rw [zj, va_up_s, if_pos (by omega), q3]
            · rw [va_up_n zj]
              by_cases zl : j < i
              · rw [if_pos zl, if_pos (by omega), o3 _ (by omega)]
              · rw [if_neg zl, if_neg (by omega)]
          rw [this]
        · rw [va_up_n z4]
          by_cases z : k < 16 + i
          · rw [if_pos z]
            have e1 : eDesk ca 8 5 i α k = eDesk ca 8 5 i α3 k := eDesk_cg (N := 16 + i) (by omega) (by omega) (by omega) (fun j hj => (o3 j hj).symm) z (by omega)
            rw [e1]
            unfold eDesk
            rw [if_neg (c := k = 4) z4, if_neg (c := k = 4) z4]
          · rw [if_neg z, eDesk_c (by omega)]
      exact y_eq (by omega) (by omega) (by omega) (ih (i + 1) (by omega) α3 ((o3 0 (by omega)).trans hα))
  have ships : ∀ (r i : Nat), i + r = 5 → ∀ α : Nat → Nat, α 0 = h0 → Y Γ G (5 + 2 * i) (39 + 18 * i) (6 + 2 * i) α (eDesk ca 8 i 0 α) 85 [(1, .int (iZ (i : Int))), (0, .ref h0)] [] := by
    intro r
    induction r with
    | zero =>
      intro i hi α hα
      refine y_iload_n hC dX2_init_85 rfl ?_
      refine y_iconst hC dX2_init_86 ?_
      refine y_icmp_ge hC 109 dX2_init_87 (by decide) (by omega) (by omega) (fun c_1 => ?_) (fun c_1 => ?_)
      rotate_left
      · exfalso; omega
      obtain rfl : i = 5 := by omega
      refine y_iconst hC dX2_init_109 ?_
      refine y_istore_n hC dX2_init_110 (by decide) rfl ?_
      refine y_weak (L' := [(1, .int (iZ ((0 : Nat) : Int))), (0, .ref h0)]) ⟨rfl, rfl, trivial⟩ ?_
      exact cargoes 10 0 (by decide) α hα
    | succ r ih =>
      intro i hi α hα
      refine y_iload_n hC dX2_init_85 rfl ?_
      refine y_iconst hC dX2_init_86 ?_
      refine y_icmp_ge hC 109 dX2_init_87 (by decide) (by omega) (by omega) (fun c_1 => ?_) (fun c_1 => ?_)
      · exfalso; omega
      refine y_aload_n hC dX2_init_90 rfl ?_
      refine y_get hC iA_X2 (ci := 2) (N := 12) rfl 2 (by decide) qF_X2_20 rfl dX2_init_91 0 (by omega) hα eDesk_0 rfl ?_
      refine y_iload_n hC dX2_init_94 rfl ?_
      refine y_new hC iA_X6 (ci := 6) (N := 8) rfl tyX6 tyX6_ok qK_X2_18 qn_X6 qi_X6 (fs := [vz, vz, vz, vz, vz, vz, vz, .null]) (fun j hj => by rcases (show j = 0 ∨ j = 1 ∨ j = 2 ∨ j = 3 ∨ j = 4 ∨ j = 5 ∨ j = 6 ∨ j = 7 by omega) with rfl | rfl | rfl | rfl | rfl | rfl | rfl | rfl <;> rfl) dX2_init_95 (by omega) (by omega) (fun q => ?_)
      refine y_dup hC dX2_init_98 rfl ?_
      refine y_callN hC va_up_s dX2_init_99 (E2 := eShip ca) (fun l => by rw [va_up_s (f := eDesk ca 8 i 0 α)]; exact m_X6_init l G ca _) rfl (by decide +kernel) qI_X6_init qi_X6 qC_X6_init (by decide) (by decide) (by decide) (by omega) (by omega) (by show 1 + (1 + (1 + 0)) ≤ 8; decide) (fun α2 hα2 => ?_)
      rw [va_up_s] at hα2
      obtain ⟨α3, hα3⟩ : ∃ α3 : Nat → Nat, α3 = fun k => if k < 6 + 2 * i then va_up α (6 + 2 * i) q k else α2 (k - (6 + 2 * i)) := ⟨_, rfl⟩
      have o3 : ∀ k, k < 6 + 2 * i → α3 k = α k := fun k hk => by rw [hα3]; show (if k < 6 + 2 * i then va_up α (6 + 2 * i) q k else _) = _; rw [if_pos hk, va_up_n (by omega)]
      have n3 : ∀ k, α3 (6 + 2 * i + k) = α2 k := fun k => by rw [hα3]; show (if 6 + 2 * i + k < 6 + 2 * i then _ else α2 (6 + 2 * i + k - (6 + 2 * i))) = _; rw [if_neg (by omega)]; congr 1; omega
      have q3 : α3 (6 + 2 * i) = q := (n3 0).trans hα2
      refine y_cg (α' := α3) (ε' := fun k => if k < 6 + 2 * i then eDesk ca 8 i 0 α k else if k = 6 + 2 * i then eSh (.ref (α3 (k + 1))) else eFx ca) (fun k hk => ⟨by rw [hα3], ?_⟩) ?_
      · by_cases z : k < 6 + 2 * i
        · simp only [z, if_true]
          rw [va_up_n (by omega)]
        · simp only [z, if_false]
          by_cases z2 : k = 6 + 2 * i
          · rw [if_pos z2, z2, Nat.sub_self, n3 1]
            rfl
          · rw [if_neg z2, show k - (6 + 2 * i) = 1 by omega]
            rfl
      refine y_aast hC dX2_init_102 2 rfl (r0 := (RX6, TX6, 8)) (ci := 6) rfl 3 (by omega) (o3 3 (by omega)) (len := 5) (f := fun j => if j < i then some (α (6 + 2 * j)) else none) (by rw [if_pos (by omega)]; rfl) (6 + 2 * i) (by omega) q3 (fs := [vz, vz, vz, vz, vz, vz, vz, .ref (α3 (6 + 2 * i + 1))]) (by rw [if_neg (by omega), if_pos rfl]; rfl) (by omega) (by omega) (by decide) ?_
      refine y_iinc hC dX2_init_103 rfl (by decide) rfl ?_
      refine y_goto hC 85 dX2_init_106 (by decide) ?_
      refine y_weak (L' := [(1, .int (iZ ((i : Int) + 1))), (0, .ref h0)]) ⟨rfl, rfl, trivial⟩ ?_
      refine y_cg (α' := α3) (ε' := eDesk ca 8 (i + 1) 0 α3) (fun k hk => ⟨rfl, ?_⟩) ?_
      · by_cases z3 : k = 3
        · subst z3
          rw [va_up_s, eDesk_3]
          have : va_up (fun j => if j < i then some (α (6 + 2 * j)) else none) (i : Int).toNat (some q) = (fun j => if j < i + 1 then some (α3 (6 + 2 * j)) else none) := by
            funext j
            rw [Int.toNat_natCast]
            by_cases zj : j = i
            · rw [zj, va_up_s, if_pos (by omega), q3]
            · rw [va_up_n zj]
              by_cases zl : j < i
              · rw [if_pos zl, if_pos (by omega), o3 _ (by omega)]
              · rw [if_neg zl, if_neg (by omega)]
          rw [this]
        · rw [va_up_n z3]
          by_cases z : k < 6 + 2 * i
          · rw [if_pos z]
            have e1 : eDesk ca 8 i 0 α k = eDesk ca 8 i 0 α3 k := eDesk_cg (N := 6 + 2 * i) (by omega) (by omega) (by omega) (fun j hj => (o3 j hj).symm) z (by omega)
            rw [e1]
            unfold eDesk
            rw [if_neg (c := k = 3) z3, if_neg (c := k = 3) z3]
          · rw [if_neg z]
            by_cases z2 : k = 6 + 2 * i
            · rw [if_pos z2, eDesk_e (by omega) (by omega)]
            · rw [if_neg z2, eDesk_f (by omega) (by omega)]
      exact y_eq (by omega) (by omega) (by omega) (ih (i + 1) (by omega) α3 ((o3 0 (by omega)).trans hα))
  have ports : ∀ (r i : Nat), i + r = 8 → ∀ α : Nat → Nat, α 0 = h0 → Y Γ G 5 39 6 α (eDesk ca i 0 0 α) 50 [(1, .int (iZ (i : Int))), (0, .ref h0)] [] := by
    intro r
    induction r with
    | zero =>
      intro i hi α hα
      refine y_iload_n hC dX2_init_50 rfl ?_
      refine y_bipush hC dX2_init_51 (by decide) ?_
      refine y_icmp_ge hC 83 dX2_init_53 (by decide) (by omega) (by omega) (fun c_1 => ?_) (fun c_1 => ?_)
      rotate_left
      · exfalso; omega
      obtain rfl : i = 8 := by omega
      refine y_iconst hC dX2_init_83 ?_
      refine y_istore_n hC dX2_init_84 (by decide) rfl ?_
      refine y_weak (L' := [(1, .int (iZ ((0 : Nat) : Int))), (0, .ref h0)]) ⟨rfl, rfl, trivial⟩ ?_
      exact ships 5 0 (by decide) α hα
    | succ r ih =>
      intro i hi α hα
      refine y_iload_n hC dX2_init_50 rfl ?_
      refine y_bipush hC dX2_init_51 (by decide) ?_
      refine y_icmp_ge hC 83 dX2_init_53 (by decide) (by omega) (by omega) (fun c_1 => ?_) (fun c_1 => ?_)
      · exfalso; omega
      refine y_aload_n hC dX2_init_56 rfl ?_
      refine y_get hC iA_X2 (ci := 2) (N := 12) rfl 0 (by decide) qF_X2_9 rfl dX2_init_57 0 (by omega) hα eDesk_0 rfl ?_
      refine y_iload_n hC dX2_init_60 rfl ?_
      refine y_bipush hC dX2_init_61 (by decide) ?_
      refine y_iload_n hC dX2_init_63 rfl ?_
      refine y_imul hC dX2_init_64 ?_
      refine y_iast hC dX2_init_65 1 (by decide) rfl eDesk_1 (by omega) (by omega) (by decide) ?_
      refine y_aload_n hC dX2_init_66 rfl ?_
      refine y_get hC iA_X2 (ci := 2) (N := 12) rfl 1 (by decide) qF_X2_15 rfl dX2_init_67 0 (by omega) hα ((va_up_n (by decide)).trans eDesk_0) rfl ?_
      refine y_iload_n hC dX2_init_70 rfl ?_
      refine y_iconst hC dX2_init_71 ?_
      refine y_iload_n hC dX2_init_72 rfl ?_
      refine y_iconst hC dX2_init_73 ?_
      refine y_irem hC dX2_init_74 (by omega) (by omega) ?_
      refine y_imul hC dX2_init_75 ?_
      refine y_iast hC dX2_init_76 2 (by decide) rfl ((va_up_n (by decide)).trans eDesk_2) (by omega) (by omega) (by decide) ?_
      refine y_iinc hC dX2_init_77 rfl (by decide) rfl ?_
      refine y_goto hC 50 dX2_init_80 (by decide) ?_
      refine y_weak (L' := [(1, .int (iZ ((i : Int) + 1))), (0, .ref h0)]) ⟨rfl, rfl, trivial⟩ ?_
      refine y_cg (α' := α) (ε' := eDesk ca (i + 1) 0 0 α) (fun k hk => ⟨rfl, ?_⟩) ?_
      · rcases lt6 hk with rfl | rfl | rfl | rfl | rfl | rfl
        · rw [va_up_n (by decide), va_up_n (by decide)]; rfl
        · rw [va_up_n (by decide), va_up_s, eDesk_1]
          have : upd (fun j : Nat => iZ (if j < i then 10 * (j : Int) else 0)) (i : Int).toNat (iZ (10 * (i : Int))) = (fun j : Nat => iZ (if j < i + 1 then 10 * (j : Int) else 0)) := by
            funext j
            rw [Int.toNat_natCast]
            unfold upd
            by_cases zj : j = i
            · rw [if_pos zj, zj, if_pos (by omega)]
            · rw [if_neg zj]
              dsimp only
              by_cases zl : j < i
              · rw [if_pos zl, if_pos (by omega)]
              · rw [if_neg zl, if_neg (by omega)]
          rw [this]
        · rw [va_up_s, eDesk_2]
          have : upd (fun j : Nat => iZ (if j < i then 5 * ((j : Int) % 3) else 0)) (i : Int).toNat (iZ (5 * ((i : Int) % 3))) = (fun j : Nat => iZ (if j < i + 1 then 5 * ((j : Int) % 3) else 0)) := by
            funext j
            rw [Int.toNat_natCast]
            unfold upd
            by_cases zj : j = i
            · rw [if_pos zj, zj, if_pos (by omega)]
            · rw [if_neg zj]
              dsimp only
              by_cases zl : j < i
              · rw [if_pos zl, if_pos (by omega)]
              · rw [if_neg zl, if_neg (by omega)]
          rw [this]
        · rw [va_up_n (by decide), va_up_n (by decide)]; rfl
        · rw [va_up_n (by decide), va_up_n (by decide)]; rfl
        · rw [va_up_n (by decide), va_up_n (by decide)]; rfl
      exact ih (i + 1) (by omega) α hα
  obtain ⟨α, hα⟩ : ∃ α : Nat → Nat, α = fun k => if k < 5 then va_up (va_up (va_up (va_up (va_up (fun _ => h0) 1 q7) 2 q15) 3 q22) 4 q31) 5 q38 k else α2 (k - 5) := ⟨_, rfl⟩
  have a5 : α2 0 = q38 := hα2
  refine y_weak (L' := [(1, .int (iZ ((0 : Nat) : Int))), (0, .ref h0)]) ⟨rfl, rfl, trivial⟩ ?_
  refine y_cg (α' := α) (ε' := eDesk ca 0 0 0 α) (fun k hk => ⟨by rw [hα], ?_⟩) (ports 8 0 (by decide) α (by rw [hα]; rfl))
  have z10 : (fun j : Nat => iZ (if j < 0 then 10 * (j : Int) else 0)) = fun _ => iZ 0 := by funext j; rw [if_neg (Nat.not_lt_zero j)]
  have z5 : (fun j : Nat => iZ (if j < 0 then 5 * ((j : Int) % 3) else 0)) = fun _ => iZ 0 := by funext j; rw [if_neg (Nat.not_lt_zero j)]
  have zs : (fun j : Nat => if j < 0 then some (α (6 + 2 * j)) else none) = fun _ => none := by funext j; rw [if_neg (Nat.not_lt_zero j)]
  have zc : (fun j : Nat => if j < 0 then some (α (16 + j)) else none) = fun _ => none := by funext j; rw [if_neg (Nat.not_lt_zero j)]
  rcases lt6 hk with rfl | rfl | rfl | rfl | rfl | rfl
  · rw [eDesk_0]
    have e5 : α 5 = q38 := by rw [hα]; exact a5
    rw [e5, hα]
    rfl
  · rw [eDesk_1, z10]; rfl
  · rw [eDesk_2, z5]; rfl
  · rw [eDesk_3, zs]; rfl
  · rw [eDesk_4, zc]; rfl
  · rfl
