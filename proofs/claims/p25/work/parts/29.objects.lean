/-! THE HISTORY, THE OBJECT, THE REFERENCE -/
def eHist (ca : Nat → ClassId) (S : Nat) (α : Nat → Nat) : Nat → va_E := fun k =>
  if k = 0 then .inr (4, [.ref (α 1), vz])
  else if k = 1 then .inl (ca 4, 4, vr (fun j => if j < S then some (α (2 + 26 * j)) else none))
  else eDesk ca 8 5 10 (fun o => α (2 + 26 * ((k - 2) / 26) + o)) ((k - 2) % 26)
theorem eHist_0 {ca : Nat → ClassId} {S : Nat} {α : Nat → Nat} : eHist ca S α 0 = .inr (4, [.ref (α 1), vz]) := rfl
theorem eHist_1 {ca : Nat → ClassId} {S : Nat} {α : Nat → Nat} : eHist ca S α 1 = .inl (ca 4, 4, vr (fun j => if j < S then some (α (2 + 26 * j)) else none)) := rfl
theorem eHist_d {ca : Nat → ClassId} {S k : Nat} {α : Nat → Nat} (h : 2 ≤ k) : eHist ca S α k = eDesk ca 8 5 10 (fun o => α (2 + 26 * ((k - 2) / 26) + o)) ((k - 2) % 26) := by
  unfold eHist
  rw [if_neg (by omega), if_neg (by omega)]
theorem eDesk_ch {ca : Nat → ClassId} {k : Nat} {α α' : Nat → Nat} (h : ∀ j, j < 26 → α j = α' j) (hk : k < 26) : eDesk ca 8 5 10 α k = eDesk ca 8 5 10 α' k := eDesk_cg (N := 26) (by omega) (by omega) (by omega) h hk (by omega)
theorem eHist_cg {ca : Nat → ClassId} {S k : Nat} {α α' : Nat → Nat} (h : ∀ j, j < 2 + 26 * S → α j = α' j) (hk : k < 2 + 26 * S) : eHist ca S α k = eHist ca S α' k := by
  by_cases q : k < 2
  · rcases (show k = 0 ∨ k = 1 by omega) with rfl | rfl
    · rw [eHist_0, eHist_0, h 1 (by omega)]
    · rw [eHist_1, eHist_1]
      have : (fun j => if j < S then some (α (2 + 26 * j)) else none) = (fun j => if j < S then some (α' (2 + 26 * j)) else none) := by
        funext j
        by_cases z : j < S
        · rw [if_pos z, if_pos z, h _ (by omega)]
        · rw [if_neg z, if_neg z]
      rw [this]
  · rw [eHist_d (by omega), eHist_d (by omega)]
    exact eDesk_ch (fun j hj => h _ (by omega)) (Nat.mod_lt _ (by decide))
theorem x2_def : ∀ j, j < 12 → defaultValue (tyX2 j) = vp_V [.null, .null, .null, .null, vz, vz, vz, vz, .null, vz, vz, vz] j := by
  intro j hj
  rcases (show j = 0 ∨ j = 1 ∨ j = 2 ∨ j = 3 ∨ j = 4 ∨ j = 5 ∨ j = 6 ∨ j = 7 ∨ j = 8 ∨ j = 9 ∨ j = 10 ∨ j = 11 by omega) with rfl | rfl | rfl | rfl | rfl | rfl | rfl | rfl | rfl | rfl | rfl | rfl <;> rfl

set_option maxHeartbeats 4000000 in
set_option maxRecDepth 100000 in
/-- the history: its object, its row, four desks -/
theorem m_X4_init (l : Launch) (G : va_G) (ca : Nat → ClassId) (h0 : Nat) : yMet l G ca yX4_init cX4_init 2 3 53 105 888 h0 (.inr (4, [.null, vz])) 106 (eHist ca 4) := by
  refine yMet_of (by decide) rfl (by decide) (fun Γ hC => ?_)
  refine y_aload_n hC dX4_init_0 rfl ?_
  refine y_obj hC qM_X4_3 dX4_init_1 (by decide) (by decide) ?_
  refine y_aload_n hC dX4_init_4 rfl ?_
  refine y_iconst hC dX4_init_5 ?_
  refine y_newr hC 4 rfl (fun U h => h.2.2.2.2) qK_X4_9 (len := 4) rfl (by decide) dX4_init_6 (by decide) (by decide) (fun q6 => ?_)
  refine y_put hC iA_X4 (ci := 4) (N := 2) rfl tyX4 tyX4_ok nmX4 0 (by decide) qF_X4_11 rfl rfl rfl dX4_init_9 0 (by decide) rfl rfl rfl rfl (Nat.le_of_ble_eq_true rfl) ?_
  refine y_iconst hC dX4_init_12 ?_
  refine y_istore_n hC dX4_init_13 (by decide) rfl ?_
  have desks : ∀ (r i : Nat), i + r = 4 → ∀ α : Nat → Nat, α 0 = h0 → Y Γ G (1 + 26 * i) (4 + 221 * i) (2 + 26 * i) α (eHist ca i α) 14 [(1, .int (iZ (i : Int))), (0, .ref h0)] [] := by
    intro r
    induction r with
    | zero =>
      intro i hi α hα
      refine y_iload_n hC dX4_init_14 rfl ?_
      refine y_iconst hC dX4_init_15 ?_
      refine y_icmp_ge hC 38 dX4_init_16 (by decide) (by omega) (by omega) (fun c_1 => ?_) (fun c_1 => ?_)
      rotate_left
      · exfalso; omega
      obtain rfl : i = 4 := by omega
      exact y_ret hC (by decide) (by decide) rfl hα (fun k hk => rfl) dX4_init_38
    | succ r ih =>
      intro i hi α hα
      refine y_iload_n hC dX4_init_14 rfl ?_
      refine y_iconst hC dX4_init_15 ?_
      refine y_icmp_ge hC 38 dX4_init_16 (by decide) (by omega) (by omega) (fun c_1 => ?_) (fun c_1 => ?_)
      · exfalso; omega
      refine y_aload_n hC dX4_init_19 rfl ?_
      refine y_get hC iA_X4 (ci := 4) (N := 2) rfl 0 (by decide) qF_X4_11 rfl dX4_init_20 0 (by omega) hα eHist_0 rfl ?_
      refine y_iload_n hC dX4_init_23 rfl ?_
      refine y_new hC iA_X2 (ci := 2) (N := 12) rfl tyX2 tyX2_ok qK_X4_9 qn_X2 qi_X2 x2_def dX4_init_24 (by omega) (by omega) (fun q => ?_)
      refine y_dup hC dX4_init_27 rfl ?_
      refine y_call hC va_up_s dX4_init_28 (E2 := eDesk ca 8 5 10) (fun l => by rw [va_up_s (f := eHist ca i α)]; exact m_X2_init l G ca _) rfl qM_X4_17 qI_X2_init qi_X2 qC_X2_init (by decide) (by decide) (by decide) (by omega) (by omega) (by show 1 + (1 + (1 + 0)) ≤ 8; decide) (fun α2 hα2 => ?_)
      rw [va_up_s] at hα2
      obtain ⟨α3, hα3⟩ : ∃ α3 : Nat → Nat, α3 = fun k => if k < 2 + 26 * i then va_up α (2 + 26 * i) q k else α2 (k - (2 + 26 * i)) := ⟨_, rfl⟩
      have o3 : ∀ k, k < 2 + 26 * i → α3 k = α k := fun k hk => by rw [hα3]; show (if k < 2 + 26 * i then va_up α (2 + 26 * i) q k else _) = _; rw [if_pos hk, va_up_n (by omega)]
      have n3 : ∀ k, α3 (2 + 26 * i + k) = α2 k := fun k => by rw [hα3]; show (if 2 + 26 * i + k < 2 + 26 * i then _ else α2 (2 + 26 * i + k - (2 + 26 * i))) = _; rw [if_neg (by omega)]; congr 1; omega
      have q3 : α3 (2 + 26 * i) = q := (n3 0).trans hα2
      have e3 : (fun o => α3 (2 + 26 * i + o)) = α2 := funext n3
      refine y_cg (α' := α3) (ε' := fun k => if k < 2 + 26 * i then eHist ca i α k else eDesk ca 8 5 10 (fun o => α3 (2 + 26 * i + o)) (k - (2 + 26 * i))) (fun k hk => ⟨by rw [hα3], ?_⟩) ?_
      · by_cases z : k < 2 + 26 * i
        · simp only [z, if_true]
          rw [va_up_n (by omega)]
        · simp only [z, if_false]
          rw [e3]
      refine y_aast hC dX4_init_31 4 rfl (r0 := (RX2, TX2, 12)) (ci := 2) rfl 1 (by omega) (o3 1 (by omega)) (len := 4) (f := fun j => if j < i then some (α (2 + 26 * j)) else none) (by rw [if_pos (by omega)]; rfl) (2 + 26 * i) (by omega) q3 (fs := [.ref (α3 (2 + 26 * i + 1)), .ref (α3 (2 + 26 * i + 2)), .ref (α3 (2 + 26 * i + 3)), .ref (α3 (2 + 26 * i + 4)), vz, vz, vz, vz, .ref (α3 (2 + 26 * i + 5)), vz, vz, vz]) (by rw [if_neg (by omega), Nat.sub_self]; rfl) (by omega) (by omega) (by decide) ?_
      refine y_iinc hC dX4_init_32 rfl (by decide) rfl ?_
      refine y_goto hC 14 dX4_init_35 (by decide) ?_
      refine y_weak (L' := [(1, .int (iZ ((i : Int) + 1))), (0, .ref h0)]) ⟨rfl, rfl, trivial⟩ ?_
      refine y_cg (α' := α3) (ε' := eHist ca (i + 1) α3) (fun k hk => ⟨rfl, ?_⟩) ?_
      · by_cases z1 : k = 1
        · subst z1
          rw [va_up_s, eHist_1]
          have : va_up (fun j => if j < i then some (α (2 + 26 * j)) else none) (i : Int).toNat (some q) = (fun j => if j < i + 1 then some (α3 (2 + 26 * j)) else none) := by
            funext j
            rw [Int.toNat_natCast]
            by_cases zj : j = i
            · rw [zj, va_up_s, if_pos (by omega), q3]
            · rw [va_up_n zj]
              by_cases zl : j < i
              · rw [if_pos zl, if_pos (by omega), o3 _ (by omega)]
              · rw [if_neg zl, if_neg (by omega)]
          rw [this]
        · rw [va_up_n z1]
          by_cases z : k < 2 + 26 * i
          · rw [if_pos z, eHist_cg (α' := α3) (fun j hj => (o3 j hj).symm) z]
            unfold eHist
            rw [if_neg (c := k = 1) z1, if_neg (c := k = 1) z1]
          · rw [if_neg z, eHist_d (by omega), show (k - 2) / 26 = i by omega, show (k - 2) % 26 = k - (2 + 26 * i) by omega]
      exact y_eq (by omega) (by omega) (by omega) (ih (i + 1) (by omega) α3 ((o3 0 (by omega)).trans hα))
  refine y_weak (L' := [(1, .int (iZ ((0 : Nat) : Int))), (0, .ref h0)]) ⟨rfl, rfl, trivial⟩ ?_
  obtain ⟨α, hα⟩ : ∃ α : Nat → Nat, α = va_up (fun _ => h0) 1 q6 := ⟨_, rfl⟩
  refine y_cg (α' := α) (ε' := eHist ca 0 α) (fun k hk => ⟨by rw [hα], ?_⟩) (desks 4 0 (by decide) α (by rw [hα]; rfl))
  have zs : (fun j : Nat => if j < 0 then some (α (2 + 26 * j)) else none) = fun _ => none := by funext j; rw [if_neg (Nat.not_lt_zero j)]
  rcases (show k = 0 ∨ k = 1 by omega) with rfl | rfl
  · rw [eHist_0, hα]; rfl
  · rw [eHist_1, zs]; rfl

def eMain (ca : Nat → ClassId) (F : (Nat → Nat) → List Value) (α : Nat → Nat) : Nat → va_E := fun k =>
  if k = 0 then .inr (7, F α)
  else if k < 27 then eDesk ca 8 5 10 (fun o => α (1 + o)) (k - 1)
  else if k < 53 then eDesk ca 8 5 10 (fun o => α (27 + o)) (k - 27)
  else if k < 159 then eHist ca 4 (fun o => α (53 + o)) (k - 53)
  else if k < 162 then eScr ca (fun o => α (159 + o)) (k - 159)
  else eFd
theorem eMain_cg {ca : Nat → ClassId} {F F' : (Nat → Nat) → List Value} {N k : Nat} {α α' : Nat → Nat} (hN : N = 1 ∨ N = 27 ∨ N = 53 ∨ N = 159 ∨ N = 162 ∨ N = 163) (hF : F α = F' α') (h : ∀ j, j < N → α j = α' j) (hk : k < N) : eMain ca F α k = eMain ca F' α' k := by
  unfold eMain
  by_cases q0 : k = 0
  · rw [if_pos q0, if_pos q0, hF]
  rw [if_neg q0, if_neg q0]
  by_cases q1 : k < 27
  · rw [if_pos q1, if_pos q1]
    exact eDesk_ch (fun j hj => h _ (by omega)) (by omega)
  rw [if_neg q1, if_neg q1]
  by_cases q2 : k < 53
  · rw [if_pos q2, if_pos q2]
    exact eDesk_ch (fun j hj => h _ (by omega)) (by omega)
  rw [if_neg q2, if_neg q2]
  by_cases q3 : k < 159
  · rw [if_pos q3, if_pos q3]
    exact eHist_cg (fun j hj => h _ (by omega)) (by omega)
  rw [if_neg q3, if_neg q3]
  by_cases q4 : k < 162
  · rw [if_pos q4, if_pos q4]
    show (if k - 159 = 0 then (Sum.inr (5, [.ref (α 160), vz, vz, .ref (α 161), vz]) : va_E) else _) = (if k - 159 = 0 then (Sum.inr (5, [.ref (α' 160), vz, vz, .ref (α' 161), vz]) : va_E) else _)
    rw [h 160 (by omega), h 161 (by omega)]
  rw [if_neg q4, if_neg q4]
/-- the object's fields are changed -/
theorem eMain_f {ca : Nat → ClassId} {F F' : (Nat → Nat) → List Value} {α : Nat → Nat} {fs : List Value} {k : Nat} (h : F' α = fs) : va_up (eMain ca F α) 0 (.inr (7, fs)) k = eMain ca F' α k := by
  by_cases z : k = 0
  · rw [z, va_up_s, ← h]; rfl
  · rw [va_up_n z]
    unfold eMain
    rw [if_neg z, if_neg z]

set_option maxHeartbeats 4000000 in
set_option maxRecDepth 100000 in
/-- the object: 163 cells -/
theorem m_X7_init (l : Launch) (G : va_G) (ca : Nat → ClassId) (h0 : Nat) : yMet l G ca yX7_init cX7_init 1 4 74 162 1407 h0 (.inr (7, [.null, .null, .null, .null, .null])) 163 (eMain ca (fun α => [.ref (α 1), .ref (α 27), .ref (α 53), .ref (α 159), .ref (α 162)])) := by
  refine yMet_of (by decide) rfl (by decide) (fun Γ hC => ?_)
  refine y_aload_n hC dX7_init_0 rfl ?_
  refine y_obj hC qM_X7_1 dX7_init_1 (by decide) (by decide) ?_
  have st5 : ∀ α : Nat → Nat, α 0 = h0 → Y Γ G 162 1407 163 α (eMain ca (fun α => [.ref (α 1), .ref (α 27), .ref (α 53), .ref (α 159), .ref (α 162)]) α) 59 [(0, .ref h0)] [] := fun α hα => y_ret hC (by decide) (by decide) rfl hα (fun k hk => rfl) dX7_init_59
  have st4 : ∀ α : Nat → Nat, α 0 = h0 → Y Γ G 161 1403 162 α (eMain ca (fun α => [.ref (α 1), .ref (α 27), .ref (α 53), .ref (α 159), .null]) α) 48 [(0, .ref h0)] [] := by
      intro α hα
      refine y_aload_n hC dX7_init_48 rfl ?_
      refine y_new hC iA_X3 (ci := 3) (N := 4) rfl tyX3 tyX3_ok qK_X7_33 qn_X3 qi_X3 (fs := [vz, vz, vz, vz]) (fun j hj => by rcases (show j = 0 ∨ j = 1 ∨ j = 2 ∨ j = 3 by omega) with rfl | rfl | rfl | rfl <;> rfl) dX7_init_49 (by decide) (by decide) (fun q => ?_)
      refine y_dup hC dX7_init_52 rfl ?_
      refine y_callN hC va_up_s dX7_init_53 (E2 := fun _ _ => eFd) (fun l => by rw [va_up_s (f := eMain ca (fun α => [.ref (α 1), .ref (α 27), .ref (α 53), .ref (α 159), .null]) α)]; exact m_X3_init l G ca _ _) rfl (by decide +kernel) qI_X3_init qi_X3 qC_X3_init (by decide) (by decide) (by decide) (by decide) (by decide) (by show 1 + (1 + 0) ≤ 8; decide) (fun α2 hα2 => ?_)
      rw [va_up_s] at hα2
      obtain ⟨α3, hα3⟩ : ∃ α3 : Nat → Nat, α3 = fun k => if k < 162 then va_up α (162) q k else α2 (k - (162)) := ⟨_, rfl⟩
      have o3 : ∀ k, k < 162 → α3 k = α k := fun k hk => by rw [hα3]; show (if k < 162 then va_up α (162) q k else _) = _; rw [if_pos hk, va_up_n (by omega)]
      have n3 : ∀ k, α3 (162 + k) = α2 k := fun k => by rw [hα3]; show (if 162 + k < 162 then _ else α2 (162 + k - (162))) = _; rw [if_neg (by omega)]; congr 1; omega
      have q3 : α3 (162) = q := (n3 0).trans hα2
      have e3 : (fun o => α3 (162 + o)) = α2 := funext n3
      refine y_cg (α' := α3) (ε' := eMain ca (fun α => [.ref (α 1), .ref (α 27), .ref (α 53), .ref (α 159), .null]) α3) (fun k hk => ⟨by rw [hα3], ?_⟩) ?_
      · by_cases z : k < 162
        · simp only [z, if_true]
          rw [va_up_n (by omega)]
          exact eMain_cg (N := 162) (by omega) (by simp only [o3 1 (by omega), o3 27 (by omega), o3 53 (by omega), o3 159 (by omega)]) (fun j hj => (o3 j hj).symm) z
        · simp only [z, if_false]
          unfold eMain
          rw [if_neg (by omega), if_neg (by omega), if_neg (by omega), if_neg (by omega), if_neg (by omega)]
      refine y_put hC iA_X7 (ci := 7) (N := 5) rfl tyX7 tyX7_ok nmX7 4 (by decide) qF_X7_36 rfl rfl rfl dX7_init_56 0 (by decide) ((o3 0 (by omega)).trans hα) rfl rfl rfl (Nat.le_of_ble_eq_true rfl) ?_
      refine y_cg (α' := α3) (ε' := eMain ca (fun α => [.ref (α 1), .ref (α 27), .ref (α 53), .ref (α 159), .ref (α 162)]) α3) (fun k hk => ⟨rfl, eMain_f (by rw [← q3]; rfl)⟩) ?_
      exact st5 α3 ((o3 0 (by omega)).trans hα)
  have st3 : ∀ α : Nat → Nat, α 0 = h0 → Y Γ G 158 1332 159 α (eMain ca (fun α => [.ref (α 1), .ref (α 27), .ref (α 53), .null, .null]) α) 37 [(0, .ref h0)] [] := by
      intro α hα
      refine y_aload_n hC dX7_init_37 rfl ?_
      refine y_new hC iA_X5 (ci := 5) (N := 5) rfl tyX5 tyX5_ok qK_X7_26 qn_X5 qi_X5 (fs := [.null, vz, vz, .null, vz]) (fun j hj => by rcases (show j = 0 ∨ j = 1 ∨ j = 2 ∨ j = 3 ∨ j = 4 by omega) with rfl | rfl | rfl | rfl | rfl <;> rfl) dX7_init_38 (by decide) (by decide) (fun q => ?_)
      refine y_dup hC dX7_init_41 rfl ?_
      refine y_callN hC va_up_s dX7_init_42 (E2 := eScr ca) (fun l => by rw [va_up_s (f := eMain ca (fun α => [.ref (α 1), .ref (α 27), .ref (α 53), .null, .null]) α)]; exact m_X5_init l G ca _) rfl (by decide +kernel) qI_X5_init qi_X5 qC_X5_init (by decide) (by decide) (by decide) (by decide) (by decide) (by show 1 + (1 + 0) ≤ 8; decide) (fun α2 hα2 => ?_)
      rw [va_up_s] at hα2
      obtain ⟨α3, hα3⟩ : ∃ α3 : Nat → Nat, α3 = fun k => if k < 159 then va_up α (159) q k else α2 (k - (159)) := ⟨_, rfl⟩
      have o3 : ∀ k, k < 159 → α3 k = α k := fun k hk => by rw [hα3]; show (if k < 159 then va_up α (159) q k else _) = _; rw [if_pos hk, va_up_n (by omega)]
      have n3 : ∀ k, α3 (159 + k) = α2 k := fun k => by rw [hα3]; show (if 159 + k < 159 then _ else α2 (159 + k - (159))) = _; rw [if_neg (by omega)]; congr 1; omega
      have q3 : α3 (159) = q := (n3 0).trans hα2
      have e3 : (fun o => α3 (159 + o)) = α2 := funext n3
      refine y_cg (α' := α3) (ε' := eMain ca (fun α => [.ref (α 1), .ref (α 27), .ref (α 53), .null, .null]) α3) (fun k hk => ⟨by rw [hα3], ?_⟩) ?_
      · by_cases z : k < 159
        · simp only [z, if_true]
          rw [va_up_n (by omega)]
          exact eMain_cg (N := 159) (by omega) (by simp only [o3 1 (by omega), o3 27 (by omega), o3 53 (by omega)]) (fun j hj => (o3 j hj).symm) z
        · simp only [z, if_false]
          unfold eMain
          rw [if_neg (by omega), if_neg (by omega), if_neg (by omega), if_neg (by omega), if_pos (by omega), e3]
      refine y_put hC iA_X7 (ci := 7) (N := 5) rfl tyX7 tyX7_ok nmX7 3 (by decide) qF_X7_29 rfl rfl rfl dX7_init_45 0 (by decide) ((o3 0 (by omega)).trans hα) rfl rfl rfl (Nat.le_of_ble_eq_true rfl) ?_
      refine y_cg (α' := α3) (ε' := eMain ca (fun α => [.ref (α 1), .ref (α 27), .ref (α 53), .ref (α 159), .null]) α3) (fun k hk => ⟨rfl, eMain_f (by rw [← q3]; rfl)⟩) ?_
      exact st4 α3 ((o3 0 (by omega)).trans hα)
  have st2 : ∀ α : Nat → Nat, α 0 = h0 → Y Γ G 52 442 53 α (eMain ca (fun α => [.ref (α 1), .ref (α 27), .null, .null, .null]) α) 26 [(0, .ref h0)] [] := by
      intro α hα
      refine y_aload_n hC dX7_init_26 rfl ?_
      refine y_new hC iA_X4 (ci := 4) (N := 2) rfl tyX4 tyX4_ok qK_X7_19 qn_X4 qi_X4 (fs := [.null, vz]) (fun j hj => by rcases (show j = 0 ∨ j = 1 by omega) with rfl | rfl <;> rfl) dX7_init_27 (by decide) (by decide) (fun q => ?_)
      refine y_dup hC dX7_init_30 rfl ?_
      refine y_call hC va_up_s dX7_init_31 (E2 := eHist ca 4) (fun l => by rw [va_up_s (f := eMain ca (fun α => [.ref (α 1), .ref (α 27), .null, .null, .null]) α)]; exact m_X4_init l G ca _) rfl qM_X7_21 qI_X4_init qi_X4 qC_X4_init (by decide) (by decide) (by decide) (by decide) (by decide) (by show 1 + (1 + 0) ≤ 8; decide) (fun α2 hα2 => ?_)
      rw [va_up_s] at hα2
      obtain ⟨α3, hα3⟩ : ∃ α3 : Nat → Nat, α3 = fun k => if k < 53 then va_up α (53) q k else α2 (k - (53)) := ⟨_, rfl⟩
      have o3 : ∀ k, k < 53 → α3 k = α k := fun k hk => by rw [hα3]; show (if k < 53 then va_up α (53) q k else _) = _; rw [if_pos hk, va_up_n (by omega)]
      have n3 : ∀ k, α3 (53 + k) = α2 k := fun k => by rw [hα3]; show (if 53 + k < 53 then _ else α2 (53 + k - (53))) = _; rw [if_neg (by omega)]; congr 1; omega
      have q3 : α3 (53) = q := (n3 0).trans hα2
      have e3 : (fun o => α3 (53 + o)) = α2 := funext n3
      refine y_cg (α' := α3) (ε' := eMain ca (fun α => [.ref (α 1), .ref (α 27), .null, .null, .null]) α3) (fun k hk => ⟨by rw [hα3], ?_⟩) ?_
      · by_cases z : k < 53
        · simp only [z, if_true]
          rw [va_up_n (by omega)]
          exact eMain_cg (N := 53) (by omega) (by simp only [o3 1 (by omega), o3 27 (by omega)]) (fun j hj => (o3 j hj).symm) z
        · simp only [z, if_false]
          unfold eMain
          rw [if_neg (by omega), if_neg (by omega), if_neg (by omega), if_pos (by omega), e3]
      refine y_put hC iA_X7 (ci := 7) (N := 5) rfl tyX7 tyX7_ok nmX7 2 (by decide) qF_X7_22 rfl rfl rfl dX7_init_34 0 (by decide) ((o3 0 (by omega)).trans hα) rfl rfl rfl (Nat.le_of_ble_eq_true rfl) ?_
      refine y_cg (α' := α3) (ε' := eMain ca (fun α => [.ref (α 1), .ref (α 27), .ref (α 53), .null, .null]) α3) (fun k hk => ⟨rfl, eMain_f (by rw [← q3]; rfl)⟩) ?_
      exact st3 α3 ((o3 0 (by omega)).trans hα)
  have st1 : ∀ α : Nat → Nat, α 0 = h0 → Y Γ G 26 221 27 α (eMain ca (fun α => [.ref (α 1), .null, .null, .null, .null]) α) 15 [(0, .ref h0)] [] := by
      intro α hα
      refine y_aload_n hC dX7_init_15 rfl ?_
      refine y_new hC iA_X2 (ci := 2) (N := 12) rfl tyX2 tyX2_ok qK_X7_7 qn_X2 qi_X2 x2_def dX7_init_16 (by decide) (by decide) (fun q => ?_)
      refine y_dup hC dX7_init_19 rfl ?_
      refine y_call hC va_up_s dX7_init_20 (E2 := eDesk ca 8 5 10) (fun l => by rw [va_up_s (f := eMain ca (fun α => [.ref (α 1), .null, .null, .null, .null]) α)]; exact m_X2_init l G ca _) rfl qM_X7_9 qI_X2_init qi_X2 qC_X2_init (by decide) (by decide) (by decide) (by decide) (by decide) (by show 1 + (1 + 0) ≤ 8; decide) (fun α2 hα2 => ?_)
      rw [va_up_s] at hα2
      obtain ⟨α3, hα3⟩ : ∃ α3 : Nat → Nat, α3 = fun k => if k < 27 then va_up α (27) q k else α2 (k - (27)) := ⟨_, rfl⟩
      have o3 : ∀ k, k < 27 → α3 k = α k := fun k hk => by rw [hα3]; show (if k < 27 then va_up α (27) q k else _) = _; rw [if_pos hk, va_up_n (by omega)]
      have n3 : ∀ k, α3 (27 + k) = α2 k := fun k => by rw [hα3]; show (if 27 + k < 27 then _ else α2 (27 + k - (27))) = _; rw [if_neg (by omega)]; congr 1; omega
      have q3 : α3 (27) = q := (n3 0).trans hα2
      have e3 : (fun o => α3 (27 + o)) = α2 := funext n3
      refine y_cg (α' := α3) (ε' := eMain ca (fun α => [.ref (α 1), .null, .null, .null, .null]) α3) (fun k hk => ⟨by rw [hα3], ?_⟩) ?_
      · by_cases z : k < 27
        · simp only [z, if_true]
          rw [va_up_n (by omega)]
          exact eMain_cg (N := 27) (by omega) (by simp only [o3 1 (by omega)]) (fun j hj => (o3 j hj).symm) z
        · simp only [z, if_false]
          unfold eMain
          rw [if_neg (by omega), if_neg (by omega), if_pos (by omega), e3]
      refine y_put hC iA_X7 (ci := 7) (N := 5) rfl tyX7 tyX7_ok nmX7 1 (by decide) qF_X7_16 rfl rfl rfl dX7_init_23 0 (by decide) ((o3 0 (by omega)).trans hα) rfl rfl rfl (Nat.le_of_ble_eq_true rfl) ?_
      refine y_cg (α' := α3) (ε' := eMain ca (fun α => [.ref (α 1), .ref (α 27), .null, .null, .null]) α3) (fun k hk => ⟨rfl, eMain_f (by rw [← q3]; rfl)⟩) ?_
      exact st2 α3 ((o3 0 (by omega)).trans hα)
  have st0 : ∀ α : Nat → Nat, α 0 = h0 → Y Γ G 0 0 1 α (eMain ca (fun α => [.null, .null, .null, .null, .null]) α) 4 [(0, .ref h0)] [] := by
      intro α hα
      refine y_aload_n hC dX7_init_4 rfl ?_
      refine y_new hC iA_X2 (ci := 2) (N := 12) rfl tyX2 tyX2_ok qK_X7_7 qn_X2 qi_X2 x2_def dX7_init_5 (by decide) (by decide) (fun q => ?_)
      refine y_dup hC dX7_init_8 rfl ?_
      refine y_call hC va_up_s dX7_init_9 (E2 := eDesk ca 8 5 10) (fun l => by rw [va_up_s (f := eMain ca (fun α => [.null, .null, .null, .null, .null]) α)]; exact m_X2_init l G ca _) rfl qM_X7_9 qI_X2_init qi_X2 qC_X2_init (by decide) (by decide) (by decide) (by decide) (by decide) (by show 1 + (1 + 0) ≤ 8; decide) (fun α2 hα2 => ?_)
      rw [va_up_s] at hα2
      obtain ⟨α3, hα3⟩ : ∃ α3 : Nat → Nat, α3 = fun k => if k < 1 then va_up α (1) q k else α2 (k - (1)) := ⟨_, rfl⟩
      have o3 : ∀ k, k < 1 → α3 k = α k := fun k hk => by rw [hα3]; show (if k < 1 then va_up α (1) q k else _) = _; rw [if_pos hk, va_up_n (by omega)]
      have n3 : ∀ k, α3 (1 + k) = α2 k := fun k => by rw [hα3]; show (if 1 + k < 1 then _ else α2 (1 + k - (1))) = _; rw [if_neg (by omega)]; congr 1; omega
      have q3 : α3 (1) = q := (n3 0).trans hα2
      have e3 : (fun o => α3 (1 + o)) = α2 := funext n3
      refine y_cg (α' := α3) (ε' := eMain ca (fun α => [.null, .null, .null, .null, .null]) α3) (fun k hk => ⟨by rw [hα3], ?_⟩) ?_
      · by_cases z : k < 1
        · simp only [z, if_true]
          rw [va_up_n (by omega)]
          exact eMain_cg (N := 1) (by omega) (rfl) (fun j hj => (o3 j hj).symm) z
        · simp only [z, if_false]
          unfold eMain
          rw [if_neg (by omega), if_pos (by omega), e3]
      refine y_put hC iA_X7 (ci := 7) (N := 5) rfl tyX7 tyX7_ok nmX7 0 (by decide) qF_X7_10 rfl rfl rfl dX7_init_12 0 (by decide) ((o3 0 (by omega)).trans hα) rfl rfl rfl (Nat.le_of_ble_eq_true rfl) ?_
      refine y_cg (α' := α3) (ε' := eMain ca (fun α => [.ref (α 1), .null, .null, .null, .null]) α3) (fun k hk => ⟨rfl, eMain_f (by rw [← q3]; rfl)⟩) ?_
      exact st1 α3 ((o3 0 (by omega)).trans hα)
  refine y_cg (α' := fun _ => h0) (ε' := eMain ca (fun α => [.null, .null, .null, .null, .null]) (fun _ => h0)) (fun k hk => ⟨rfl, ?_⟩) (st0 _ rfl)
  obtain rfl : k = 0 := by omega
  rfl

