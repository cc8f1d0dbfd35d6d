set_option maxHeartbeats 4000000 in
set_option maxRecDepth 100000 in
/-- the loop of bitsOf: r doublings are wanting -/
theorem bitsOf_loop {Γ : zG} {ω : zO} {own : String} {fr lo : Nat} {post : Option Value → zM → Prop} {μ : zM} (hown : own = RX1) (hC : zC Γ ω own cX1_bitsOf 4 fr lo (some .int) post) {x : UInt32} {s : Bool} {C : Nat} {Q : Int} (hx : Jvm.FP.Core.val32 x = .fin s C Q) (hc : 8388608 ≤ C ∧ C < 16777216) (hQ : -36 ≤ Q ∧ Q ≤ 0) (hp : post (some (.int x.toInt32)) μ) : ∀ (r : Nat) (y : UInt32) (e : Int), e = 150 + Q + (r : Int) → Jvm.FP.Core.val32 y = .fin false C (-(r : Int)) → (r : Int) ≤ -Q → Z Γ ω μ 30 [(3, .int (iZ e)), (2, .float y), (1, .int (iZ (if s then -2147483648 else 0)))] [] := by
  subst hown
  intro r
  induction r with
  | zero =>
    intro y e he hy hr
    refine z_iload_n hC dX1_bitsOf_30 rfl ?_
    refine z_if_le hC 64 dX1_bitsOf_31 (by decide) (by omega) (fun c_1 => ?_) (fun c_1 => ?_)
    · exfalso; omega
    refine z_fload_n hC dX1_bitsOf_34 rfl ?_
    refine z_ldcf hC qc_X1_40 dX1_bitsOf_35 ?_
    refine z_fcmp hC (if C = 8388608 then 0 else 1) dX1_bitsOf_37 (fl_ge8 hy hc.1) (by split <;> rfl) ?_
    refine z_if_lt hC 54 dX1_bitsOf_38 (by decide) (by split <;> omega) (fun c_2 => ?_) (fun c_2 => ?_)
    · exfalso; split at c_2 <;> omega
    refine z_iload_n hC dX1_bitsOf_41 rfl ?_
    refine z_iload_n hC dX1_bitsOf_42 rfl ?_
    refine z_bipush hC dX1_bitsOf_43 (by decide) ?_
    refine z_ishl hC dX1_bitsOf_45 ?_
    refine z_ior hC dX1_bitsOf_46 ?_
    refine z_fload_n hC dX1_bitsOf_47 rfl ?_
    refine z_f2i hC dX1_bitsOf_48 (fl_int hy hc.2) ?_
    refine z_ldc hC (8388607) qc_X1_41 rfl dX1_bitsOf_49 ?_
    refine z_iand hC dX1_bitsOf_51 ?_
    refine z_ior hC dX1_bitsOf_52 ?_
    have e9 : (iZ (if s then -2147483648 else 0) ||| (iZ e <<< (iZ 23 &&& 31))) ||| (iZ (C : Int) &&& iZ 8388607) = x.toInt32 := by
      have := fl_fin (fl_bits hx hc hQ) (by omega) (by omega)
      rw [show (((150 + Q).toNat : Nat) : Int) = e by omega, show 8388608 + (C - 8388608) = C by omega] at this
      exact this
    rw [e9]
    exact z_iret hC dX1_bitsOf_53 hp
  | succ r ih =>
    intro y e he hy hr
    refine z_iload_n hC dX1_bitsOf_30 rfl ?_
    refine z_if_le hC 64 dX1_bitsOf_31 (by decide) (by omega) (fun c_1 => ?_) (fun c_1 => ?_)
    · exfalso; omega
    refine z_fload_n hC dX1_bitsOf_34 rfl ?_
    refine z_ldcf hC qc_X1_40 dX1_bitsOf_35 ?_
    refine z_fcmp hC (-1) dX1_bitsOf_37 (fl_lt8 hy hc.2) rfl ?_
    refine z_if_lt hC 54 dX1_bitsOf_38 (by decide) (by omega) (fun c_2 => ?_) (fun c_2 => ?_)
    rotate_left
    · exfalso; omega
    have hd := fl_dbl hy hc (by omega)
    rw [show -((r + 1 : Nat) : Int) + 1 = -(r : Int) by omega] at hd
    refine z_fload_n hC dX1_bitsOf_54 rfl ?_
    refine z_fconst2 hC dX1_bitsOf_55 ?_
    refine z_fmul hC dX1_bitsOf_56 (fl_n hd) ?_
    refine z_fstore_n hC dX1_bitsOf_57 (by decide) rfl ?_
    refine z_iinc hC dX1_bitsOf_58 rfl (by decide) rfl ?_
    refine z_goto hC 30 dX1_bitsOf_61 (by decide) ?_
    refine z_weak (L' := [(3, .int (iZ (e + -1))), (2, .float (Jvm.FP.fmul y Jvm.FP.fconst2)), (1, .int (iZ (if s then -2147483648 else 0)))]) ⟨rfl, rfl, rfl, trivial⟩ ?_
    exact ih _ _ (by omega) hd (by omega)

set_option maxHeartbeats 4000000 in
set_option maxRecDepth 100000 in
/-- the loop of bitsOf over 0 -/
theorem bitsOf_zero {Γ : zG} {ω : zO} {own : String} {fr lo : Nat} {post : Option Value → zM → Prop} {μ : zM} (hown : own = RX1) (hC : zC Γ ω own cX1_bitsOf 4 fr lo (some .int) post) (hp : post (some (.int (iZ 0))) μ) : ∀ (r : Nat), r ≤ 150 → Z Γ ω μ 30 [(3, .int (iZ (r : Int))), (2, .float Jvm.FP.fconst0)] [] := by
  subst hown
  intro r
  induction r with
  | zero =>
    intro hr
    refine z_iload_n hC dX1_bitsOf_30 rfl ?_
    refine z_if_le hC 64 dX1_bitsOf_31 (by decide) (by omega) (fun c_1 => ?_) (fun c_1 => ?_)
    rotate_left
    · exfalso; omega
    refine z_iconst hC dX1_bitsOf_64 ?_
    exact z_iret hC dX1_bitsOf_65 hp
  | succ r ih =>
    intro hr
    refine z_iload_n hC dX1_bitsOf_30 rfl ?_
    refine z_if_le hC 64 dX1_bitsOf_31 (by decide) (by omega) (fun c_1 => ?_) (fun c_1 => ?_)
    · exfalso; omega
    refine z_fload_n hC dX1_bitsOf_34 rfl ?_
    refine z_ldcf hC qc_X1_40 dX1_bitsOf_35 ?_
    refine z_fcmp hC (-1) dX1_bitsOf_37 (show Jvm.FP.fcmp Jvm.FP.fconst0 1258291200 = some .lt by decide +kernel) rfl ?_
    refine z_if_lt hC 54 dX1_bitsOf_38 (by decide) (by omega) (fun c_2 => ?_) (fun c_2 => ?_)
    rotate_left
    · exfalso; omega
    refine z_fload_n hC dX1_bitsOf_54 rfl ?_
    refine z_fconst2 hC dX1_bitsOf_55 ?_
    refine z_fmul hC dX1_bitsOf_56 (by rw [fl_dblz]; exact fl_n fl_zero) ?_
    rw [fl_dblz]
    refine z_fstore_n hC dX1_bitsOf_57 (by decide) rfl ?_
    refine z_iinc hC dX1_bitsOf_58 rfl (by decide) rfl ?_
    refine z_goto hC 30 dX1_bitsOf_61 (by decide) ?_
    refine z_weak (L' := [(3, .int (iZ (((r + 1 : Nat) : Int) + -1))), (2, .float Jvm.FP.fconst0)]) ⟨rfl, rfl, trivial⟩ ?_
    rw [show ((r + 1 : Nat) : Int) + -1 = (r : Int) by omega]
    exact ih (by omega)

set_option maxHeartbeats 4000000 in
set_option maxRecDepth 100000 in
/-- bitsOf -/
theorem m_X1_bitsOf (l : Launch) (ω : zO) (A : Nat → Prop) (μ : zM) (x : UInt32) (hx : flOk x) : zMet l ω A yX1_bitsOf cX1_bitsOf 4 (some .int) 0 0 [.float x] μ (zpI (.int x.toInt32) (fun m => m = μ)) := by
  refine zMet_of (by decide) (Nat.le_of_ble_eq_true rfl) (fun Γ hC => ?_)
  show Z Γ _ μ 0 [(0, .float x)] []
  rcases hx with h1 | ⟨s, C, Q, h1, h2, h3⟩
  · subst h1
    refine z_fload_n hC dX1_bitsOf_0 rfl ?_
    refine z_fconst0 hC dX1_bitsOf_1 ?_
    refine z_fcmp hC (0) dX1_bitsOf_2 (show Jvm.FP.fcmp Jvm.FP.fconst0 Jvm.FP.fconst0 = some .eq by decide +kernel) rfl ?_
    refine z_if_ge hC 11 dX1_bitsOf_3 (by decide) (by omega) (fun c_1 => ?_) (fun c_1 => ?_)
    rotate_left
    · exfalso; omega
    refine z_iconst hC dX1_bitsOf_11 ?_
    refine z_istore_n hC dX1_bitsOf_12 (by decide) rfl ?_
    refine z_fload_n hC dX1_bitsOf_13 rfl ?_
    refine z_fconst0 hC dX1_bitsOf_14 ?_
    refine z_fcmp hC (0) dX1_bitsOf_15 (show Jvm.FP.fcmp Jvm.FP.fconst0 Jvm.FP.fconst0 = some .eq by decide +kernel) rfl ?_
    refine z_if_ge hC 24 dX1_bitsOf_16 (by decide) (by omega) (fun c_2 => ?_) (fun c_2 => ?_)
    rotate_left
    · exfalso; omega
    refine z_fload_n hC dX1_bitsOf_24 rfl ?_
    refine z_fstore_n hC dX1_bitsOf_25 (by decide) rfl ?_
    refine z_sipush hC dX1_bitsOf_26 (by decide) ?_
    refine z_istore_n hC dX1_bitsOf_29 (by decide) rfl ?_
    refine z_weak (L' := [(3, .int (iZ ((150 : Nat) : Int))), (2, .float Jvm.FP.fconst0)]) ⟨rfl, rfl, trivial⟩ ?_
    exact bitsOf_zero rfl hC ⟨rfl, rfl⟩ 150 (Nat.le_refl _)
  · cases s with
    | false =>
      refine z_fload_n hC dX1_bitsOf_0 rfl ?_
      refine z_fconst0 hC dX1_bitsOf_1 ?_
      refine z_fcmp hC (1) dX1_bitsOf_2 (fl_sign h1 (by omega)) rfl ?_
      refine z_if_ge hC 11 dX1_bitsOf_3 (by decide) (by omega) (fun c_1 => ?_) (fun c_1 => ?_)
      rotate_left
      · exfalso; omega
      refine z_iconst hC dX1_bitsOf_11 ?_
      refine z_istore_n hC dX1_bitsOf_12 (by decide) rfl ?_
      refine z_fload_n hC dX1_bitsOf_13 rfl ?_
      refine z_fconst0 hC dX1_bitsOf_14 ?_
      refine z_fcmp hC (1) dX1_bitsOf_15 (fl_sign h1 (by omega)) rfl ?_
      refine z_if_ge hC 24 dX1_bitsOf_16 (by decide) (by omega) (fun c_2 => ?_) (fun c_2 => ?_)
      rotate_left
      · exfalso; omega
      refine z_fload_n hC dX1_bitsOf_24 rfl ?_
      refine z_fstore_n hC dX1_bitsOf_25 (by decide) rfl ?_
      refine z_sipush hC dX1_bitsOf_26 (by decide) ?_
      refine z_istore_n hC dX1_bitsOf_29 (by decide) rfl ?_
      refine z_weak (L' := [(3, .int (iZ 150)), (2, .float x), (1, .int (iZ (if false then -2147483648 else 0)))]) ⟨rfl, rfl, rfl, trivial⟩ ?_
      exact bitsOf_loop rfl hC h1 h2 h3 ⟨rfl, rfl⟩ (-Q).toNat x 150 (by omega) (by rw [h1, show -(((-Q).toNat : Nat) : Int) = Q by omega]) (by omega)
    | true =>
      refine z_fload_n hC dX1_bitsOf_0 rfl ?_
      refine z_fconst0 hC dX1_bitsOf_1 ?_
      refine z_fcmp hC (-1) dX1_bitsOf_2 (fl_sign h1 (by omega)) rfl ?_
      refine z_if_ge hC 11 dX1_bitsOf_3 (by decide) (by omega) (fun c_1 => ?_) (fun c_1 => ?_)
      · exfalso; omega
      refine z_ldc hC (-2147483648) qc_X1_39 rfl dX1_bitsOf_6 ?_
      refine z_goto hC 12 dX1_bitsOf_8 (by decide) ?_
      refine z_istore_n hC dX1_bitsOf_12 (by decide) rfl ?_
      refine z_fload_n hC dX1_bitsOf_13 rfl ?_
      refine z_fconst0 hC dX1_bitsOf_14 ?_
      refine z_fcmp hC (-1) dX1_bitsOf_15 (fl_sign h1 (by omega)) rfl ?_
      refine z_if_ge hC 24 dX1_bitsOf_16 (by decide) (by omega) (fun c_2 => ?_) (fun c_2 => ?_)
      · exfalso; omega
      refine z_fload_n hC dX1_bitsOf_19 rfl ?_
      refine z_fneg hC dX1_bitsOf_20 ?_
      refine z_goto hC 25 dX1_bitsOf_21 (by decide) ?_
      refine z_fstore_n hC dX1_bitsOf_25 (by decide) rfl ?_
      refine z_sipush hC dX1_bitsOf_26 (by decide) ?_
      refine z_istore_n hC dX1_bitsOf_29 (by decide) rfl ?_
      refine z_weak (L' := [(3, .int (iZ 150)), (2, .float (Jvm.FP.fneg x)), (1, .int (iZ (if true then -2147483648 else 0)))]) ⟨rfl, rfl, rfl, trivial⟩ ?_
      have h4 := fl_neg h1 h2 h3
      exact bitsOf_loop rfl hC h1 h2 h3 ⟨rfl, rfl⟩ (-Q).toNat _ 150 (by omega) (by rw [h4, show -(((-Q).toNat : Nat) : Int) = Q by omega]) (by omega)

set_option maxHeartbeats 4000000 in
set_option maxRecDepth 100000 in
/-- bitsOfEarningsByTheDay -/
theorem m_X1_bitsOfE (l : Launch) (G : va_G) (ca : Nat → ClassId) (ad : Int → Nat) (A : Nat → Prop) (μ : zM) (b : Int) (hb : zb b) (e f : Int) (he : μ (b + 5) 5 = e) (hf : μ (b + 5) 4 = f) (hr : -300000 ≤ e ∧ e ≤ 300000) (hf4 : 4 ≤ f ∧ f ≤ 2300) : zMet l (cω G ca ad) A yX1_bitsOfEarningsByTheDay cX1_bitsOfEarningsByTheDay 1 (some .int) 1 23 [.ref (ad (b + 5))] μ (zpI (.int (Jvm.FP.fdiv (Jvm.FP.i2f (iZ e)) (Jvm.FP.i2f (iZ f))).toInt32) (fun m => m = μ)) := by
  refine zMet_of (by decide) (Nat.le_of_ble_eq_true rfl) (fun Γ hC => ?_)
  show Z Γ _ μ 0 [(0, .ref (ad (b + 5)))] []
  have h9 := fl_q hr hf4
  refine z_aload_n hC dX1_bitsOfEarningsByTheDay_0 rfl ?_
  refine z_get hC iA_X1 rfl 4 (by decide) qF_X1_29 rfl dX1_bitsOfEarningsByTheDay_1 (cl_course hb) (cd_course hb) rfl ?_
  refine z_top (b := f) (by rw [hf]) ?_
  refine z_iconst hC dX1_bitsOfEarningsByTheDay_4 ?_
  refine z_icmp_ge hC 12 dX1_bitsOfEarningsByTheDay_5 (by decide) (by omega) (by omega) (fun c_1 => ?_) (fun c_1 => ?_)
  · refine z_aload_n hC dX1_bitsOfEarningsByTheDay_12 rfl ?_
    refine z_get hC iA_X1 rfl 5 (by decide) qF_X1_32 rfl dX1_bitsOfEarningsByTheDay_13 (cl_course hb) (cd_course hb) rfl ?_
    refine z_top (b := e) (by rw [he]) ?_
    refine z_i2f hC dX1_bitsOfEarningsByTheDay_16 ?_
    refine z_aload_n hC dX1_bitsOfEarningsByTheDay_17 rfl ?_
    refine z_get hC iA_X1 rfl 4 (by decide) qF_X1_29 rfl dX1_bitsOfEarningsByTheDay_18 (cl_course hb) (cd_course hb) rfl ?_
    refine z_top (b := f) (by rw [hf]) ?_
    refine z_i2f hC dX1_bitsOfEarningsByTheDay_21 ?_
    refine z_fdiv hC dX1_bitsOfEarningsByTheDay_22 (flOk_n h9) ?_
    refine z_callS hC [.float (Jvm.FP.fdiv (Jvm.FP.i2f (iZ e)) (Jvm.FP.i2f (iZ f)))] 1 rfl dX1_bitsOfEarningsByTheDay_23 (fun l => m_X1_bitsOf l _ _ _ _ h9) qM_X1_35 qT_X1_bitsOf qi_X1 qC_X1_bitsOf (by decide +kernel) (by decide) (by decide) (Nat.le_of_ble_eq_true rfl) (zk_pure ?_) rfl
    exact z_iret hC dX1_bitsOfEarningsByTheDay_26 ⟨rfl, rfl⟩
  · exfalso; omega

def qVoy (d : zM) (k c w : Int) : Int32 := if ¬ ((0 ≤ k ∧ k < d 0 4) ∧ (0 ≤ c ∧ c < d 0 5)) then iZ (-1000001) else if w = 0 then iZ (sCould d k c) else if w = 1 then iZ (sLoad d k c (sEnd d k).1 (sEnd d k).2.1) else if w = 2 then iZ (sFree d k c (sEnd d k).1 (sEnd d k).2.1 - (sEnd d k).2.1) else if w = 3 then iZ (sEarn d k c (sEnd d k).1 (sEnd d k).2.1 + 1000000) else if w = 4 then (Jvm.FP.fdiv (Jvm.FP.i2f (iZ (sEarn d k c (sEnd d k).1 (sEnd d k).2.1))) (Jvm.FP.i2f (iZ (sFree d k c (sEnd d k).1 (sEnd d k).2.1 - (sEnd d k).2.1)))).toInt32 else iZ (-1000001)
/-- the days of a voyage, and what it earns -/
theorem sVoy_b {d : zM} {k c : Int} (H : zInv d) (hk : 0 ≤ k ∧ k < d 0 4) (hc : 0 ≤ c ∧ c < d 0 5) : (-300000 ≤ sEarn d k c (sEnd d k).1 (sEnd d k).2.1 ∧ sEarn d k c (sEnd d k).1 (sEnd d k).2.1 ≤ 300000) ∧ (4 ≤ sFree d k c (sEnd d k).1 (sEnd d k).2.1 - (sEnd d k).2.1 ∧ sFree d k c (sEnd d k).1 (sEnd d k).2.1 - (sEnd d k).2.1 ≤ 2300) := by
  have h1 := sEa_b H.1 hk hc (zInv_G H k hk)
  unfold sEa at h1
  have hg := (zInv_G H k hk).2 _ (Nat.le_refl _)
  have hs := H.1.2.2.1 k hk
  have hcc := H.1.2.2.2 c hc
  have e1 := sArr_b (t := (sEnd d k).2.1) H.1.2.1 hs.2.1 hcc hg.1
  have e2 := sLoad_b (t := (sEnd d k).2.1) H.1.2.1 hs.2.1 hcc hg.1
  have e3 := sFree_b (t := (sEnd d k).2.1) H.1.2.1 hs.2.1 hcc hg.1
  have h2 : 0 ≤ (sEnd d k).2.1 ∧ (sEnd d k).2.1 ≤ 2000 := hg.2
  change _ ≤ sArr d k c (sEnd d k).1 _ ∧ sArr d k c (sEnd d k).1 _ ≤ _ at e1
  change sArr d k c (sEnd d k).1 _ ≤ sLoad d k c (sEnd d k).1 _ ∧ (sLoad d k c (sEnd d k).1 _ ≤ 999 ∨ sLoad d k c (sEnd d k).1 _ = sArr d k c (sEnd d k).1 _) at e2
  change sLoad d k c (sEnd d k).1 _ + 4 ≤ sFree d k c (sEnd d k).1 _ ∧ sFree d k c (sEnd d k).1 _ ≤ sLoad d k c (sEnd d k).1 _ + 87 at e3
  constructor
  · omega
  · omega

set_option maxHeartbeats 4000000 in
/-- a contract out of a walk, for a class that has rows in the table of natives but none for this method -/
theorem met_ofF {l : Launch} {y : MethodName} {ws ws' : List Cond} {rm : Room} {Pc : Array Value → State → Prop} {Qc : Array Value → State → Outcome → State → Prop} {mc ms : Nat} {free : Addr → Prop} {cc : ByteArray} {maxL : Nat} {ret : Option FieldType}
    (hy : plainFor y = true) (hw : ws = Cond.code y cc maxL ret :: ws')
    (body : ∀ p e s m args below meth c s₁, BodyLoose p l y (headSpec ws rm) cc maxL ret e s m args below meth c s₁ → c.maxLocals = maxL → Pc args s →
      W p l e (headSpec ws rm).room s m args below meth c s.heap [] 0 0 (MQ below Qc args s mc ms free) (entryFrame m args maxL)) : Met l y ws rm Pc Qc mc ms free := by
  refine MetFree.of_bodySF (code := cc) (maxLocals := maxL) (ret := ret) hy ?_ ?_
  · intro args s m h hn
    obtain ⟨meth, c, h1, h2, h3, h4, h5, h6, -, -⟩ := Cond.code_spec hn (atoms_spec (ws := ws) h _ (by rw [hw]; exact List.mem_cons_self))
    exact ⟨meth, c, h1, h2, h3, h4, h5, h6⟩
  · intro p e s m args below meth c s₁ B hml hP _
    have hh0 : s₁.heap = s.heap := by rw [B.state]; rfl
    obtain ⟨t, a1, o, b1, b2, b3⟩ := body p e s m args below meth c s₁ B hml hP s₁ hh0 (Stand.of_body B)
    exact ⟨t, o, a1, b1, b2, ⟨b3.1, b3.2⟩⟩
theorem zMet_ofF {l : Launch} {ω : zO} {A : Nat → Prop} {y : MethodName} {cc : ByteArray} {nL : Nat} {rt : Option FieldType} {fr lo : Nat} {vs : List Value} {μ : zM} {post : Option Value → zM → Prop} (hy : plainFor y = true) (hn : (lg_sl vs).length ≤ nL)
    (body : ∀ Γ : zG, zC Γ ω y.cls cc nL fr lo rt post → Z Γ ω μ 0 (lv_args 0 vs) []) : zMet l ω A y cc nL rt fr lo vs μ post := by
  refine met_ofF (cc := cc) (maxL := nL) (ret := rt) hy rfl ?_
  intro p e s m args below meth c s₁ B hml hv
  obtain ⟨rfl, hK, hH⟩ := hv
  have hts := atoms_spec (ws := .code y cc nL rt :: AL) B.pre
  have hl := lv_entry vs hn
  rw [lg_entry_eq]
  exact body (fun H locs pc ls st => W p l e _ s m vs.toArray below meth c H locs 0 0 (MQ below (zQ ω A post) vs.toArray s 0 0 A) (F0 m pc ls st), s.heap, A, nL)
    ⟨p, l, e, _, s, m, vs.toArray, below, meth, c, rfl, rfl, rfl, B.exec, B.bytes, hml, findClass_of_methodNamed B.named, fun w h => hts w (List.mem_cons_of_mem _ h), hK, B.returns, B.notSynchronized, Nat.le_refl _, Nat.le_refl _⟩
    s.heap [] _ hH va_S.rf (zL.of hl)

set_option maxHeartbeats 4000000 in
set_option maxRecDepth 100000 in
/-- Float.isNaN -/
theorem m_isNaN (l : Launch) (ω : zO) (A : Nat → Prop) (μ : zM) (x : UInt32) (hx : flOk x) : zMet l ω A yJxf58ca_isNaN_12338 cJxf58ca_isNaN_12338 1 (some .boolean) 0 0 [.float x] μ (zpI (.int (iZ 0)) (fun m => m = μ)) := by
  refine zMet_ofF (by decide +kernel) (Nat.le_of_ble_eq_true rfl) (fun Γ hC => ?_)
  show Z Γ _ μ 0 [(0, .float x)] []
  have hn : Jvm.FP.Core.val32 x ≠ .nan := by
    rcases hx with h | ⟨s, C, Q, h, _⟩
    · rw [h, fl_zero]; exact fun z => by cases z
    · rw [h]; exact fun z => by cases z
  refine z_fload_n hC dJxf58ca_isNaN_12338_0 rfl ?_
  refine z_fload_n hC dJxf58ca_isNaN_12338_1 rfl ?_
  refine z_fcmp hC 0 dJxf58ca_isNaN_12338_2 (Jvm.FP.Core.fcmp_refl ((Jvm.FP.Core.notNaN_iff32 x).mpr hn)) rfl ?_
  refine z_if_eq hC 10 dJxf58ca_isNaN_12338_3 (by decide) (by omega) (fun c_1 => ?_) (fun c_1 => ?_)
  rotate_left
  · exfalso; omega
  refine z_iconst hC dJxf58ca_isNaN_12338_10 ?_
  exact z_zret0 hC dJxf58ca_isNaN_12338_11 ⟨rfl, rfl⟩

set_option maxHeartbeats 4000000 in
set_option maxRecDepth 100000 in
/-- Float.floatToIntBits -/
theorem m_fib (l : Launch) (ω : zO) (A : Nat → Prop) (μ : zM) (x : UInt32) (hx : flOk x) : zMet l ω A yJxf58ca_floatToIntBits_5c35a cJxf58ca_floatToIntBits_5c35a 1 (some .int) 1 20 [.float x] μ (zpI (.int x.toInt32) (fun m => m = μ)) := by
  refine zMet_ofF (by decide +kernel) (Nat.le_of_ble_eq_true rfl) (fun Γ hC => ?_)
  show Z Γ _ μ 0 [(0, .float x)] []
  refine z_fload_n hC dJxf58ca_floatToIntBits_5c35a_0 rfl ?_
  refine z_callS hC [.float x] 1 rfl dJxf58ca_floatToIntBits_5c35a_1 (fun l => m_isNaN l _ _ _ x hx) qM_Jxf58ca_59 qT_Jxf58ca_isNaN_12338 qi_Jxf58ca qC_Jxf58ca_isNaN_12338 (by decide +kernel) (by decide) (by decide) (Nat.le_of_ble_eq_true rfl) (zk_pure ?_) rfl
  refine z_if_ne hC 12 dJxf58ca_floatToIntBits_5c35a_4 (by decide) (by omega) (fun c_1 => ?_) (fun c_1 => ?_)
  · exfalso; omega
  refine z_fload_n hC dJxf58ca_floatToIntBits_5c35a_7 rfl ?_
  refine z_raw hC qM_Jxf58ca_74 dJxf58ca_floatToIntBits_5c35a_8 (by decide) (by decide) ?_
  exact z_iret hC dJxf58ca_floatToIntBits_5c35a_11 ⟨rfl, rfl⟩

set_option maxHeartbeats 4000000 in
set_option maxRecDepth 100000 in
/-- voyage(k, c, w) -/
theorem m_X7_voyage (l : Launch) (G : va_G) (ca : Nat → ClassId) (ad : Int → Nat) (A : Nat → Prop) (μ : zM) (d : zM) (n : Int) (h : Int → zM) (L : Int) (t : Int → Int) (hX : zSt μ d n h L t) (hI : zInv d) (k c w : Int) (hk : -2147483648 ≤ k ∧ k ≤ 2147483647) (hc : -2147483648 ≤ c ∧ c ≤ 2147483647) (hw : -2147483648 ≤ w ∧ w ≤ 2147483647) : zMet l (cω G ca ad) A yX7_voyage cX7_voyage 6 (some .int) 4 112 [.ref (ad 156), .int (iZ k), .int (iZ c), .int (iZ w)] μ (zpI (.int (qVoy d k c w)) (fun μ' => zSt μ' d n h L t)) := by
  refine zMet_of (by decide) (Nat.le_of_ble_eq_true rfl) (fun Γ hC => ?_)
  show Z Γ _ μ 0 [(0, .ref (ad 156)), (1, .int (iZ k)), (2, .int (iZ c)), (3, .int (iZ w))] []
  obtain ⟨hB, _⟩ := id hI
  obtain ⟨hN, hP, hB3, hB4⟩ := id hB
  obtain ⟨hN1, hN2⟩ := id hN
  have hG := zInv_G hI
  refine z_aload_n hC dX7_voyage_0 rfl ?_
  refine z_get hC iA_X7 rfl 0 (by decide) qF_X7_10 rfl dX7_voyage_1 cl_main (cd_main (ca := ca) (ad := ad)) rfl ?_
  refine z_iload_n hC dX7_voyage_4 rfl ?_
  have hN1 : μ 0 4 = d 0 4 := by rw [← hX.1, vw_S]
  refine z_callV hC [.int (iZ k)] 1 rfl dX7_voyage_5 (fun l => m_X2_isShip l G ca ad _ μ 0 zb_0 k (by omega) (by omega)) qM_X7_73 qI_X2_isShip qS_X2_isShip qi_X2 qC_X2_isShip (by decide +kernel) (by decide) (by decide) (cl_desk zb_0) (cd_desk (ca := ca) (ad := ad) zb_0) rfl (Nat.le_of_ble_eq_true rfl) (zk_pure ?_) rfl
  rw [hN1]
  refine z_ifb_eq hC 22 dX7_voyage_8 (by decide) (fun c_2 => ?_) (fun c_2 => ?_)
  · refine z_ldc hC (-1000001) qc_X7_77 rfl dX7_voyage_22 ?_
    exact z_iret hC dX7_voyage_24 ⟨by unfold qVoy; rw [if_pos (by omega)], hX⟩
  · refine z_aload_n hC dX7_voyage_11 rfl ?_
    refine z_get hC iA_X7 rfl 0 (by decide) qF_X7_10 rfl dX7_voyage_12 cl_main (cd_main (ca := ca) (ad := ad)) rfl ?_
    refine z_iload_n hC dX7_voyage_15 rfl ?_
    have hN3 : μ 0 5 = d 0 5 := by rw [← hX.1, vw_Cn]
    refine z_callV hC [.int (iZ c)] 1 rfl dX7_voyage_16 (fun l => m_X2_isCargo l G ca ad _ μ 0 zb_0 c (by omega) (by omega)) qM_X7_122 qI_X2_isCargo qS_X2_isCargo qi_X2 qC_X2_isCargo (by decide +kernel) (by decide) (by decide) (cl_desk zb_0) (cd_desk (ca := ca) (ad := ad) zb_0) rfl (Nat.le_of_ble_eq_true rfl) (zk_pure ?_) rfl
    rw [hN3]
    refine z_ifb_ne hC 25 dX7_voyage_19 (by decide) (fun c_4 => ?_) (fun c_4 => ?_)
    · refine z_aload_n hC dX7_voyage_25 rfl ?_
      refine z_get hC iA_X7 rfl 0 (by decide) qF_X7_10 rfl dX7_voyage_26 cl_main (cd_main (ca := ca) (ad := ad)) rfl ?_
      refine z_iload_n hC dX7_voyage_29 rfl ?_
      refine z_iload_n hC dX7_voyage_30 rfl ?_
      refine z_callV hC [.int (iZ k), .int (iZ c)] 2 rfl dX7_voyage_31 (fun l => m_X2_hindrance l G ca ad _ μ 0 zb_0 d hX.1 k c hB (by omega) (by omega) (hG _ (by omega))) qM_X7_186 qI_X2_hindrance qS_X2_hindrance qi_X2 qC_X2_hindrance (by decide +kernel) (by decide) (by decide) (cl_desk zb_0) (cd_desk (ca := ca) (ad := ad) zb_0) rfl (Nat.le_of_ble_eq_true rfl) (zk_int (fun μ5 hμ5 => ?_)) rfl
      obtain ⟨hμ5f, hμ50, hμ51, hμ52, hμ53, hμ54, hμ55, hμ56, hμ57⟩ := id hμ5
      have hd6 : vw μ5 0 = d := by rw [vw_fr5 hμ5f]; exact hX.1
      refine z_istore hC dX7_voyage_34 (by decide) rfl ?_
      refine z_aload_n hC dX7_voyage_36 rfl ?_
      refine z_get hC iA_X7 rfl 0 (by decide) qF_X7_10 rfl dX7_voyage_37 cl_main (cd_main (ca := ca) (ad := ad)) rfl ?_
      refine z_get hC iA_X2 rfl 8 (by decide) qF_X7_189 rfl dX7_voyage_40 (cl_desk zb_0) (cd_desk (ca := ca) (ad := ad) zb_0) rfl ?_
      refine z_astore hC dX7_voyage_43 (by decide) rfl ?_
      refine z_iload_n hC dX7_voyage_45 rfl ?_
      rcases (show w = 0 ∨ w = 1 ∨ w = 2 ∨ w = 3 ∨ w = 4 ∨ (w < 0 ∨ 4 < w) by omega) with w_7 | w_7 | w_7 | w_7 | w_7 | w_7
      · refine z_tableIn hC 80 dX7_voyage_46 (by omega) (by omega) (by omega) (by rw [w_7]; rfl) (by decide) ?_
        refine z_iload hC dX7_voyage_80 rfl ?_
        exact z_iret hC dX7_voyage_82 ⟨by unfold qVoy; rw [if_neg (by omega), if_pos (by omega)], zSt_5 hX hμ5f⟩
      · refine z_tableIn hC 83 dX7_voyage_46 (by omega) (by omega) (by omega) (by rw [w_7]; rfl) (by decide) ?_
        refine z_aload hC dX7_voyage_83 rfl ?_
        refine z_get hC iA_X1 rfl 3 (by decide) qF_X7_171 rfl dX7_voyage_85 (cl_course zb_0) (cd_course (ca := ca) (ad := ad) zb_0) rfl ?_
        refine z_top (b := sLoad d k c (sEnd d k).1 (sEnd d k).2.1) (by rw [hμ53]) ?_
        exact z_iret hC dX7_voyage_88 ⟨by unfold qVoy; rw [if_neg (by omega), if_neg (by omega), if_pos (by omega)], zSt_5 hX hμ5f⟩
      · refine z_tableIn hC 89 dX7_voyage_46 (by omega) (by omega) (by omega) (by rw [w_7]; rfl) (by decide) ?_
        refine z_aload hC dX7_voyage_89 rfl ?_
        refine z_get hC iA_X1 rfl 4 (by decide) qF_X7_193 rfl dX7_voyage_91 (cl_course zb_0) (cd_course (ca := ca) (ad := ad) zb_0) rfl ?_
        refine z_top (b := sFree d k c (sEnd d k).1 (sEnd d k).2.1 - (sEnd d k).2.1) (by rw [hμ54]) ?_
        exact z_iret hC dX7_voyage_94 ⟨by unfold qVoy; rw [if_neg (by omega), if_neg (by omega), if_neg (by omega), if_pos (by omega)], zSt_5 hX hμ5f⟩
      · refine z_tableIn hC 95 dX7_voyage_46 (by omega) (by omega) (by omega) (by rw [w_7]; rfl) (by decide) ?_
        refine z_aload hC dX7_voyage_95 rfl ?_
        refine z_get hC iA_X1 rfl 5 (by decide) qF_X7_174 rfl dX7_voyage_97 (cl_course zb_0) (cd_course (ca := ca) (ad := ad) zb_0) rfl ?_
        refine z_top (b := sEarn d k c (sEnd d k).1 (sEnd d k).2.1) (by rw [hμ55]) ?_
        refine z_ldc hC (1000000) qc_X7_118 rfl dX7_voyage_100 ?_
        refine z_iadd hC dX7_voyage_102 ?_
        exact z_iret hC dX7_voyage_103 ⟨by unfold qVoy; rw [if_neg (by omega), if_neg (by omega), if_neg (by omega), if_neg (by omega), if_pos (by omega)], zSt_5 hX hμ5f⟩
      · refine z_tableIn hC 104 dX7_voyage_46 (by omega) (by omega) (by omega) (by rw [w_7]; rfl) (by decide) ?_
        refine z_aload hC dX7_voyage_104 rfl ?_
        have hv9 := sVoy_b hI (k := k) (c := c) (by omega) (by omega)
        refine z_callV hC [] 0 rfl dX7_voyage_106 (fun l => m_X1_bitsOfE l G ca ad _ μ5 0 zb_0 (sEarn d k c (sEnd d k).1 (sEnd d k).2.1) (sFree d k c (sEnd d k).1 (sEnd d k).2.1 - (sEnd d k).2.1) hμ55 hμ54 hv9.1 hv9.2) qM_X7_196 qI_X1_bitsOfEarningsByTheDay qS_X1_bitsOfEarningsByTheDay qi_X1 qC_X1_bitsOfEarningsByTheDay (by decide +kernel) (by decide) (by decide) (cl_course zb_0) (cd_course (ca := ca) (ad := ad) zb_0) rfl (Nat.le_of_ble_eq_true rfl) (zk_pure ?_) rfl
        exact z_iret hC dX7_voyage_109 ⟨by unfold qVoy; rw [if_neg (by omega), if_neg (by omega), if_neg (by omega), if_neg (by omega), if_neg (by omega), if_pos (by omega)], zSt_5 hX hμ5f⟩
      · refine z_tableOut hC 110 dX7_voyage_46 (by omega) (by omega) (by decide) ?_
        refine z_ldc hC (-1000001) qc_X7_77 rfl dX7_voyage_110 ?_
        exact z_iret hC dX7_voyage_112 ⟨by unfold qVoy; rw [if_neg (by omega), if_neg (by omega), if_neg (by omega), if_neg (by omega), if_neg (by omega), if_neg (by omega)], zSt_5 hX hμ5f⟩
    · refine z_ldc hC (-1000001) qc_X7_77 rfl dX7_voyage_22 ?_
      exact z_iret hC dX7_voyage_24 ⟨by unfold qVoy; rw [if_pos (by omega)], hX⟩

set_option maxHeartbeats 4000000 in
set_option maxRecDepth 100000 in
/-- voyage(k, c, w) -/
theorem m_X8_voyage (l : Launch) (G : va_G) (ca : Nat → ClassId) (ad : Int → Nat) (A : Nat → Prop) (μ : zM) (d : zM) (n : Int) (h : Int → zM) (L : Int) (t : Int → Int) (hX : rSt μ d n h L t) (hI : zInv d) (k c w : Int) (hk : -2147483648 ≤ k ∧ k ≤ 2147483647) (hc : -2147483648 ≤ c ∧ c ≤ 2147483647) (hw : -2147483648 ≤ w ∧ w ≤ 2147483647) : zMet l (rω G ca ad) A yX8_voyage cX8_voyage 5 (some .int) 7 166 [.ref (ad 0), .int (iZ k), .int (iZ c), .int (iZ w)] μ (zpI (.int (qVoy d k c w)) (fun μ' => rSt μ' d n h L t)) := by
  refine zMet_of (by decide) (Nat.le_of_ble_eq_true rfl) (fun Γ hC => ?_)
  show Z Γ _ μ 0 [(0, .ref (ad 0)), (1, .int (iZ k)), (2, .int (iZ c)), (3, .int (iZ w))] []
  obtain ⟨hB, hf5, hf6, hIF, hIS, hII, hIL⟩ := id hI
  obtain ⟨hN, hP, hB3, hB4⟩ := id hB
  obtain ⟨hN1, hN2⟩ := id hN
  refine z_aload_n hC dX8_voyage_0 rfl ?_
  refine z_iload_n hC dX8_voyage_1 rfl ?_
  refine z_callV hC [.int (iZ k)] 1 rfl dX8_voyage_2 (fun l => m_X8_isShip l G ca ad _ μ d hX.1 k (by omega) (by omega)) qM_X8_91 qI_X8_isShip qS_X8_isShip qi_X8 qC_X8_isShip (by decide +kernel) (by decide) (by decide) rl_0 (rd_0 (ca := ca) (ad := ad)) rfl (Nat.le_of_ble_eq_true rfl) (zk_pure ?_) rfl
  refine z_ifb_eq hC 25 dX8_voyage_5 (by decide) (fun c_1 => ?_) (fun c_1 => ?_)
  · refine z_ldc hC (-1000001) qc_X8_24 rfl dX8_voyage_25 ?_
    have e9 : qVoy d k c w = iZ (-1000001) := by
      unfold qVoy
      by_cases q9 : (0 ≤ k ∧ k < d 0 4) ∧ (0 ≤ c ∧ c < d 0 5)
      · rw [if_neg (by omega), if_neg (by omega), if_neg (by omega), if_neg (by omega), if_neg (by omega), if_neg (by omega)]
      · rw [if_pos q9]
    exact z_iret hC dX8_voyage_27 ⟨by rw [e9], hX⟩
  · refine z_aload_n hC dX8_voyage_8 rfl ?_
    refine z_iload_n hC dX8_voyage_9 rfl ?_
    refine z_callV hC [.int (iZ c)] 1 rfl dX8_voyage_10 (fun l => m_X8_isCargo l G ca ad _ μ d hX.1 c (by omega) (by omega)) qM_X8_95 qI_X8_isCargo qS_X8_isCargo qi_X8 qC_X8_isCargo (by decide +kernel) (by decide) (by decide) rl_0 (rd_0 (ca := ca) (ad := ad)) rfl (Nat.le_of_ble_eq_true rfl) (zk_pure ?_) rfl
    refine z_ifb_eq hC 25 dX8_voyage_13 (by decide) (fun c_2 => ?_) (fun c_2 => ?_)
    · refine z_ldc hC (-1000001) qc_X8_24 rfl dX8_voyage_25 ?_
      have e9 : qVoy d k c w = iZ (-1000001) := by
        unfold qVoy
        by_cases q9 : (0 ≤ k ∧ k < d 0 4) ∧ (0 ≤ c ∧ c < d 0 5)
        · rw [if_neg (by omega), if_neg (by omega), if_neg (by omega), if_neg (by omega), if_neg (by omega), if_neg (by omega)]
        · rw [if_pos q9]
      exact z_iret hC dX8_voyage_27 ⟨by rw [e9], hX⟩
    · refine z_iload_n hC dX8_voyage_16 rfl ?_
      refine z_iconst hC dX8_voyage_17 ?_
      refine z_iconst hC dX8_voyage_18 ?_
      refine z_callS hC [.int (iZ w), .int (iZ 0), .int (iZ 4)] 3 rfl dX8_voyage_19 (fun l => m_X8_in l _ _ _ w 0 4 (by omega) (by omega) (by omega)) qM_X8_29 qT_X8_in qi_X8 qC_X8_in (by decide +kernel) (by decide) (by decide) (Nat.le_of_ble_eq_true rfl) (zk_pure ?_) rfl
      refine z_ifb_ne hC 28 dX8_voyage_22 (by decide) (fun c_3 => ?_) (fun c_3 => ?_)
      · have hv9 := sVoy_b hI (k := k) (c := c) (by omega) (by omega)
        have h9 := fl_q hv9.1 hv9.2
        refine z_aload_n hC dX8_voyage_28 rfl ?_
        refine z_iconst hC dX8_voyage_29 ?_
        refine z_iload_n hC dX8_voyage_30 rfl ?_
        refine z_iload_n hC dX8_voyage_31 rfl ?_
        refine z_callV hC [.int (iZ 0), .int (iZ k), .int (iZ c)] 3 rfl dX8_voyage_32 (fun l => m_X8_could l G ca ad _ μ d hX.1 0 (by omega) d hX.1 (fun _ => ⟨rfl, rfl⟩) hP k c hB (by omega) (by omega) (fOk_of hI (by omega)) (late_of hI (by omega))) qM_X8_98 qI_X8_could qS_X8_could qi_X8 qC_X8_could (by decide +kernel) (by decide) (by decide) rl_0 (rd_0 (ca := ca) (ad := ad)) rfl (Nat.le_of_ble_eq_true rfl) (zk_int (fun μ4 hμ4 => ?_)) rfl
        obtain ⟨hμ4f, ⟨hμ48, hμ49, hμ4a, hμ4b⟩, hμ413⟩ := id hμ4
        have hd5 : rv μ4 0 = d := by rw [rv_fr hμ4f]; exact hX.1
        refine z_istore hC dX8_voyage_35 (by decide) rfl ?_
        refine z_iload_n hC dX8_voyage_37 rfl ?_
        rcases (show w = 0 ∨ w = 1 ∨ w = 2 ∨ w = 3 ∨ (w < 0 ∨ 3 < w) by omega) with w_6 | w_6 | w_6 | w_6 | w_6
        · refine z_tableIn hC 68 dX8_voyage_38 (by omega) (by omega) (by omega) (by rw [w_6]; rfl) (by decide) ?_
          refine z_iload hC dX8_voyage_68 rfl ?_
          exact z_iret hC dX8_voyage_70 ⟨by unfold qVoy; rw [if_neg (by omega), if_pos (by omega)], rSt_go hX hμ4f⟩
        · refine z_tableIn hC 71 dX8_voyage_38 (by omega) (by omega) (by omega) (by rw [w_6]; rfl) (by decide) ?_
          refine z_aload_n hC dX8_voyage_71 rfl ?_
          refine z_get hC iA_X8 rfl 9 (by decide) qF_X8_54 rfl dX8_voyage_72 rl_0 (rd_0 (ca := ca) (ad := ad)) rfl ?_
          refine z_top (b := sLoad d k c (sEnd d k).1 (sEnd d k).2.1) (by rw [hμ49]) ?_
          exact z_iret hC dX8_voyage_75 ⟨by unfold qVoy; rw [if_neg (by omega), if_neg (by omega), if_pos (by omega)], rSt_go hX hμ4f⟩
        · refine z_tableIn hC 76 dX8_voyage_38 (by omega) (by omega) (by omega) (by rw [w_6]; rfl) (by decide) ?_
          refine z_aload_n hC dX8_voyage_76 rfl ?_
          refine z_get hC iA_X8 rfl 10 (by decide) qF_X8_57 rfl dX8_voyage_77 rl_0 (rd_0 (ca := ca) (ad := ad)) rfl ?_
          refine z_top (b := sFree d k c (sEnd d k).1 (sEnd d k).2.1) (by rw [hμ4a]) ?_
          refine z_aload_n hC dX8_voyage_80 rfl ?_
          refine z_get hC iA_X8 rfl 13 (by decide) qF_X8_66 rfl dX8_voyage_81 rl_0 (rd_0 (ca := ca) (ad := ad)) rfl ?_
          refine z_top (b := (sEnd d k).2.1) (by rw [hμ413]) ?_
          refine z_isub hC dX8_voyage_84 ?_
          exact z_iret hC dX8_voyage_85 ⟨by unfold qVoy; rw [if_neg (by omega), if_neg (by omega), if_neg (by omega), if_pos (by omega)], rSt_go hX hμ4f⟩
        · refine z_tableIn hC 86 dX8_voyage_38 (by omega) (by omega) (by omega) (by rw [w_6]; rfl) (by decide) ?_
          refine z_aload_n hC dX8_voyage_86 rfl ?_
          refine z_get hC iA_X8 rfl 11 (by decide) qF_X8_60 rfl dX8_voyage_87 rl_0 (rd_0 (ca := ca) (ad := ad)) rfl ?_
          refine z_top (b := sEarn d k c (sEnd d k).1 (sEnd d k).2.1) (by rw [hμ4b]) ?_
          refine z_ldc hC (1000000) qc_X8_129 rfl dX8_voyage_90 ?_
          refine z_iadd hC dX8_voyage_92 ?_
          exact z_iret hC dX8_voyage_93 ⟨by unfold qVoy; rw [if_neg (by omega), if_neg (by omega), if_neg (by omega), if_neg (by omega), if_pos (by omega)], rSt_go hX hμ4f⟩
        · refine z_tableOut hC 94 dX8_voyage_38 (by omega) (by omega) (by decide) ?_
          refine z_aload_n hC dX8_voyage_94 rfl ?_
          refine z_get hC iA_X8 rfl 11 (by decide) qF_X8_60 rfl dX8_voyage_95 rl_0 (rd_0 (ca := ca) (ad := ad)) rfl ?_
          refine z_top (b := sEarn d k c (sEnd d k).1 (sEnd d k).2.1) (by rw [hμ4b]) ?_
          refine z_i2f hC dX8_voyage_98 ?_
          refine z_aload_n hC dX8_voyage_99 rfl ?_
          refine z_get hC iA_X8 rfl 10 (by decide) qF_X8_57 rfl dX8_voyage_100 rl_0 (rd_0 (ca := ca) (ad := ad)) rfl ?_
          refine z_top (b := sFree d k c (sEnd d k).1 (sEnd d k).2.1) (by rw [hμ4a]) ?_
          refine z_aload_n hC dX8_voyage_103 rfl ?_
          refine z_get hC iA_X8 rfl 13 (by decide) qF_X8_66 rfl dX8_voyage_104 rl_0 (rd_0 (ca := ca) (ad := ad)) rfl ?_
          refine z_top (b := (sEnd d k).2.1) (by rw [hμ413]) ?_
          refine z_isub hC dX8_voyage_107 ?_
          refine z_i2f hC dX8_voyage_108 ?_
          refine z_fdiv hC dX8_voyage_109 (flOk_n h9) ?_
          refine z_callS hC [.float (Jvm.FP.fdiv (Jvm.FP.i2f (iZ (sEarn d k c (sEnd d k).1 (sEnd d k).2.1))) (Jvm.FP.i2f (iZ ((sFree d k c (sEnd d k).1 (sEnd d k).2.1) - ((sEnd d k).2.1)))))] 1 rfl dX8_voyage_110 (fun l => m_fib l _ _ _ _ h9) qM_X8_131 qT_Jxf58ca_floatToIntBits_5c35a qi_Jxf58ca qC_Jxf58ca_floatToIntBits_5c35a (by decide +kernel) (by decide) (by decide) (Nat.le_of_ble_eq_true rfl) (zk_pure ?_) rfl
          exact z_iret hC dX8_voyage_113 ⟨by unfold qVoy; rw [if_neg (by omega), if_neg (by omega), if_neg (by omega), if_neg (by omega), if_neg (by omega), if_pos (by omega)], rSt_go hX hμ4f⟩
      · refine z_ldc hC (-1000001) qc_X8_24 rfl dX8_voyage_25 ?_
        have e9 : qVoy d k c w = iZ (-1000001) := by
          unfold qVoy
          by_cases q9 : (0 ≤ k ∧ k < d 0 4) ∧ (0 ≤ c ∧ c < d 0 5)
          · rw [if_neg (by omega), if_neg (by omega), if_neg (by omega), if_neg (by omega), if_neg (by omega), if_neg (by omega)]
          · rw [if_pos q9]
        exact z_iret hC dX8_voyage_27 ⟨by rw [e9], hX⟩
