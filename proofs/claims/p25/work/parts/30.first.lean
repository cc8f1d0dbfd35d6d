/-! FROM WHAT IS MADE TO THE STATE: the cells under their numbers -/
def eqE (e e' : va_E) : Prop := e = e' ∨ (∃ (cA : ClassId) (n : Nat) (f f' : Nat → Int32), e = .inl (cA, n, .inl f) ∧ e' = .inl (cA, n, .inl f') ∧ ∀ j, j < n → f j = f' j) ∨ ∃ (cA : ClassId) (n : Nat) (f f' : Nat → Option Nat), e = .inl (cA, n, vr f) ∧ e' = .inl (cA, n, vr f') ∧ ∀ j, j < n → f j = f' j
theorem arrV_cg {cA : ClassId} {n : Nat} {f g : Nat → Value} (h : ∀ j, j < n → f j = g j) : arrV cA n f = arrV cA n g := by
  unfold arrV
  have : (fun j : Fin n => f j.val) = fun j : Fin n => g j.val := funext (fun j => h j.val j.isLt)
  rw [this]
theorem eqE_at {D : va_G} {cl : List vw_C} {a : Nat} {e e' : va_E} {H : Heap} (h : eqE e e') (q : va_at D cl (a, e) H) : va_at D cl (a, e') H := by
  rcases h with h | ⟨cA, n, f, f', h1, h2, h3⟩ | ⟨cA, n, f, f', h1, h2, h3⟩
  · rw [← h]; exact q
  · rw [h1] at q
    rw [h2]
    have e9 : arrV cA n (fun j => Value.int (f j)) = arrV cA n (fun j => Value.int (f' j)) := arrV_cg (fun j hj => by rw [h3 j hj])
    have q2 : H[a]? = some (arrV cA n (fun j => Value.int (f j))) := q
    rw [e9] at q2
    exact q2
  · rw [h1] at q
    rw [h2]
    have e9 : arrV cA n (fun j => va_rf (f j)) = arrV cA n (fun j => va_rf (f' j)) := arrV_cg (fun j hj => by rw [h3 j hj])
    have q2 : H[a]? = some (arrV cA n (fun j => va_rf (f j))) := q
    rw [e9] at q2
    exact q2
/-- where a cell was made: within a desk, and at all -/
def sg (o : Int) : Int := if o < 6 then o else if o < 11 then 2 * o - 6 else if o < 16 then 2 * o - 15 else o
def plI (c : Int) : Int := if c < 156 then (if c < 52 then 1 else 3) + 26 * (c / 26) + sg (c % 26) else if c = 156 then 0 else if c = 157 then 53 else if c = 158 then 54 else c
def sgi (s : Int) : Int := if s < 6 then s else if s < 16 then (if s % 2 = 0 then s / 2 + 3 else (s + 15) / 2) else s
def plInv (p : Int) : Int := if p = 0 then 156 else if p = 53 then 157 else if p = 54 then 158 else if 159 ≤ p then p else if p < 53 then 26 * ((p - 1) / 26) + sgi ((p - 1) % 26) else 26 * ((p - 3) / 26) + sgi ((p - 3) % 26)
theorem plI_ok : ∀ k : Nat, k < 163 → plInv (plI (k : Int)) = (k : Int) ∧ 0 ≤ plI (k : Int) ∧ plI (k : Int) < 163 := by decide +kernel
theorem plI_inj {c c' : Int} (h : 0 ≤ c ∧ c < 163) (h' : 0 ≤ c' ∧ c' < 163) (e : plI c = plI c') : c = c' := by
  have a := (plI_ok c.toNat (by omega)).1
  have b := (plI_ok c'.toNat (by omega)).1
  rw [Int.toNat_of_nonneg h.1] at a
  rw [Int.toNat_of_nonneg h'.1] at b
  rw [← a, ← b, e]
theorem plI_r {c : Int} (h : 0 ≤ c ∧ c < 163) : 0 ≤ plI c ∧ plI c < 163 := by
  have a := (plI_ok c.toNat (by omega)).2
  rw [Int.toNat_of_nonneg h.1] at a
  exact a
/-- the addresses by the cells' numbers -/
def adO (α : Nat → Nat) (c : Int) : Nat := α (plI c).toNat
/-- where desk j begins -/
def bB (j : Int) : Nat := ((if j < 2 then 1 else 3) + 26 * j).toNat
theorem adO_b {α : Nat → Nat} {j o : Int} {s : Nat} (hj : 0 ≤ j ∧ j ≤ 5) (ho : 0 ≤ o ∧ o < 26) (hs : (s : Int) = sg o) : adO α (26 * j + o) = α (bB j + s) := by
  unfold adO
  congr 1
  unfold plI bB
  rw [if_pos (by omega), show (26 * j + o) / 26 = j by omega, show (26 * j + o) % 26 = o by omega]
  by_cases q : j < 2
  · rw [if_pos (by omega), if_pos q]; omega
  · rw [if_neg (by omega), if_neg q]; omega
abbrev F5 : (Nat → Nat) → List Value := fun α => [.ref (α 1), .ref (α 27), .ref (α 53), .ref (α 159), .ref (α 162)]
/-- a desk among what was made -/
theorem eM_desk {ca : Nat → ClassId} {F : (Nat → Nat) → List Value} {α : Nat → Nat} {j : Int} (hj : 0 ≤ j ∧ j ≤ 5) {s : Nat} (hs : s < 26) : eMain ca F α (bB j + s) = eDesk ca 8 5 10 (fun x => α (bB j + x)) s := by
  unfold eMain
  have hB : bB j = ((if j < 2 then 1 else 3) + 26 * j).toNat := rfl
  by_cases q0 : j = 0
  · have hb : bB j = 1 := by rw [hB, q0]; rfl
    rw [hb, if_neg (by omega), if_pos (by omega), show 1 + s - 1 = s by omega]
  by_cases q1 : j = 1
  · have hb : bB j = 27 := by rw [hB, q1]; rfl
    rw [hb, if_neg (by omega), if_neg (by omega), if_pos (by omega), show 27 + s - 27 = s by omega]
  · have hb : (bB j : Int) = 3 + 26 * j := by rw [hB, if_neg (by omega)]; omega
    obtain ⟨i, hi⟩ : ∃ i : Nat, (i : Int) = j - 2 := ⟨(j - 2).toNat, by omega⟩
    have hb2 : bB j = 55 + 26 * i := by omega
    rw [hb2, if_neg (by omega), if_neg (by omega), if_neg (by omega), if_pos (by omega), eHist_d (by omega), show (55 + 26 * i + s - 53 - 2) / 26 = i by omega, show (55 + 26 * i + s - 53 - 2) % 26 = s by omega]
    have : (fun o => α (53 + (2 + 26 * i + o))) = (fun x => α (55 + 26 * i + x)) := by
      funext x
      congr 1
      omega
    rw [this]
/-- the memory of a new object -/
def mu0 : zM := fun c i => if c < 156 ∧ c % 26 = 1 then 10 * i else if c < 156 ∧ c % 26 = 2 then 5 * (i % 3) else if c = 158 then 2 + i else 0
theorem mu0_0 {c i : Int} (h1 : c % 26 ≠ 1 ∨ 156 ≤ c) (h2 : c % 26 ≠ 2 ∨ 156 ≤ c) (h3 : c ≠ 158) : mu0 c i = 0 := by
  unfold mu0
  rw [if_neg (by omega), if_neg (by omega), if_neg h3]
theorem mu0_x {c i : Int} (h : c < 156) (h1 : c % 26 = 1) : mu0 c i = 10 * i := if_pos ⟨h, h1⟩
theorem mu0_y {c i : Int} (h : c < 156) (h1 : c % 26 = 2) : mu0 c i = 5 * (i % 3) := by
  unfold mu0
  rw [if_neg (by omega), if_pos ⟨h, h1⟩]
theorem mu0_s {i : Int} : mu0 158 i = 2 + i := rfl
/-- a desk's cells as they were made, and as they are numbered -/
theorem mk_desk {ca : Nat → ClassId} {F : (Nat → Nat) → List Value} {α : Nat → Nat} {j o : Int} (hj : 0 ≤ j ∧ j ≤ 5) (ho : 0 ≤ o ∧ o < 26) : eqE (eMain ca F α (bB j + (sg o).toNat)) (ccd ca (adO α) (26 * j + o) (mu0 (26 * j + o))) := by
  have hb : zb (26 * j) := ⟨j, hj.1, hj.2, rfl⟩
  have a := fun (o : Int) (s : Nat) (h : 0 ≤ o ∧ o < 26) (hs : (s : Int) = sg o) => adO_b (α := α) hj h hs
  have m0 : ∀ i, o ≠ 1 → o ≠ 2 → mu0 (26 * j + o) i = 0 := fun i h1 h2 => mu0_0 (by omega) (by omega) (by omega)
  have hsg : 0 ≤ sg o ∧ sg o < 26 := by unfold sg; split <;> (try split) <;> (try split) <;> omega
  rw [eM_desk hj (by omega)]
  by_cases q0 : o = 0
  · subst q0
    rw [Int.add_zero]
    left
    have z := fun i => mu0_0 (c := 26 * j) (i := i) (by omega) (by omega) (by omega)
    rw [cd_desk hb, z, z, z, z, z, z, z, a 1 1 (by omega) rfl, a 2 2 (by omega) rfl, a 3 3 (by omega) rfl, a 4 4 (by omega) rfl, a 5 5 (by omega) rfl]
    rfl
  by_cases q1 : o = 1
  · subst q1
    rw [cd_x hb]
    right; left
    exact ⟨ca 0, 8, _, _, rfl, rfl, fun i hi => by rw [if_pos hi, mu0_x (by omega) (by omega)]⟩
  by_cases q2 : o = 2
  · subst q2
    rw [cd_y hb]
    right; left
    exact ⟨ca 0, 8, _, _, rfl, rfl, fun i hi => by rw [if_pos hi, mu0_y (by omega) (by omega)]⟩
  by_cases q3 : o = 3
  · subst q3
    rw [cd_ships hb]
    right; right
    exact ⟨ca 2, 5, _, _, rfl, rfl, fun i hi => by
      rw [if_pos hi, show 26 * j + 6 + (i : Int) = 26 * j + (6 + (i : Int)) by omega, a (6 + (i : Int)) (6 + 2 * i) (by omega) (by unfold sg; rw [if_neg (by omega), if_pos (by omega)]; omega)]⟩
  by_cases q4 : o = 4
  · subst q4
    rw [cd_cargoes hb]
    right; right
    exact ⟨ca 3, 10, _, _, rfl, rfl, fun i hi => by
      rw [if_pos hi, show 26 * j + 16 + (i : Int) = 26 * j + (16 + (i : Int)) by omega, a (16 + (i : Int)) (16 + i) (by omega) (by unfold sg; rw [if_neg (by omega), if_neg (by omega), if_neg (by omega)]; omega)]⟩
  by_cases q5 : o = 5
  · subst q5
    rw [cd_course hb, m0 _ (by omega) (by omega), m0 _ (by omega) (by omega), m0 _ (by omega) (by omega), m0 _ (by omega) (by omega), m0 _ (by omega) (by omega), m0 _ (by omega) (by omega), m0 _ (by omega) (by omega), m0 _ (by omega) (by omega)]
    exact Or.inl rfl
  by_cases q6 : o < 11
  · obtain ⟨k, rfl⟩ : ∃ k, o = 6 + k := ⟨o - 6, by omega⟩
    have e0 : (sg (6 + k)).toNat = 6 + 2 * k.toNat := by unfold sg; rw [if_neg (by omega), if_pos (by omega)]; omega
    rw [e0, eDesk_e (by omega) (by omega), show 26 * j + (6 + k) = 26 * j + 6 + k by omega, cd_ship hb (by omega), show 26 * j + 11 + k = 26 * j + (11 + k) by omega, a (11 + k) (6 + 2 * k.toNat + 1) (by omega) (by unfold sg; rw [if_neg (by omega), if_neg (by omega), if_pos (by omega)]; omega)]
    have z := fun i => mu0_0 (c := 26 * j + 6 + k) (i := i) (by omega) (by omega) (by omega)
    rw [z, z, z, z, z, z, z]
    exact Or.inl rfl
  by_cases q7 : o < 16
  · obtain ⟨k, rfl⟩ : ∃ k, o = 11 + k := ⟨o - 11, by omega⟩
    have e0 : (sg (11 + k)).toNat = 7 + 2 * k.toNat := by unfold sg; rw [if_neg (by omega), if_neg (by omega), if_pos (by omega)]; omega
    rw [e0, eDesk_f (by omega) (by omega), show 26 * j + (11 + k) = 26 * j + 11 + k by omega, cd_fx hb (by omega)]
    right; left
    exact ⟨ca 0, 10, _, _, rfl, rfl, fun i hi => by rw [mu0_0 (by omega) (by omega) (by omega)]⟩
  · obtain ⟨k, rfl⟩ : ∃ k, o = 16 + k := ⟨o - 16, by omega⟩
    have e0 : (sg (16 + k)).toNat = 16 + k.toNat := by unfold sg; rw [if_neg (by omega), if_neg (by omega), if_neg (by omega)]; omega
    rw [e0, eDesk_c (by omega), show 26 * j + (16 + k) = 26 * j + 16 + k by omega, cd_cargo hb (by omega)]
    have z := fun i => mu0_0 (c := 26 * j + 16 + k) (i := i) (by omega) (by omega) (by omega)
    rw [z, z, z, z, z, z, z, z]
    exact Or.inl rfl
theorem mk_all {ca : Nat → ClassId} {α : Nat → Nat} {c : Int} (hc : 0 ≤ c ∧ c < 163) : eqE (eMain ca F5 α (plI c).toNat) (ccd ca (adO α) c (mu0 c)) := by
  by_cases q : c < 156
  · have h := mk_desk (ca := ca) (F := F5) (α := α) (j := c / 26) (o := c % 26) (by omega) (by omega)
    have e1 : 26 * (c / 26) + c % 26 = c := by omega
    have hsg : 0 ≤ sg (c % 26) := by unfold sg; split <;> (try split) <;> (try split) <;> omega
    have e2 : (plI c).toNat = bB (c / 26) + (sg (c % 26)).toNat := by
      unfold plI bB
      rw [if_pos q]
      by_cases z : c < 52
      · rw [if_pos z, if_pos (by omega)]; omega
      · rw [if_neg z, if_neg (by omega)]; omega
    rw [e1] at h
    rw [e2]
    exact h
  · rcases (show c = 156 ∨ c = 157 ∨ c = 158 ∨ c = 159 ∨ c = 160 ∨ c = 161 ∨ c = 162 by omega) with rfl | rfl | rfl | rfl | rfl | rfl | rfl
    · exact Or.inl rfl
    · exact Or.inl rfl
    · right; right
      refine ⟨ca 4, 4, _, _, rfl, rfl, fun i hi => ?_⟩
      rw [if_pos hi, mu0_s, show 26 * (2 + (i : Int)) = 26 * (2 + (i : Int)) + 0 by omega, adO_b (s := 0) (by omega) (by omega) rfl]
      have hb : bB (2 + (i : Int)) = 55 + 26 * i := by unfold bB; rw [if_neg (by omega)]; omega
      rw [hb]
      show some (α (53 + (2 + 26 * i))) = some (α (55 + 26 * i + 0))
      rw [show 53 + (2 + 26 * i) = 55 + 26 * i + 0 by omega]
    · exact Or.inl rfl
    · exact Or.inl rfl
    · exact Or.inl rfl
    · exact Or.inl rfl
/-- the class's own cells -/
def cA (ad : Int → Nat) (n : Nat) : Nat → Prop := fun q => ∃ c : Int, (0 ≤ c ∧ c < (n : Int)) ∧ q = ad c
set_option maxRecDepth 100000 in
theorem mk_class {G : va_G} {ca : Nat → ClassId} {A : Nat → Prop} {α : Nat → Nat} {H : Heap} (h : yH G A 163 α (eMain ca F5 α) H) : zH (cω G ca (adO α)) (cA (adO α) 163) mu0 H := by
  have at' : ∀ (k : Nat) (q : Nat × va_E), (zws (cω G ca (adO α)) mu0)[k]? = some q → k < 163 ∧ q = (adO α (k : Int), ccd ca (adO α) (k : Int) (mu0 (k : Int))) := by
    intro k q hq
    by_cases hk : k < 163
    · simp only [zws, List.getElem?_map, List.getElem?_range hk, Option.map_some, Option.some.injEq] at hq
      exact ⟨hk, hq.symm⟩
    · simp [zws, List.getElem?_eq_none (l := List.range 163) (by simpa using hk)] at hq
  refine ⟨fun k q hq => ?_, fun i j p q hi hj e => ?_, fun k q hq => ?_⟩
  · obtain ⟨hk, rfl⟩ := at' k q hq
    have hr := plI_r (c := (k : Int)) (by omega)
    have e1 : va_at G zcl (adO α (k : Int), eMain ca F5 α (plI (k : Int)).toNat) H := h.1 (plI (k : Int)).toNat _ (fws_at (by omega))
    show va_at G zcl (adO α (k : Int), ccd ca (adO α) (k : Int) (mu0 (k : Int))) H
    exact eqE_at (mk_all (by omega)) e1
  · obtain ⟨hi1, rfl⟩ := at' i p hi
    obtain ⟨hj1, rfl⟩ := at' j q hj
    have ri := plI_r (c := (i : Int)) (by omega)
    have rj := plI_r (c := (j : Int)) (by omega)
    have := h.2.1 (plI (i : Int)).toNat (plI (j : Int)).toNat _ _ (fws_at (by omega)) (fws_at (by omega)) e
    have := plI_inj (c := (i : Int)) (c' := (j : Int)) (by omega) (by omega) (by omega)
    omega
  · obtain ⟨hk, rfl⟩ := at' k q hq
    exact ⟨(k : Int), by show 0 ≤ (k : Int) ∧ (k : Int) < ((163 : Nat) : Int); omega, rfl⟩
/-! THE FIRST STATE -/
def d0 : zM := vw mu0 0
theorem d0_in {o i : Int} (h : zrel o i) : d0 o i = mu0 o i := by
  unfold d0
  rw [vw_in h, Int.zero_add]
theorem inv0 : zInv d0 := by
  have z : ∀ o i, zrel o i → o ≠ 1 → o ≠ 2 → d0 o i = 0 := fun o i h h1 h2 => by
    rw [d0_in h]
    unfold zrel at h
    exact mu0_0 (by omega) (by omega) (by omega)
  have e4 : d0 0 4 = 0 := z 0 4 (by unfold zrel; omega) (by omega) (by omega)
  have e5 : d0 0 5 = 0 := z 0 5 (by unfold zrel; omega) (by omega) (by omega)
  refine ⟨⟨?_, ?_, ?_, ?_⟩, ?_, ?_, ?_, ?_, ?_, ?_⟩
  · unfold bN
    rw [e4, e5]
    omega
  · intro p hp
    rw [d0_in (o := 1) (i := p) (by unfold zrel; omega), d0_in (o := 2) (i := p) (by unfold zrel; omega), mu0_x (by omega) (by omega), mu0_y (by omega) (by omega)]
    omega
  · intro k hk; rw [e4] at hk; omega
  · intro c hc; rw [e5] at hc; omega
  · intro k hk
    rw [e4] at hk
    exact ⟨z _ _ (by unfold zrel; omega) (by omega) (by omega), z _ _ (by unfold zrel; omega) (by omega) (by omega)⟩
  · intro c hc
    rw [e5] at hc
    exact z _ _ (by unfold zrel; omega) (by omega) (by omega)
  · intro k hk; rw [e4] at hk; omega
  · intro k hk; rw [e4] at hk; omega
  · intro k k' x x' hk; rw [e4] at hk; omega
  · intro k hk; rw [e4] at hk; omega
