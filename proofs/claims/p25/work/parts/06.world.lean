/-! THE CLASS'S CELLS: six desks of 26 cells each (0 the desk, 1 the trial, 2 to 5 the history's), then the object, its history, the states, its script, the characters, the numbers, its finding. -/
def ccd (ca : Nat → ClassId) (ad : Int → Nat) (c : Int) (r : Int → Int) : va_E :=
  if c < 156 then
    if c % 26 = 0 then .inr (2, [.ref (ad (c + 1)), .ref (ad (c + 2)), .ref (ad (c + 3)), .ref (ad (c + 4)), .int (iZ (r 4)), .int (iZ (r 5)), .int (iZ (r 6)), .int (iZ (r 7)), .ref (ad (c + 5)), .int (iZ (r 9)), .int (iZ (r 10)), .int (iZ (r 11))])
    else if c % 26 = 1 then .inl (ca 0, 8, .inl (fun j => iZ (r j)))
    else if c % 26 = 2 then .inl (ca 0, 8, .inl (fun j => iZ (r j)))
    else if c % 26 = 3 then .inl (ca 2, 5, .inr (.inr (.inr (.inr (fun j => some (ad (c + 3 + (j : Int))))))))
    else if c % 26 = 4 then .inl (ca 3, 10, .inr (.inr (.inr (.inr (fun j => some (ad (c + 12 + (j : Int))))))))
    else if c % 26 = 5 then .inr (1, [.int (iZ (r 0)), .int (iZ (r 1)), .int (iZ (r 2)), .int (iZ (r 3)), .int (iZ (r 4)), .int (iZ (r 5)), .int (iZ (r 6)), .int (iZ (r 7))])
    else if c % 26 < 11 then .inr (6, [.int (iZ (r 0)), .int (iZ (r 1)), .int (iZ (r 2)), .int (iZ (r 3)), .int (iZ (r 4)), .int (iZ (r 5)), .int (iZ (r 6)), .ref (ad (c + 5))])
    else if c % 26 < 16 then .inl (ca 0, 10, .inl (fun j => iZ (r j)))
    else .inr (0, [.int (iZ (r 0)), .int (iZ (r 1)), .int (iZ (r 2)), .int (iZ (r 3)), .int (iZ (r 4)), .int (iZ (r 5)), .int (iZ (r 6)), .int (iZ (r 7))])
  else if c = 156 then .inr (7, [.ref (ad 0), .ref (ad 26), .ref (ad 157), .ref (ad 159), .ref (ad 162)])
  else if c = 157 then .inr (4, [.ref (ad 158), .int (iZ (r 1))])
  else if c = 158 then .inl (ca 4, 4, .inr (.inr (.inr (.inr (fun j => some (ad (26 * r (j : Int))))))))
  else if c = 159 then .inr (5, [.ref (ad 160), .int (iZ (r 1)), .int (iZ (r 2)), .ref (ad 161), .int (iZ (r 4))])
  else if c = 160 then .inl (ca 1, 60, .inl (fun j => iZ (r j)))
  else if c = 161 then .inl (ca 0, 6, .inl (fun j => iZ (r j)))
  else .inr (3, [.int (iZ (r 0)), .int (iZ (r 1)), .int (iZ (r 2)), .int (iZ (r 3))])
abbrev cω (G : va_G) (ca : Nat → ClassId) (ad : Int → Nat) : zO := (G, ca, 163, ad, ccd ca ad)
/-- the first cell of a desk -/
def zb (b : Int) : Prop := ∃ j : Int, 0 ≤ j ∧ j ≤ 5 ∧ b = 26 * j
theorem zb_0 : zb 0 := ⟨0, by omega⟩
theorem zb_26 : zb 26 := ⟨1, by omega⟩
section CW
variable {ca : Nat → ClassId} {ad : Int → Nat} {b k : Int}
theorem cl_desk (hb : zb b) : 0 ≤ b ∧ b < ((163 : Nat) : Int) := by obtain ⟨j, h1, h2, rfl⟩ := hb; omega
theorem cd_desk (hb : zb b) : ∀ r, ccd ca ad b r = .inr (2, [.ref (ad (b + 1)), .ref (ad (b + 2)), .ref (ad (b + 3)), .ref (ad (b + 4)), .int (iZ (r 4)), .int (iZ (r 5)), .int (iZ (r 6)), .int (iZ (r 7)), .ref (ad (b + 5)), .int (iZ (r 9)), .int (iZ (r 10)), .int (iZ (r 11))]) := by
  obtain ⟨j, h1, h2, rfl⟩ := hb
  intro r
  unfold ccd
  rw [if_pos (by omega), if_pos (by omega)]
theorem cl_x (hb : zb b) : 0 ≤ b + 1 ∧ b + 1 < ((163 : Nat) : Int) := by obtain ⟨j, h1, h2, rfl⟩ := hb; omega
theorem cd_x (hb : zb b) : ∀ r, ccd ca ad (b + 1) r = .inl (ca 0, 8, .inl (fun j => iZ (r j))) := by
  obtain ⟨j, h1, h2, rfl⟩ := hb
  intro r
  unfold ccd
  rw [if_pos (by omega), if_neg (by omega), if_pos (by omega)]
theorem cl_y (hb : zb b) : 0 ≤ b + 2 ∧ b + 2 < ((163 : Nat) : Int) := by obtain ⟨j, h1, h2, rfl⟩ := hb; omega
theorem cd_y (hb : zb b) : ∀ r, ccd ca ad (b + 2) r = .inl (ca 0, 8, .inl (fun j => iZ (r j))) := by
  obtain ⟨j, h1, h2, rfl⟩ := hb
  intro r
  unfold ccd
  rw [if_pos (by omega), if_neg (by omega), if_neg (by omega), if_pos (by omega)]
theorem cl_ships (hb : zb b) : 0 ≤ b + 3 ∧ b + 3 < ((163 : Nat) : Int) := by obtain ⟨j, h1, h2, rfl⟩ := hb; omega
theorem cd_ships (hb : zb b) : ∀ r, ccd ca ad (b + 3) r = .inl (ca 2, 5, .inr (.inr (.inr (.inr (fun j => some (ad (b + 6 + (j : Int)))))))) := by
  obtain ⟨j, h1, h2, rfl⟩ := hb
  intro r
  unfold ccd
  rw [if_pos (by omega), if_neg (by omega), if_neg (by omega), if_neg (by omega), if_pos (by omega), show 26 * j + 3 + 3 = 26 * j + 6 by omega]
theorem cl_cargoes (hb : zb b) : 0 ≤ b + 4 ∧ b + 4 < ((163 : Nat) : Int) := by obtain ⟨j, h1, h2, rfl⟩ := hb; omega
theorem cd_cargoes (hb : zb b) : ∀ r, ccd ca ad (b + 4) r = .inl (ca 3, 10, .inr (.inr (.inr (.inr (fun j => some (ad (b + 16 + (j : Int)))))))) := by
  obtain ⟨j, h1, h2, rfl⟩ := hb
  intro r
  unfold ccd
  rw [if_pos (by omega), if_neg (by omega), if_neg (by omega), if_neg (by omega), if_neg (by omega), if_pos (by omega), show 26 * j + 4 + 12 = 26 * j + 16 by omega]
theorem cl_course (hb : zb b) : 0 ≤ b + 5 ∧ b + 5 < ((163 : Nat) : Int) := by obtain ⟨j, h1, h2, rfl⟩ := hb; omega
theorem cd_course (hb : zb b) : ∀ r, ccd ca ad (b + 5) r = .inr (1, [.int (iZ (r 0)), .int (iZ (r 1)), .int (iZ (r 2)), .int (iZ (r 3)), .int (iZ (r 4)), .int (iZ (r 5)), .int (iZ (r 6)), .int (iZ (r 7))]) := by
  obtain ⟨j, h1, h2, rfl⟩ := hb
  intro r
  unfold ccd
  rw [if_pos (by omega), if_neg (by omega), if_neg (by omega), if_neg (by omega), if_neg (by omega), if_neg (by omega), if_pos (by omega)]
theorem cl_ship (hb : zb b) (hk : 0 ≤ k ∧ k < 5) : 0 ≤ b + 6 + k ∧ b + 6 + k < ((163 : Nat) : Int) := by obtain ⟨j, h1, h2, rfl⟩ := hb; omega
theorem cd_ship (hb : zb b) (hk : 0 ≤ k ∧ k < 5) : ∀ r, ccd ca ad (b + 6 + k) r = .inr (6, [.int (iZ (r 0)), .int (iZ (r 1)), .int (iZ (r 2)), .int (iZ (r 3)), .int (iZ (r 4)), .int (iZ (r 5)), .int (iZ (r 6)), .ref (ad (b + 11 + k))]) := by
  obtain ⟨j, h1, h2, rfl⟩ := hb
  intro r
  unfold ccd
  rw [if_pos (by omega), if_neg (by omega), if_neg (by omega), if_neg (by omega), if_neg (by omega), if_neg (by omega), if_neg (by omega), if_pos (by omega), show 26 * j + 6 + k + 5 = 26 * j + 11 + k by omega]
theorem cl_fx (hb : zb b) (hk : 0 ≤ k ∧ k < 5) : 0 ≤ b + 11 + k ∧ b + 11 + k < ((163 : Nat) : Int) := by obtain ⟨j, h1, h2, rfl⟩ := hb; omega
theorem cd_fx (hb : zb b) (hk : 0 ≤ k ∧ k < 5) : ∀ r, ccd ca ad (b + 11 + k) r = .inl (ca 0, 10, .inl (fun j => iZ (r j))) := by
  obtain ⟨j, h1, h2, rfl⟩ := hb
  intro r
  unfold ccd
  rw [if_pos (by omega), if_neg (by omega), if_neg (by omega), if_neg (by omega), if_neg (by omega), if_neg (by omega), if_neg (by omega), if_neg (by omega), if_pos (by omega)]
theorem cl_cargo (hb : zb b) (hk : 0 ≤ k ∧ k < 10) : 0 ≤ b + 16 + k ∧ b + 16 + k < ((163 : Nat) : Int) := by obtain ⟨j, h1, h2, rfl⟩ := hb; omega
theorem cd_cargo (hb : zb b) (hk : 0 ≤ k ∧ k < 10) : ∀ r, ccd ca ad (b + 16 + k) r = .inr (0, [.int (iZ (r 0)), .int (iZ (r 1)), .int (iZ (r 2)), .int (iZ (r 3)), .int (iZ (r 4)), .int (iZ (r 5)), .int (iZ (r 6)), .int (iZ (r 7))]) := by
  obtain ⟨j, h1, h2, rfl⟩ := hb
  intro r
  unfold ccd
  rw [if_pos (by omega), if_neg (by omega), if_neg (by omega), if_neg (by omega), if_neg (by omega), if_neg (by omega), if_neg (by omega), if_neg (by omega), if_neg (by omega)]
theorem cl_main : 0 ≤ (156 : Int) ∧ (156 : Int) < ((163 : Nat) : Int) := by omega
theorem cd_main : ∀ r, ccd ca ad 156 r = .inr (7, [.ref (ad 0), .ref (ad 26), .ref (ad 157), .ref (ad 159), .ref (ad 162)]) := fun _ => rfl
theorem cl_hist : 0 ≤ (157 : Int) ∧ (157 : Int) < ((163 : Nat) : Int) := by omega
theorem cd_hist : ∀ r, ccd ca ad 157 r = .inr (4, [.ref (ad 158), .int (iZ (r 1))]) := fun _ => rfl
theorem cl_states : 0 ≤ (158 : Int) ∧ (158 : Int) < ((163 : Nat) : Int) := by omega
theorem cd_states : ∀ r, ccd ca ad 158 r = .inl (ca 4, 4, .inr (.inr (.inr (.inr (fun j => some (ad (26 * r (j : Int)))))))) := fun _ => rfl
theorem cl_script : 0 ≤ (159 : Int) ∧ (159 : Int) < ((163 : Nat) : Int) := by omega
theorem cd_script : ∀ r, ccd ca ad 159 r = .inr (5, [.ref (ad 160), .int (iZ (r 1)), .int (iZ (r 2)), .ref (ad 161), .int (iZ (r 4))]) := fun _ => rfl
theorem cl_chars : 0 ≤ (160 : Int) ∧ (160 : Int) < ((163 : Nat) : Int) := by omega
theorem cd_chars : ∀ r, ccd ca ad 160 r = .inl (ca 1, 60, .inl (fun j => iZ (r j))) := fun _ => rfl
theorem cl_nums : 0 ≤ (161 : Int) ∧ (161 : Int) < ((163 : Nat) : Int) := by omega
theorem cd_nums : ∀ r, ccd ca ad 161 r = .inl (ca 0, 6, .inl (fun j => iZ (r j))) := fun _ => rfl
theorem cl_find : 0 ≤ (162 : Int) ∧ (162 : Int) < ((163 : Nat) : Int) := by omega
theorem cd_find : ∀ r, ccd ca ad 162 r = .inr (3, [.int (iZ (r 0)), .int (iZ (r 1)), .int (iZ (r 2)), .int (iZ (r 3))]) := fun _ => rfl
end CW
/-! WHAT A DESK IS: the cells' ints that count, all else 0 (0: 4 ships 5 cargoes 6 cancelled 7 called off; 1, 2: x, y; 6..: ships; 11..: their fixtures; 16..: cargoes) -/
def zrel (o i : Int) : Prop := (o = 0 ∧ 4 ≤ i ∧ i < 8) ∨ (1 ≤ o ∧ o ≤ 2 ∧ 0 ≤ i ∧ i < 8) ∨ (6 ≤ o ∧ o < 11 ∧ 0 ≤ i ∧ i < 7) ∨ (11 ≤ o ∧ o < 16 ∧ 0 ≤ i ∧ i < 10) ∨ (16 ≤ o ∧ o < 26 ∧ 0 ≤ i ∧ i < 8)
def vw (μ : zM) (b : Int) : zM := fun o i => if (o = 0 ∧ 4 ≤ i ∧ i < 8) ∨ (1 ≤ o ∧ o ≤ 2 ∧ 0 ≤ i ∧ i < 8) ∨ (6 ≤ o ∧ o < 11 ∧ 0 ≤ i ∧ i < 7) ∨ (11 ≤ o ∧ o < 16 ∧ 0 ≤ i ∧ i < 10) ∨ (16 ≤ o ∧ o < 26 ∧ 0 ≤ i ∧ i < 8) then μ (b + o) i else 0
theorem vw_in {μ : zM} {b o i : Int} (h : zrel o i) : vw μ b o i = μ (b + o) i := if_pos h
theorem vw_out {μ : zM} {b o i : Int} (h : ¬ zrel o i) : vw μ b o i = 0 := if_neg h
theorem vw_S {μ : zM} {b : Int} : vw μ b 0 4 = μ b 4 := by rw [vw_in (by unfold zrel; omega), Int.add_zero]
theorem vw_Cn {μ : zM} {b : Int} : vw μ b 0 5 = μ b 5 := by rw [vw_in (by unfold zrel; omega), Int.add_zero]
theorem vw_can {μ : zM} {b : Int} : vw μ b 0 6 = μ b 6 := by rw [vw_in (by unfold zrel; omega), Int.add_zero]
theorem vw_off {μ : zM} {b : Int} : vw μ b 0 7 = μ b 7 := by rw [vw_in (by unfold zrel; omega), Int.add_zero]
theorem vw_x {μ : zM} {b i : Int} (h : 0 ≤ i ∧ i < 8) : vw μ b 1 i = μ (b + 1) i := vw_in (by unfold zrel; omega)
theorem vw_y {μ : zM} {b i : Int} (h : 0 ≤ i ∧ i < 8) : vw μ b 2 i = μ (b + 2) i := vw_in (by unfold zrel; omega)
theorem vw_ship {μ : zM} {b k i : Int} (hk : 0 ≤ k ∧ k < 5) (h : 0 ≤ i ∧ i < 7) : vw μ b (6 + k) i = μ (b + 6 + k) i := by rw [vw_in (by unfold zrel; omega), Int.add_assoc]
theorem vw_fx {μ : zM} {b k i : Int} (hk : 0 ≤ k ∧ k < 5) (h : 0 ≤ i ∧ i < 10) : vw μ b (11 + k) i = μ (b + 11 + k) i := by rw [vw_in (by unfold zrel; omega), Int.add_assoc]
theorem vw_cargo {μ : zM} {b k i : Int} (hk : 0 ≤ k ∧ k < 10) (h : 0 ≤ i ∧ i < 8) : vw μ b (16 + k) i = μ (b + 16 + k) i := by rw [vw_in (by unfold zrel; omega), Int.add_assoc]
theorem vw_up {μ : zM} {b o i z : Int} (h : zrel o i) : vw (zup μ (b + o) i z) b = zup (vw μ b) o i z := by
  funext o' i'
  by_cases h' : zrel o' i'
  · rw [vw_in h']
    by_cases e : o' = o ∧ i' = i
    · rw [e.1, e.2, zup_s, zup_s]
    · rw [zup_n (by omega), zup_n (by omega), vw_in h']
  · rw [vw_out h', zup_n (by
      by_cases e : o' = o
      · right
        intro e2
        rw [e, e2] at h'
        exact h' h
      · exact Or.inl e), vw_out h']
theorem vw_eq {μ μ' : zM} {b b' : Int} (h : ∀ o i, zrel o i → μ' (b' + o) i = μ (b + o) i) : vw μ' b' = vw μ b := by
  funext o i
  by_cases h' : zrel o i
  · rw [vw_in h', vw_in h', h o i h']
  · rw [vw_out h', vw_out h']

