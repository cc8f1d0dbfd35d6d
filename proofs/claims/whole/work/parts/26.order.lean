theorem sNums_e {L : Int} {t : Int → Int} {r : Nat} {e k : Int} {f : Int → Int} (h : (sRd L t 3 e 0).1 = e) : sNums L t (r + 1) e f k = (0, e, fun j => if j = k then (sRd L t 3 e 0).2 else f j) := if_pos h
theorem sNums_m {L : Int} {t : Int → Int} {r : Nat} {e k : Int} {f : Int → Int} (h : ¬ (sRd L t 3 e 0).1 = e) (h2 : ¬ cAt L t (sRd L t 3 e 0).1 = (if r = 0 then 59 else 44)) : sNums L t (r + 1) e f k = (0, (sRd L t 3 e 0).1, fun j => if j = k then (sRd L t 3 e 0).2 else f j) := (if_neg h).trans (if_neg h2)
theorem sNums_s {L : Int} {t : Int → Int} {r : Nat} {e k : Int} {f : Int → Int} (h : ¬ (sRd L t 3 e 0).1 = e) (h2 : cAt L t (sRd L t 3 e 0).1 = (if r = 0 then 59 else 44)) : sNums L t (r + 1) e f k = sNums L t r ((sRd L t 3 e 0).1 + 1) (fun j => if j = k then (sRd L t 3 e 0).2 else f j) (k + 1) := (if_neg h).trans (if_pos h2)
/-- the order that starts at e: whether it is of the form, where it ends or breaks off, its numbers -/
def sOrder (L : Int) (t : Int → Int) (e : Int) (f : Int → Int) : Int × Int × (Int → Int) := if cNum (cAt L t e) = 0 then (0, e, f) else sNums L t (cNum (cAt L t e)).toNat (e + 1) f 0
theorem cNum_b (c : Int) : cNum c = 0 ∨ cNum c = 2 ∨ cNum c = 5 ∨ cNum c = 6 := by
  unfold cNum
  split
  · omega
  · split
    · omega
    · split
      · omega
      · split <;> omega
/-- what reading an order leaves as it was -/
def zFs (μ μ' : zM) : Prop := ∀ c i, (c = 159 → i ≠ 2 ∧ i ≠ 4) → c ≠ 161 → μ' c i = μ c i
theorem zTx_fs {μ μ' : zM} {L : Int} {t : Int → Int} (H : zTx μ L t) (e : zFs μ μ') : zTx μ' L t := zTx_fr H (e 159 1 (by omega) (by omega)) (fun i _ => e 160 i (by omega) (by omega))
