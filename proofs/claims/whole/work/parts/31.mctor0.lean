/-- a new reference of n shares -/
def m0 (n : Nat) : mS := (0, n, fil (fun _ => 1) (fun _ => 0) 40, fun _ => 0, fun _ => 0, fun _ => 0, fun _ => 0, 0, fun _ => 0, fun _ => 0, -1, 0, 0, 0, 0, 0, 0, fun _ => 0, fun _ => 0, fil (fun _ => (-1)) (fun _ => 0) 24)
theorem sz1 {p : Int32} (h : ¬ 1 ≤ p) : (1 : Int32) = nI (szN p) := by
  rw [← (szN_in p).1]
  have a : p < 1 := Int32.not_le.mp h
  have a1 := Int32.lt_iff_toInt_lt.mp a
  have e1 : (1 : Int32).toInt = 1 := by decide
  have e40 : (40 : Int32).toInt = 40 := by decide
  have b : p < 40 := Int32.lt_iff_toInt_lt.mpr (by omega)
  rw [if_pos b]
  have d : ¬ 1 < p := fun q => by have := Int32.lt_iff_toInt_lt.mp q; omega
  rw [if_neg d]
theorem sz2 {p : Int32} (h : 1 ≤ p) (h2 : ¬ p ≤ 40) : (40 : Int32) = nI (szN p) := by
  rw [← (szN_in p).1]
  have a1 := Int32.lt_iff_toInt_lt.mp (Int32.not_le.mp h2)
  have e40 : (40 : Int32).toInt = 40 := by decide
  have b : ¬ p < 40 := fun q => by have := Int32.lt_iff_toInt_lt.mp q; omega
  rw [if_neg b]; decide
theorem sz3 {p : Int32} (h : 1 ≤ p) (h2 : p ≤ 40) : p = nI (szN p) := by
  refine Eq.trans ?_ (szN_in p).1
  have a1 := Int32.le_iff_toInt_le.mp h
  have a2 := Int32.le_iff_toInt_le.mp h2
  have e1 : (1 : Int32).toInt = 1 := by decide
  have e40 : (40 : Int32).toInt = 40 := by decide
  by_cases b : p < 40
  · rw [if_pos b]
    by_cases d : 1 < p
    · rw [if_pos d]
    · rw [if_neg d]
      have d1 : ¬ (1 : Int32).toInt < p.toInt := fun q => d (Int32.lt_iff_toInt_lt.mpr q)
      exact Int32.toInt_inj.mp (by omega)
  · rw [if_neg b]
    have b1 : ¬ p.toInt < (40 : Int32).toInt := fun q => b (Int32.lt_iff_toInt_lt.mpr q)
    have : p = 40 := Int32.toInt_inj.mp (by omega)
    rw [this]; decide
