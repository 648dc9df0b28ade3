/-! The way of a move: floor division, and where it is at step i of n. -/
theorem i32b {x : Int} (h1 : -2147483648 ≤ x) (h2 : x < 2147483648) : x.bmod (2 ^ 32) = x := Int.bmod_eq_of_le (by omega) (by omega)
theorem floor_spec {N : Nat} {A B : Int32} (hA1 : -1000000 ≤ A.toInt) (hA2 : A.toInt ≤ 1000000) (hB1 : 0 < B.toInt) (hB2 : B.toInt ≤ 1000000) :
    ∃ v, fJm_floorDiv N A B = some v ∧ fX7_floor N A B = some v ∧ v.toInt = A.toInt / B.toInt := by
  have h0 : (0 : Int32).toInt = 0 := rfl
  have hB0 : ¬ B = 0 := fun h => by rw [h] at hB1; omega
  have hmin : A ≠ Int32.minValue := fun h => by rw [h] at hA1; have : Int32.minValue.toInt = -2147483648 := rfl; omega
  have hq : (A / B).toInt = A.toInt.tdiv B.toInt := Int32.toInt_div_of_ne_left A B hmin
  have hem := Int.mul_ediv_add_emod A.toInt B.toInt
  have hm0 := Int.emod_nonneg A.toInt (b := B.toInt) (by omega)
  have hm1 := Int.emod_lt_of_pos A.toInt hB1
  have hsg : B.toInt.sign = 1 := Int.sign_eq_one_of_pos hB1
  have hte := Int.tdiv_eq_ediv (a := A.toInt) (b := B.toInt)
  rw [hsg] at hte
  have hcomm : A.toInt / B.toInt * B.toInt = B.toInt * (A.toInt / B.toInt) := Int.mul_comm _ _
  have habs : -1000000 ≤ A.toInt / B.toInt ∧ A.toInt / B.toInt ≤ 1000000 := by
    constructor
    · refine Int.le_ediv_of_mul_le hB1 ?_
      have : (1000000 : Int) * 1 ≤ 1000000 * B.toInt := Int.mul_le_mul_of_nonneg_left (by omega) (by omega)
      omega
    · by_cases hp : 0 ≤ A.toInt
      · exact Int.le_trans (Int.ediv_le_self _ hp) hA2
      · have := Int.ediv_lt_of_lt_mul (a := A.toInt) (b := 1) hB1 (by omega)
        omega
  have hx : (0 ≤ (A ^^^ B)) ↔ 0 ≤ A.toInt := by
    rw [Int32.le_iff_toInt_le, h0]
    have h1 : decide ((A ^^^ B).toInt < 0) = (decide (A.toInt < 0) ^^ decide (B.toInt < 0)) := by
      rw [← Int32.toInt_toBitVec, ← Int32.toInt_toBitVec, ← Int32.toInt_toBitVec, ← BitVec.msb_eq_toInt, ← BitVec.msb_eq_toInt, ← BitVec.msb_eq_toInt, Int32.toBitVec_xor, BitVec.msb_xor]
    rw [show decide (B.toInt < 0) = false from decide_eq_false (by omega), Bool.xor_false, decide_eq_decide] at h1
    omega
  by_cases hc : 0 ≤ A.toInt ∨ B.toInt ∣ A.toInt
  · rw [if_pos hc, Int.add_zero] at hte
    rw [hte] at hq
    have hmul : (A / B * B).toInt = A.toInt / B.toInt * B.toInt := by rw [Int32.toInt_mul, hq, i32b (by omega) (by omega)]
    have hrem : (A - A / B * B).toInt = A.toInt % B.toInt := by rw [Int32.toInt_sub, hmul, i32b (by omega) (by omega)]; omega
    refine ⟨A / B, ?_, ?_, hq⟩
    · rw [fJm_floorDiv, if_neg hB0]
      by_cases hp : 0 ≤ A.toInt
      · rw [if_pos (hx.mpr hp)]
      · rw [if_neg (fun h => hp (hx.mp h)), if_pos]
        have hd : B.toInt ∣ A.toInt := hc.resolve_left hp
        rw [← Int32.toInt_inj, hmul]
        exact Int.ediv_mul_cancel hd
    · rw [fX7_floor, if_neg hB0, if_neg hB0, if_pos]
      rw [Int32.le_iff_toInt_le, h0, hrem]
      exact hm0
  · rw [if_neg hc] at hte
    rw [hte] at hq
    have hexp : (A.toInt / B.toInt + 1) * B.toInt = A.toInt / B.toInt * B.toInt + B.toInt := by rw [Int.add_mul, Int.one_mul]
    have hmul : (A / B * B).toInt = A.toInt / B.toInt * B.toInt + B.toInt := by rw [Int32.toInt_mul, hq, hexp, i32b (by omega) (by omega)]
    have hrem : (A - A / B * B).toInt = A.toInt % B.toInt - B.toInt := by rw [Int32.toInt_sub, hmul, i32b (by omega) (by omega)]; omega
    have h1 : (1 : Int32).toInt = 1 := rfl
    refine ⟨A / B - 1, ?_, ?_, ?_⟩
    · rw [fJm_floorDiv, if_neg hB0, if_neg (fun h => hc (Or.inl (hx.mp h))), if_neg]
      intro h
      rw [← Int32.toInt_inj, hmul] at h
      refine hc (Or.inr ⟨A.toInt / B.toInt + 1, ?_⟩)
      rw [Int.mul_add, Int.mul_one]
      omega
    · rw [fX7_floor, if_neg hB0, if_neg hB0, if_neg]
      rw [Int32.le_iff_toInt_le, h0, hrem]
      omega
    · rw [Int32.toInt_sub, hq, h1, i32b (by omega) (by omega)]
      omega
theorem fl_bounds {d i n : Int} (hi : 1 ≤ i) (hn : i ≤ n) : (0 ≤ d → 0 ≤ (2 * d * i + n) / (2 * n) ∧ (2 * d * i + n) / (2 * n) ≤ d) ∧ (d ≤ 0 → d ≤ (2 * d * i + n) / (2 * n) ∧ (2 * d * i + n) / (2 * n) ≤ 0) := by
  have e1 : 2 * d * i = 2 * (d * i) := Int.mul_assoc ..
  constructor
  · intro hd
    have h1 : 0 ≤ d * i := Int.mul_nonneg hd (by omega)
    have h2 : d * i ≤ d * n := Int.mul_le_mul_of_nonneg_left hn hd
    refine ⟨Int.ediv_nonneg (by omega) (by omega), ?_⟩
    have e2 : (d + 1) * (2 * n) = 2 * (d * n) + 2 * n := by rw [Int.add_mul, Int.one_mul, Int.mul_left_comm]
    have := Int.ediv_lt_of_lt_mul (a := 2 * d * i + n) (b := d + 1) (c := 2 * n) (by omega) (by omega)
    omega
  · intro hd
    have h1 : d * i ≤ 0 := Int.mul_nonpos_of_nonpos_of_nonneg hd (by omega)
    have h2 : d * n ≤ d * i := Int.mul_le_mul_of_nonpos_left hd hn
    refine ⟨Int.le_ediv_of_mul_le (by omega) ?_, ?_⟩
    · have e2 : d * (2 * n) = 2 * (d * n) := Int.mul_left_comm ..
      omega
    · have := Int.ediv_lt_of_lt_mul (a := 2 * d * i + n) (b := 1) (c := 2 * n) (by omega) (by omega)
      omega
/-- where a move from f to g is, at step i of n -/
def posN (f g i n : Nat) : Nat := ((f : Int) + (2 * ((g : Int) - f) * i + n) / (2 * n)).toNat
theorem posN_le {f g i n b : Nat} (hi : 1 ≤ i) (hn : i ≤ n) (hf : f ≤ b) (hg : g ≤ b) : posN f g i n ≤ b := by
  obtain ⟨h1, h2⟩ := fl_bounds (d := (g : Int) - f) (i := i) (n := n) (by omega) (by omega)
  rw [posN]
  by_cases h : 0 ≤ (g : Int) - f
  · have := h1 h; omega
  · have := h2 (by omega); omega
theorem along_spec {N f g i n : Nat} (hi : 1 ≤ i) (hn : i ≤ n) (hn1 : n ≤ 100) (hf : f ≤ 100) (hg : g ≤ 100) :
    fX1_along N (nI f) (nI g - nI f) (nI i) (nI n) = some (nI (posN f g i n)) ∧ ∃ w, fX7_floor N (2 * (nI g - nI f) * nI i + nI n) (2 * nI n) = some w ∧ nI f + w = nI (posN f g i n) := by
  have hd : (nI g - nI f).toInt = (g : Int) - f := pk_sub_toInt (by omega) (by omega)
  have e2 : (2 : Int32).toInt = 2 := rfl
  have hni : (nI i).toInt = (i : Int) := nI_toInt (by omega)
  have hnn : (nI n).toInt = (n : Int) := nI_toInt (by omega)
  have hnf : (nI f).toInt = (f : Int) := nI_toInt (by omega)
  have hb : -20000 ≤ 2 * ((g : Int) - f) * i ∧ 2 * ((g : Int) - f) * i ≤ 20000 := by
    constructor
    · have h1 : (-200) * (i : Int) ≤ 2 * ((g : Int) - f) * i := Int.mul_le_mul_of_nonneg_right (by omega) (by omega)
      omega
    · have h1 : 2 * ((g : Int) - f) * i ≤ 200 * (i : Int) := Int.mul_le_mul_of_nonneg_right (by omega) (by omega)
      omega
  have hA : (2 * (nI g - nI f) * nI i + nI n).toInt = 2 * ((g : Int) - f) * i + n := by
    rw [Int32.toInt_add, Int32.toInt_mul, Int32.toInt_mul, hd, e2, hni, hnn, i32b (x := 2 * ((g : Int) - f)) (by omega) (by omega), i32b (x := 2 * ((g : Int) - f) * i) (by omega) (by omega), i32b (by omega) (by omega)]
  have hB : (2 * nI n).toInt = 2 * (n : Int) := by rw [Int32.toInt_mul, e2, hnn, i32b (by omega) (by omega)]
  obtain ⟨w, h1, h2, h3⟩ := floor_spec (N := N) (A := 2 * (nI g - nI f) * nI i + nI n) (B := 2 * nI n) (by omega) (by omega) (by omega) (by omega)
  obtain ⟨k1, k2⟩ := fl_bounds (d := (g : Int) - f) (i := i) (n := n) (by omega) (by omega)
  rw [hA, hB] at h3
  have hp : nI f + w = nI (posN f g i n) := by
    have hle := posN_le (b := 100) hi hn hf hg
    rw [← Int32.toInt_inj, nI_toInt (by omega), Int32.toInt_add, h3, hnf]
    have hr : 0 ≤ (f : Int) + (2 * ((g : Int) - f) * i + n) / (2 * n) ∧ (f : Int) + (2 * ((g : Int) - f) * i + n) / (2 * n) ≤ 100 := by
      by_cases h : 0 ≤ (g : Int) - f
      · have := k1 h; omega
      · have := k2 (by omega); omega
    rw [i32b (by omega) (by omega), posN]
    omega
  refine ⟨?_, w, h2, hp⟩
  rw [fX1_along, if_neg (nI_nle (by omega) (by omega)), h1, Option.bind_some, hp]
