/-! Numbers: comparisons as whole numbers; truth values. -/
theorem ti_0 : (0 : Int32).toInt = 0 := by decide +kernel
theorem ti_1 : (1 : Int32).toInt = 1 := by decide +kernel
theorem ti_2 : (2 : Int32).toInt = 2 := by decide +kernel
theorem ti_3 : (3 : Int32).toInt = 3 := by decide +kernel
theorem ti_4 : (4 : Int32).toInt = 4 := by decide +kernel
theorem ti_5 : (5 : Int32).toInt = 5 := by decide +kernel
theorem ti_6 : (6 : Int32).toInt = 6 := by decide +kernel
theorem ti_10 : (10 : Int32).toInt = 10 := by decide +kernel
theorem ti_12 : (12 : Int32).toInt = 12 := by decide +kernel
theorem ti_200 : (200 : Int32).toInt = 200 := by decide +kernel
theorem ti_400 : (400 : Int32).toInt = 400 := by decide +kernel
theorem ti_500 : (500 : Int32).toInt = 500 := by decide +kernel
theorem ti_999 : (999 : Int32).toInt = 999 := by decide +kernel
theorem ti_2400 : (2400 : Int32).toInt = 2400 := by decide +kernel
theorem ti_9999 : (9999 : Int32).toInt = 9999 := by decide +kernel
theorem ti_m1 : (-1 : Int32).toInt = -1 := by decide +kernel
theorem ti_m9999 : (-9999 : Int32).toInt = -9999 := by decide +kernel
theorem ti_m20000 : (-20000 : Int32).toInt = -20000 := by decide +kernel
theorem li_0 : (0 : Int64).toInt = 0 := by decide +kernel
theorem li_1 : (1 : Int64).toInt = 1 := by decide +kernel
theorem li_2 : (2 : Int64).toInt = 2 := by decide +kernel
theorem li_3 : (3 : Int64).toInt = 3 := by decide +kernel
theorem li_4 : (4 : Int64).toInt = 4 := by decide +kernel
theorem li_5 : (5 : Int64).toInt = 5 := by decide +kernel
theorem li_10 : (10 : Int64).toInt = 10 := by decide +kernel
theorem li_12 : (12 : Int64).toInt = 12 := by decide +kernel
theorem li_15 : (15 : Int64).toInt = 15 := by decide +kernel
theorem li_48 : (48 : Int64).toInt = 48 := by decide +kernel
theorem li_57 : (57 : Int64).toInt = 57 := by decide +kernel
theorem li_200 : (200 : Int64).toInt = 200 := by decide +kernel
theorem li_500 : (500 : Int64).toInt = 500 := by decide +kernel
theorem li_999 : (999 : Int64).toInt = 999 := by decide +kernel
theorem li_2400 : (2400 : Int64).toInt = 2400 := by decide +kernel
theorem li_9999 : (9999 : Int64).toInt = 9999 := by decide +kernel
theorem li_11999 : (11999 : Int64).toInt = 11999 := by decide +kernel
theorem li_m9999 : (-9999 : Int64).toInt = -9999 := by decide +kernel
theorem lg_lt (x y : Int64) : (lg_cmp x y < 0) ↔ x < y := by
  unfold lg_cmp
  by_cases h : x > y
  · rw [if_pos h]
    have h2 : ¬ x < y := by rw [Int64.lt_iff_toInt_lt] at *; have := Int64.lt_iff_toInt_lt.mp h; omega
    exact ⟨fun z => absurd z (by decide), fun z => absurd z h2⟩
  · rw [if_neg h]
    by_cases e : x = y
    · subst e
      rw [if_pos rfl]
      exact ⟨fun z => absurd z (by decide), fun z => absurd z (by rw [Int64.lt_iff_toInt_lt]; omega)⟩
    · rw [if_neg e]
      refine ⟨fun _ => ?_, fun _ => by decide⟩
      have h1 : ¬ y.toInt < x.toInt := fun z => h (Int64.lt_iff_toInt_lt.mpr z)
      have h2 : x.toInt ≠ y.toInt := fun z => e (Int64.toInt_inj.mp z)
      rw [Int64.lt_iff_toInt_lt]
      omega
theorem lg_gt (x y : Int64) : (0 < lg_cmp x y) ↔ y < x := by
  unfold lg_cmp
  by_cases h : x > y
  · rw [if_pos h]
    exact ⟨fun _ => h, fun _ => by decide⟩
  · rw [if_neg h]
    refine ⟨fun z => ?_, fun z => absurd z h⟩
    by_cases e : x = y
    · rw [if_pos e] at z; exact absurd z (by decide)
    · rw [if_neg e] at z; exact absurd z (by decide)
theorem lg_ge (x y : Int64) : (0 ≤ lg_cmp x y) ↔ y ≤ x := lg_cmp_ge x y
theorem lg_le (x y : Int64) : (lg_cmp x y ≤ 0) ↔ x ≤ y := by
  have h := lg_gt x y
  constructor
  · intro z
    rw [Int64.le_iff_toInt_le]
    rcases (show y.toInt < x.toInt ∨ x.toInt ≤ y.toInt by omega) with q | q
    · have := h.mpr (Int64.lt_iff_toInt_lt.mpr q)
      rw [Int32.lt_iff_toInt_lt] at this
      rw [Int32.le_iff_toInt_le] at z
      omega
    · exact q
  · intro z
    rw [Int64.le_iff_toInt_le] at z
    rw [Int32.le_iff_toInt_le]
    rcases (show (0 : Int32).toInt < (lg_cmp x y).toInt ∨ (lg_cmp x y).toInt ≤ (0 : Int32).toInt by omega) with q | q
    · have := Int64.lt_iff_toInt_lt.mp (h.mp (Int32.lt_iff_toInt_lt.mpr q))
      omega
    · exact q
theorem i64_toInt (x : Int32) : x.toInt64.toInt = x.toInt := by simp
/-- a truth value -/
def bI (P : Prop) [Decidable P] : Int32 := if P then 1 else 0
theorem bI_1 {P : Prop} [Decidable P] (h : P) : bI P = 1 := if_pos h
theorem bI_0 {P : Prop} [Decidable P] (h : ¬ P) : bI P = 0 := if_neg h
theorem bI_nar (P : Prop) [Decidable P] : narrow .boolean (.int (bI P)) = .int (bI P) := by unfold bI; split <;> rfl
theorem bI_n0 {P : Prop} [Decidable P] : (¬ bI P = 0) ↔ P := by
  unfold bI
  split
  · rename_i h; exact ⟨fun _ => h, fun _ => by decide⟩
  · rename_i h; exact ⟨fun z => absurd rfl z, fun z => absurd z h⟩
theorem bI_e0 {P : Prop} [Decidable P] : (bI P = 0) ↔ ¬ P := by
  exact ⟨fun h z => (bI_n0.mpr z) h, fun h => Classical.byContradiction (fun z => h (bI_n0.mp z))⟩
theorem bI_e1 {P : Prop} [Decidable P] : (bI P = 1) ↔ P := by
  unfold bI
  split
  · rename_i h; exact ⟨fun _ => h, fun _ => rfl⟩
  · rename_i h; exact ⟨fun z => absurd z (by decide), fun z => absurd z h⟩
theorem bI_iff {P Q : Prop} [Decidable P] [Decidable Q] (h : P ↔ Q) : bI P = bI Q := by
  by_cases hP : P
  · rw [bI_1 hP, bI_1 (h.mp hP)]
  · rw [bI_0 hP, bI_0 (fun q => hP (h.mpr q))]
/-- a number among the first n -/
theorem nI_ex {x : Int32} {n : Nat} (h : 0 ≤ x.toInt ∧ x.toInt < n) : ∃ j : Nat, j < n ∧ x = nI j := by
  have h0 : ¬ x < 0 := by rw [Int32.lt_iff_toInt_lt, ti_0]; omega
  obtain ⟨j, hj, e⟩ := nI_of h0
  refine ⟨j, ?_, e⟩
  have := nI_toInt hj
  rw [← e] at this
  omega
theorem nI_inj {a b : Nat} (ha : a < 2 ^ 31) (hb : b < 2 ^ 31) (h : nI a = nI b) : a = b := (nI_eq ha hb).mp h
