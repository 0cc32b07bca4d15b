/-! Small questions of the class (object 0) and of the reference (object 165). -/
set_option maxRecDepth 100000 in
set_option maxHeartbeats 4000000 in
theorem mX10_isPerson (d : Nat) (h : mm_H) (p : Int32) : mm_M d YX10_isPerson [.int p] h (some (.int (bI (0 ≤ p.toInt ∧ p.toInt < 6)))) h := by
  refine mm_M.of [some (.int p)] rfl rfl (Nat.le_of_ble_eq_true rfl) ?_
  refine mm_iload_n dX10_isPerson_0 rfl rfl ?_
  refine mm_if_lt 14 dX10_isPerson_1 (by decide) (fun c_1 => ?_) (fun c_1 => ?_)
  · refine mm_iconst (x := 0) dX10_isPerson_14 (by decide) ?_
    exact mm_zretE dX10_isPerson_15 rfl (bI_nar _) (by first | exact (bI_1 (by (try simp only [lg_lt, lg_ge, lg_gt, lg_le] at *); simp only [Int32.lt_iff_toInt_lt, Int32.le_iff_toInt_le, Int64.lt_iff_toInt_lt, Int64.le_iff_toInt_le, ti_0, ti_1, ti_2, ti_3, ti_4, ti_5, ti_6, ti_10, ti_12, ti_200, ti_400, ti_500, ti_999, ti_2400, ti_9999, ti_m9999, ti_m20000, ti_m1, i64_toInt, li_0, li_1, li_2, li_3, li_4, li_5, li_10, li_12, li_15, li_48, li_57, li_200, li_500, li_999, li_2400, li_9999, li_m9999, li_11999] at *; omega)).symm | exact (bI_0 (by (try simp only [lg_lt, lg_ge, lg_gt, lg_le] at *); simp only [Int32.lt_iff_toInt_lt, Int32.le_iff_toInt_le, Int64.lt_iff_toInt_lt, Int64.le_iff_toInt_le, ti_0, ti_1, ti_2, ti_3, ti_4, ti_5, ti_6, ti_10, ti_12, ti_200, ti_400, ti_500, ti_999, ti_2400, ti_9999, ti_m9999, ti_m20000, ti_m1, i64_toInt, li_0, li_1, li_2, li_3, li_4, li_5, li_10, li_12, li_15, li_48, li_57, li_200, li_500, li_999, li_2400, li_9999, li_m9999, li_11999] at *; omega)).symm) rfl
  · refine mm_iload_n dX10_isPerson_4 rfl rfl ?_
    refine mm_bipush (x := 6) dX10_isPerson_5 (by decide) ?_
    refine mm_icmp_ge 14 dX10_isPerson_7 (by decide) (fun c_7 => ?_) (fun c_7 => ?_)
    · refine mm_iconst (x := 0) dX10_isPerson_14 (by decide) ?_
      exact mm_zretE dX10_isPerson_15 rfl (bI_nar _) (by first | exact (bI_1 (by (try simp only [lg_lt, lg_ge, lg_gt, lg_le] at *); simp only [Int32.lt_iff_toInt_lt, Int32.le_iff_toInt_le, Int64.lt_iff_toInt_lt, Int64.le_iff_toInt_le, ti_0, ti_1, ti_2, ti_3, ti_4, ti_5, ti_6, ti_10, ti_12, ti_200, ti_400, ti_500, ti_999, ti_2400, ti_9999, ti_m9999, ti_m20000, ti_m1, i64_toInt, li_0, li_1, li_2, li_3, li_4, li_5, li_10, li_12, li_15, li_48, li_57, li_200, li_500, li_999, li_2400, li_9999, li_m9999, li_11999] at *; omega)).symm | exact (bI_0 (by (try simp only [lg_lt, lg_ge, lg_gt, lg_le] at *); simp only [Int32.lt_iff_toInt_lt, Int32.le_iff_toInt_le, Int64.lt_iff_toInt_lt, Int64.le_iff_toInt_le, ti_0, ti_1, ti_2, ti_3, ti_4, ti_5, ti_6, ti_10, ti_12, ti_200, ti_400, ti_500, ti_999, ti_2400, ti_9999, ti_m9999, ti_m20000, ti_m1, i64_toInt, li_0, li_1, li_2, li_3, li_4, li_5, li_10, li_12, li_15, li_48, li_57, li_200, li_500, li_999, li_2400, li_9999, li_m9999, li_11999] at *; omega)).symm) rfl
    · refine mm_iconst (x := 1) dX10_isPerson_10 (by decide) ?_
      refine mm_goto 15 dX10_isPerson_11 (by decide) ?_
      exact mm_zretE dX10_isPerson_15 rfl (bI_nar _) (by first | exact (bI_1 (by (try simp only [lg_lt, lg_ge, lg_gt, lg_le] at *); simp only [Int32.lt_iff_toInt_lt, Int32.le_iff_toInt_le, Int64.lt_iff_toInt_lt, Int64.le_iff_toInt_le, ti_0, ti_1, ti_2, ti_3, ti_4, ti_5, ti_6, ti_10, ti_12, ti_200, ti_400, ti_500, ti_999, ti_2400, ti_9999, ti_m9999, ti_m20000, ti_m1, i64_toInt, li_0, li_1, li_2, li_3, li_4, li_5, li_10, li_12, li_15, li_48, li_57, li_200, li_500, li_999, li_2400, li_9999, li_m9999, li_11999] at *; omega)).symm | exact (bI_0 (by (try simp only [lg_lt, lg_ge, lg_gt, lg_le] at *); simp only [Int32.lt_iff_toInt_lt, Int32.le_iff_toInt_le, Int64.lt_iff_toInt_lt, Int64.le_iff_toInt_le, ti_0, ti_1, ti_2, ti_3, ti_4, ti_5, ti_6, ti_10, ti_12, ti_200, ti_400, ti_500, ti_999, ti_2400, ti_9999, ti_m9999, ti_m20000, ti_m1, i64_toInt, li_0, li_1, li_2, li_3, li_4, li_5, li_10, li_12, li_15, li_48, li_57, li_200, li_500, li_999, li_2400, li_9999, li_m9999, li_11999] at *; omega)).symm) rfl
set_option maxRecDepth 100000 in
set_option maxHeartbeats 4000000 in
theorem mX10_isPrice (d : Nat) (h : mm_H) (p : Int32) : mm_M d YX10_isPrice [.int p] h (some (.int (bI (0 ≤ p.toInt ∧ p.toInt ≤ 9999)))) h := by
  refine mm_M.of [some (.int p)] rfl rfl (Nat.le_of_ble_eq_true rfl) ?_
  refine mm_iload_n dX10_isPrice_0 rfl rfl ?_
  refine mm_if_lt 15 dX10_isPrice_1 (by decide) (fun c_1 => ?_) (fun c_1 => ?_)
  · refine mm_iconst (x := 0) dX10_isPrice_15 (by decide) ?_
    exact mm_zretE dX10_isPrice_16 rfl (bI_nar _) (by first | exact (bI_1 (by (try simp only [lg_lt, lg_ge, lg_gt, lg_le] at *); simp only [Int32.lt_iff_toInt_lt, Int32.le_iff_toInt_le, Int64.lt_iff_toInt_lt, Int64.le_iff_toInt_le, ti_0, ti_1, ti_2, ti_3, ti_4, ti_5, ti_6, ti_10, ti_12, ti_200, ti_400, ti_500, ti_999, ti_2400, ti_9999, ti_m9999, ti_m20000, ti_m1, i64_toInt, li_0, li_1, li_2, li_3, li_4, li_5, li_10, li_12, li_15, li_48, li_57, li_200, li_500, li_999, li_2400, li_9999, li_m9999, li_11999] at *; omega)).symm | exact (bI_0 (by (try simp only [lg_lt, lg_ge, lg_gt, lg_le] at *); simp only [Int32.lt_iff_toInt_lt, Int32.le_iff_toInt_le, Int64.lt_iff_toInt_lt, Int64.le_iff_toInt_le, ti_0, ti_1, ti_2, ti_3, ti_4, ti_5, ti_6, ti_10, ti_12, ti_200, ti_400, ti_500, ti_999, ti_2400, ti_9999, ti_m9999, ti_m20000, ti_m1, i64_toInt, li_0, li_1, li_2, li_3, li_4, li_5, li_10, li_12, li_15, li_48, li_57, li_200, li_500, li_999, li_2400, li_9999, li_m9999, li_11999] at *; omega)).symm) rfl
  · refine mm_iload_n dX10_isPrice_4 rfl rfl ?_
    refine mm_sipush (x := 9999) dX10_isPrice_5 (by decide) ?_
    refine mm_icmp_gt 15 dX10_isPrice_8 (by decide) (fun c_8 => ?_) (fun c_8 => ?_)
    · refine mm_iconst (x := 0) dX10_isPrice_15 (by decide) ?_
      exact mm_zretE dX10_isPrice_16 rfl (bI_nar _) (by first | exact (bI_1 (by (try simp only [lg_lt, lg_ge, lg_gt, lg_le] at *); simp only [Int32.lt_iff_toInt_lt, Int32.le_iff_toInt_le, Int64.lt_iff_toInt_lt, Int64.le_iff_toInt_le, ti_0, ti_1, ti_2, ti_3, ti_4, ti_5, ti_6, ti_10, ti_12, ti_200, ti_400, ti_500, ti_999, ti_2400, ti_9999, ti_m9999, ti_m20000, ti_m1, i64_toInt, li_0, li_1, li_2, li_3, li_4, li_5, li_10, li_12, li_15, li_48, li_57, li_200, li_500, li_999, li_2400, li_9999, li_m9999, li_11999] at *; omega)).symm | exact (bI_0 (by (try simp only [lg_lt, lg_ge, lg_gt, lg_le] at *); simp only [Int32.lt_iff_toInt_lt, Int32.le_iff_toInt_le, Int64.lt_iff_toInt_lt, Int64.le_iff_toInt_le, ti_0, ti_1, ti_2, ti_3, ti_4, ti_5, ti_6, ti_10, ti_12, ti_200, ti_400, ti_500, ti_999, ti_2400, ti_9999, ti_m9999, ti_m20000, ti_m1, i64_toInt, li_0, li_1, li_2, li_3, li_4, li_5, li_10, li_12, li_15, li_48, li_57, li_200, li_500, li_999, li_2400, li_9999, li_m9999, li_11999] at *; omega)).symm) rfl
    · refine mm_iconst (x := 1) dX10_isPrice_11 (by decide) ?_
      refine mm_goto 16 dX10_isPrice_12 (by decide) ?_
      exact mm_zretE dX10_isPrice_16 rfl (bI_nar _) (by first | exact (bI_1 (by (try simp only [lg_lt, lg_ge, lg_gt, lg_le] at *); simp only [Int32.lt_iff_toInt_lt, Int32.le_iff_toInt_le, Int64.lt_iff_toInt_lt, Int64.le_iff_toInt_le, ti_0, ti_1, ti_2, ti_3, ti_4, ti_5, ti_6, ti_10, ti_12, ti_200, ti_400, ti_500, ti_999, ti_2400, ti_9999, ti_m9999, ti_m20000, ti_m1, i64_toInt, li_0, li_1, li_2, li_3, li_4, li_5, li_10, li_12, li_15, li_48, li_57, li_200, li_500, li_999, li_2400, li_9999, li_m9999, li_11999] at *; omega)).symm | exact (bI_0 (by (try simp only [lg_lt, lg_ge, lg_gt, lg_le] at *); simp only [Int32.lt_iff_toInt_lt, Int32.le_iff_toInt_le, Int64.lt_iff_toInt_lt, Int64.le_iff_toInt_le, ti_0, ti_1, ti_2, ti_3, ti_4, ti_5, ti_6, ti_10, ti_12, ti_200, ti_400, ti_500, ti_999, ti_2400, ti_9999, ti_m9999, ti_m20000, ti_m1, i64_toInt, li_0, li_1, li_2, li_3, li_4, li_5, li_10, li_12, li_15, li_48, li_57, li_200, li_500, li_999, li_2400, li_9999, li_m9999, li_11999] at *; omega)).symm) rfl
set_option maxRecDepth 100000 in
set_option maxHeartbeats 4000000 in
theorem mX10_isLaw (d : Nat) (h : mm_H) (n : Nat) (hn : h.1 0 6 = nI n) (h6 : n ≤ 6) (c : Int32) : mm_M d YX10_isLaw [.ref 0, .int c] h (some (.int (bI (0 ≤ c.toInt ∧ c.toInt < n)))) h := by
  refine mm_M.of [some (.ref 0), some (.int c)] rfl rfl (Nat.le_of_ble_eq_true rfl) ?_
  refine mm_iload_n dX10_isLaw_0 rfl rfl ?_
  refine mm_if_lt 16 dX10_isLaw_1 (by decide) (fun c_1 => ?_) (fun c_1 => ?_)
  · refine mm_iconst (x := 0) dX10_isLaw_16 (by decide) ?_
    exact mm_zretE dX10_isLaw_17 rfl (bI_nar _) (by first | exact (bI_1 (by (try simp only [lg_lt, lg_ge, lg_gt, lg_le] at *); simp only [hn, nI_toInt (show n < 2 ^ 31 by omega), Int32.lt_iff_toInt_lt, Int32.le_iff_toInt_le, Int64.lt_iff_toInt_lt, Int64.le_iff_toInt_le, ti_0, ti_1, ti_2, ti_3, ti_4, ti_5, ti_6, ti_10, ti_12, ti_200, ti_400, ti_500, ti_999, ti_2400, ti_9999, ti_m9999, ti_m20000, ti_m1, i64_toInt, li_0, li_1, li_2, li_3, li_4, li_5, li_10, li_12, li_15, li_48, li_57, li_200, li_500, li_999, li_2400, li_9999, li_m9999, li_11999] at *; omega)).symm | exact (bI_0 (by (try simp only [lg_lt, lg_ge, lg_gt, lg_le] at *); simp only [hn, nI_toInt (show n < 2 ^ 31 by omega), Int32.lt_iff_toInt_lt, Int32.le_iff_toInt_le, Int64.lt_iff_toInt_lt, Int64.le_iff_toInt_le, ti_0, ti_1, ti_2, ti_3, ti_4, ti_5, ti_6, ti_10, ti_12, ti_200, ti_400, ti_500, ti_999, ti_2400, ti_9999, ti_m9999, ti_m20000, ti_m1, i64_toInt, li_0, li_1, li_2, li_3, li_4, li_5, li_10, li_12, li_15, li_48, li_57, li_200, li_500, li_999, li_2400, li_9999, li_m9999, li_11999] at *; omega)).symm) rfl
  · refine mm_iload_n dX10_isLaw_4 rfl rfl ?_
    refine mm_aload_n dX10_isLaw_5 rfl rfl ?_
    refine mm_getI dX10_isLaw_6 fX10_120 sh_0 rfl ?_
    refine mm_icmp_ge 16 dX10_isLaw_9 (by decide) (fun c_9 => ?_) (fun c_9 => ?_)
    · refine mm_iconst (x := 0) dX10_isLaw_16 (by decide) ?_
      exact mm_zretE dX10_isLaw_17 rfl (bI_nar _) (by first | exact (bI_1 (by (try simp only [lg_lt, lg_ge, lg_gt, lg_le] at *); simp only [hn, nI_toInt (show n < 2 ^ 31 by omega), Int32.lt_iff_toInt_lt, Int32.le_iff_toInt_le, Int64.lt_iff_toInt_lt, Int64.le_iff_toInt_le, ti_0, ti_1, ti_2, ti_3, ti_4, ti_5, ti_6, ti_10, ti_12, ti_200, ti_400, ti_500, ti_999, ti_2400, ti_9999, ti_m9999, ti_m20000, ti_m1, i64_toInt, li_0, li_1, li_2, li_3, li_4, li_5, li_10, li_12, li_15, li_48, li_57, li_200, li_500, li_999, li_2400, li_9999, li_m9999, li_11999] at *; omega)).symm | exact (bI_0 (by (try simp only [lg_lt, lg_ge, lg_gt, lg_le] at *); simp only [hn, nI_toInt (show n < 2 ^ 31 by omega), Int32.lt_iff_toInt_lt, Int32.le_iff_toInt_le, Int64.lt_iff_toInt_lt, Int64.le_iff_toInt_le, ti_0, ti_1, ti_2, ti_3, ti_4, ti_5, ti_6, ti_10, ti_12, ti_200, ti_400, ti_500, ti_999, ti_2400, ti_9999, ti_m9999, ti_m20000, ti_m1, i64_toInt, li_0, li_1, li_2, li_3, li_4, li_5, li_10, li_12, li_15, li_48, li_57, li_200, li_500, li_999, li_2400, li_9999, li_m9999, li_11999] at *; omega)).symm) rfl
    · refine mm_iconst (x := 1) dX10_isLaw_12 (by decide) ?_
      refine mm_goto 17 dX10_isLaw_13 (by decide) ?_
      exact mm_zretE dX10_isLaw_17 rfl (bI_nar _) (by first | exact (bI_1 (by (try simp only [lg_lt, lg_ge, lg_gt, lg_le] at *); simp only [hn, nI_toInt (show n < 2 ^ 31 by omega), Int32.lt_iff_toInt_lt, Int32.le_iff_toInt_le, Int64.lt_iff_toInt_lt, Int64.le_iff_toInt_le, ti_0, ti_1, ti_2, ti_3, ti_4, ti_5, ti_6, ti_10, ti_12, ti_200, ti_400, ti_500, ti_999, ti_2400, ti_9999, ti_m9999, ti_m20000, ti_m1, i64_toInt, li_0, li_1, li_2, li_3, li_4, li_5, li_10, li_12, li_15, li_48, li_57, li_200, li_500, li_999, li_2400, li_9999, li_m9999, li_11999] at *; omega)).symm | exact (bI_0 (by (try simp only [lg_lt, lg_ge, lg_gt, lg_le] at *); simp only [hn, nI_toInt (show n < 2 ^ 31 by omega), Int32.lt_iff_toInt_lt, Int32.le_iff_toInt_le, Int64.lt_iff_toInt_lt, Int64.le_iff_toInt_le, ti_0, ti_1, ti_2, ti_3, ti_4, ti_5, ti_6, ti_10, ti_12, ti_200, ti_400, ti_500, ti_999, ti_2400, ti_9999, ti_m9999, ti_m20000, ti_m1, i64_toInt, li_0, li_1, li_2, li_3, li_4, li_5, li_10, li_12, li_15, li_48, li_57, li_200, li_500, li_999, li_2400, li_9999, li_m9999, li_11999] at *; omega)).symm) rfl
set_option maxRecDepth 100000 in
set_option maxHeartbeats 4000000 in
theorem mX10_isCoin (d : Nat) (h : mm_H) (n : Nat) (hn : h.1 65 0 = nI n) (h12 : n ≤ 12) (c : Int32) : mm_M d YX10_isCoin [.ref 0, .int c] h (some (.int (bI (0 ≤ c.toInt ∧ c.toInt < n)))) h := by
  refine mm_M.of [some (.ref 0), some (.int c)] rfl rfl (Nat.le_of_ble_eq_true rfl) ?_
  refine mm_iload_n dX10_isCoin_0 rfl rfl ?_
  refine mm_if_lt 22 dX10_isCoin_1 (by decide) (fun c_1 => ?_) (fun c_1 => ?_)
  · refine mm_iconst (x := 0) dX10_isCoin_22 (by decide) ?_
    exact mm_zretE dX10_isCoin_23 rfl (bI_nar _) (by first | exact (bI_1 (by (try simp only [lg_lt, lg_ge, lg_gt, lg_le] at *); simp only [hn, nI_toInt (show n < 2 ^ 31 by omega), Int32.lt_iff_toInt_lt, Int32.le_iff_toInt_le, Int64.lt_iff_toInt_lt, Int64.le_iff_toInt_le, ti_0, ti_1, ti_2, ti_3, ti_4, ti_5, ti_6, ti_10, ti_12, ti_200, ti_400, ti_500, ti_999, ti_2400, ti_9999, ti_m9999, ti_m20000, ti_m1, i64_toInt, li_0, li_1, li_2, li_3, li_4, li_5, li_10, li_12, li_15, li_48, li_57, li_200, li_500, li_999, li_2400, li_9999, li_m9999, li_11999] at *; omega)).symm | exact (bI_0 (by (try simp only [lg_lt, lg_ge, lg_gt, lg_le] at *); simp only [hn, nI_toInt (show n < 2 ^ 31 by omega), Int32.lt_iff_toInt_lt, Int32.le_iff_toInt_le, Int64.lt_iff_toInt_lt, Int64.le_iff_toInt_le, ti_0, ti_1, ti_2, ti_3, ti_4, ti_5, ti_6, ti_10, ti_12, ti_200, ti_400, ti_500, ti_999, ti_2400, ti_9999, ti_m9999, ti_m20000, ti_m1, i64_toInt, li_0, li_1, li_2, li_3, li_4, li_5, li_10, li_12, li_15, li_48, li_57, li_200, li_500, li_999, li_2400, li_9999, li_m9999, li_11999] at *; omega)).symm) rfl
  · refine mm_iload_n dX10_isCoin_4 rfl rfl ?_
    refine mm_aload_n dX10_isCoin_5 rfl rfl ?_
    refine mm_getS dX10_isCoin_6 fX10_45 sh_0 rfl gr_0_7 ?_
    refine mm_getS dX10_isCoin_9 fX10_63 sh_61 rfl gr_61_0 ?_
    refine mm_getI dX10_isCoin_12 fX10_117 sh_65 rfl ?_
    refine mm_icmp_ge 22 dX10_isCoin_15 (by decide) (fun c_15 => ?_) (fun c_15 => ?_)
    · refine mm_iconst (x := 0) dX10_isCoin_22 (by decide) ?_
      exact mm_zretE dX10_isCoin_23 rfl (bI_nar _) (by first | exact (bI_1 (by (try simp only [lg_lt, lg_ge, lg_gt, lg_le] at *); simp only [hn, nI_toInt (show n < 2 ^ 31 by omega), Int32.lt_iff_toInt_lt, Int32.le_iff_toInt_le, Int64.lt_iff_toInt_lt, Int64.le_iff_toInt_le, ti_0, ti_1, ti_2, ti_3, ti_4, ti_5, ti_6, ti_10, ti_12, ti_200, ti_400, ti_500, ti_999, ti_2400, ti_9999, ti_m9999, ti_m20000, ti_m1, i64_toInt, li_0, li_1, li_2, li_3, li_4, li_5, li_10, li_12, li_15, li_48, li_57, li_200, li_500, li_999, li_2400, li_9999, li_m9999, li_11999] at *; omega)).symm | exact (bI_0 (by (try simp only [lg_lt, lg_ge, lg_gt, lg_le] at *); simp only [hn, nI_toInt (show n < 2 ^ 31 by omega), Int32.lt_iff_toInt_lt, Int32.le_iff_toInt_le, Int64.lt_iff_toInt_lt, Int64.le_iff_toInt_le, ti_0, ti_1, ti_2, ti_3, ti_4, ti_5, ti_6, ti_10, ti_12, ti_200, ti_400, ti_500, ti_999, ti_2400, ti_9999, ti_m9999, ti_m20000, ti_m1, i64_toInt, li_0, li_1, li_2, li_3, li_4, li_5, li_10, li_12, li_15, li_48, li_57, li_200, li_500, li_999, li_2400, li_9999, li_m9999, li_11999] at *; omega)).symm) rfl
    · refine mm_iconst (x := 1) dX10_isCoin_18 (by decide) ?_
      refine mm_goto 23 dX10_isCoin_19 (by decide) ?_
      exact mm_zretE dX10_isCoin_23 rfl (bI_nar _) (by first | exact (bI_1 (by (try simp only [lg_lt, lg_ge, lg_gt, lg_le] at *); simp only [hn, nI_toInt (show n < 2 ^ 31 by omega), Int32.lt_iff_toInt_lt, Int32.le_iff_toInt_le, Int64.lt_iff_toInt_lt, Int64.le_iff_toInt_le, ti_0, ti_1, ti_2, ti_3, ti_4, ti_5, ti_6, ti_10, ti_12, ti_200, ti_400, ti_500, ti_999, ti_2400, ti_9999, ti_m9999, ti_m20000, ti_m1, i64_toInt, li_0, li_1, li_2, li_3, li_4, li_5, li_10, li_12, li_15, li_48, li_57, li_200, li_500, li_999, li_2400, li_9999, li_m9999, li_11999] at *; omega)).symm | exact (bI_0 (by (try simp only [lg_lt, lg_ge, lg_gt, lg_le] at *); simp only [hn, nI_toInt (show n < 2 ^ 31 by omega), Int32.lt_iff_toInt_lt, Int32.le_iff_toInt_le, Int64.lt_iff_toInt_lt, Int64.le_iff_toInt_le, ti_0, ti_1, ti_2, ti_3, ti_4, ti_5, ti_6, ti_10, ti_12, ti_200, ti_400, ti_500, ti_999, ti_2400, ti_9999, ti_m9999, ti_m20000, ti_m1, i64_toInt, li_0, li_1, li_2, li_3, li_4, li_5, li_10, li_12, li_15, li_48, li_57, li_200, li_500, li_999, li_2400, li_9999, li_m9999, li_11999] at *; omega)).symm) rfl
set_option maxRecDepth 100000 in
set_option maxHeartbeats 4000000 in
theorem mX10_isCounter (d : Nat) (h : mm_H) (n : Nat) (hn : h.1 65 7 = nI n) (h4 : n ≤ 4) (c : Int32) : mm_M d YX10_isCounter [.ref 0, .int c] h (some (.int (bI (0 ≤ c.toInt ∧ c.toInt < n)))) h := by
  refine mm_M.of [some (.ref 0), some (.int c)] rfl rfl (Nat.le_of_ble_eq_true rfl) ?_
  refine mm_iload_n dX10_isCounter_0 rfl rfl ?_
  refine mm_if_lt 22 dX10_isCounter_1 (by decide) (fun c_1 => ?_) (fun c_1 => ?_)
  · refine mm_iconst (x := 0) dX10_isCounter_22 (by decide) ?_
    exact mm_zretE dX10_isCounter_23 rfl (bI_nar _) (by first | exact (bI_1 (by (try simp only [lg_lt, lg_ge, lg_gt, lg_le] at *); simp only [hn, nI_toInt (show n < 2 ^ 31 by omega), Int32.lt_iff_toInt_lt, Int32.le_iff_toInt_le, Int64.lt_iff_toInt_lt, Int64.le_iff_toInt_le, ti_0, ti_1, ti_2, ti_3, ti_4, ti_5, ti_6, ti_10, ti_12, ti_200, ti_400, ti_500, ti_999, ti_2400, ti_9999, ti_m9999, ti_m20000, ti_m1, i64_toInt, li_0, li_1, li_2, li_3, li_4, li_5, li_10, li_12, li_15, li_48, li_57, li_200, li_500, li_999, li_2400, li_9999, li_m9999, li_11999] at *; omega)).symm | exact (bI_0 (by (try simp only [lg_lt, lg_ge, lg_gt, lg_le] at *); simp only [hn, nI_toInt (show n < 2 ^ 31 by omega), Int32.lt_iff_toInt_lt, Int32.le_iff_toInt_le, Int64.lt_iff_toInt_lt, Int64.le_iff_toInt_le, ti_0, ti_1, ti_2, ti_3, ti_4, ti_5, ti_6, ti_10, ti_12, ti_200, ti_400, ti_500, ti_999, ti_2400, ti_9999, ti_m9999, ti_m20000, ti_m1, i64_toInt, li_0, li_1, li_2, li_3, li_4, li_5, li_10, li_12, li_15, li_48, li_57, li_200, li_500, li_999, li_2400, li_9999, li_m9999, li_11999] at *; omega)).symm) rfl
  · refine mm_iload_n dX10_isCounter_4 rfl rfl ?_
    refine mm_aload_n dX10_isCounter_5 rfl rfl ?_
    refine mm_getS dX10_isCounter_6 fX10_45 sh_0 rfl gr_0_7 ?_
    refine mm_getS dX10_isCounter_9 fX10_63 sh_61 rfl gr_61_0 ?_
    refine mm_getI dX10_isCounter_12 fX10_262 sh_65 rfl ?_
    refine mm_icmp_ge 22 dX10_isCounter_15 (by decide) (fun c_15 => ?_) (fun c_15 => ?_)
    · refine mm_iconst (x := 0) dX10_isCounter_22 (by decide) ?_
      exact mm_zretE dX10_isCounter_23 rfl (bI_nar _) (by first | exact (bI_1 (by (try simp only [lg_lt, lg_ge, lg_gt, lg_le] at *); simp only [hn, nI_toInt (show n < 2 ^ 31 by omega), Int32.lt_iff_toInt_lt, Int32.le_iff_toInt_le, Int64.lt_iff_toInt_lt, Int64.le_iff_toInt_le, ti_0, ti_1, ti_2, ti_3, ti_4, ti_5, ti_6, ti_10, ti_12, ti_200, ti_400, ti_500, ti_999, ti_2400, ti_9999, ti_m9999, ti_m20000, ti_m1, i64_toInt, li_0, li_1, li_2, li_3, li_4, li_5, li_10, li_12, li_15, li_48, li_57, li_200, li_500, li_999, li_2400, li_9999, li_m9999, li_11999] at *; omega)).symm | exact (bI_0 (by (try simp only [lg_lt, lg_ge, lg_gt, lg_le] at *); simp only [hn, nI_toInt (show n < 2 ^ 31 by omega), Int32.lt_iff_toInt_lt, Int32.le_iff_toInt_le, Int64.lt_iff_toInt_lt, Int64.le_iff_toInt_le, ti_0, ti_1, ti_2, ti_3, ti_4, ti_5, ti_6, ti_10, ti_12, ti_200, ti_400, ti_500, ti_999, ti_2400, ti_9999, ti_m9999, ti_m20000, ti_m1, i64_toInt, li_0, li_1, li_2, li_3, li_4, li_5, li_10, li_12, li_15, li_48, li_57, li_200, li_500, li_999, li_2400, li_9999, li_m9999, li_11999] at *; omega)).symm) rfl
    · refine mm_iconst (x := 1) dX10_isCounter_18 (by decide) ?_
      refine mm_goto 23 dX10_isCounter_19 (by decide) ?_
      exact mm_zretE dX10_isCounter_23 rfl (bI_nar _) (by first | exact (bI_1 (by (try simp only [lg_lt, lg_ge, lg_gt, lg_le] at *); simp only [hn, nI_toInt (show n < 2 ^ 31 by omega), Int32.lt_iff_toInt_lt, Int32.le_iff_toInt_le, Int64.lt_iff_toInt_lt, Int64.le_iff_toInt_le, ti_0, ti_1, ti_2, ti_3, ti_4, ti_5, ti_6, ti_10, ti_12, ti_200, ti_400, ti_500, ti_999, ti_2400, ti_9999, ti_m9999, ti_m20000, ti_m1, i64_toInt, li_0, li_1, li_2, li_3, li_4, li_5, li_10, li_12, li_15, li_48, li_57, li_200, li_500, li_999, li_2400, li_9999, li_m9999, li_11999] at *; omega)).symm | exact (bI_0 (by (try simp only [lg_lt, lg_ge, lg_gt, lg_le] at *); simp only [hn, nI_toInt (show n < 2 ^ 31 by omega), Int32.lt_iff_toInt_lt, Int32.le_iff_toInt_le, Int64.lt_iff_toInt_lt, Int64.le_iff_toInt_le, ti_0, ti_1, ti_2, ti_3, ti_4, ti_5, ti_6, ti_10, ti_12, ti_200, ti_400, ti_500, ti_999, ti_2400, ti_9999, ti_m9999, ti_m20000, ti_m1, i64_toInt, li_0, li_1, li_2, li_3, li_4, li_5, li_10, li_12, li_15, li_48, li_57, li_200, li_500, li_999, li_2400, li_9999, li_m9999, li_11999] at *; omega)).symm) rfl
theorem sh1 {n : Nat} (h : n ≤ 12) : (1 : Int32) <<< (nI n &&& 31) = nI (2 ^ n) := by
  have : ∀ n, n < 13 → (1 : Int32) <<< (nI n &&& 31) = nI (2 ^ n) := by decide +kernel
  exact this n (by omega)
theorem p2_lt {n : Nat} (h : n ≤ 12) : 2 ^ n ≤ 4096 := by
  have : ∀ n, n < 13 → 2 ^ n ≤ 4096 := by decide +kernel
  exact this n (by omega)
theorem p2_toInt {n : Nat} (h : n ≤ 12) : (nI (2 ^ n)).toInt = ((2 ^ n : Nat) : Int) := nI_toInt (Nat.lt_of_le_of_lt (p2_lt h) (by decide))
set_option maxRecDepth 100000 in
set_option maxHeartbeats 4000000 in
theorem mX10_isSet (d : Nat) (h : mm_H) (n m : Nat) (hn : h.1 65 0 = nI n) (h12 : n ≤ 12) (hm : h.1 65 7 = nI m) (h4 : m ≤ 4) (c : Int32) : mm_M d YX10_isSet [.ref 0, .int c] h (some (.int (bI (0 < m ∧ 0 ≤ c.toInt ∧ c.toInt < (2 ^ n : Nat))))) h := by
  refine mm_M.of [some (.ref 0), some (.int c)] rfl rfl (Nat.le_of_ble_eq_true rfl) ?_
  refine mm_aload_n dX10_isSet_0 rfl rfl ?_
  refine mm_getS dX10_isSet_1 fX10_45 sh_0 rfl gr_0_7 ?_
  refine mm_getS dX10_isSet_4 fX10_63 sh_61 rfl gr_61_0 ?_
  refine mm_getI dX10_isSet_7 fX10_262 sh_65 rfl ?_
  refine mm_if_le 37 dX10_isSet_10 (by decide) (fun c_10 => ?_) (fun c_10 => ?_)
  · refine mm_iconst (x := 0) dX10_isSet_37 (by decide) ?_
    exact mm_zretE dX10_isSet_38 rfl (bI_nar _) (by first | exact (bI_1 (by (try simp only [lg_lt, lg_ge, lg_gt, lg_le] at *); simp only [hn, hm, sh1 h12, p2_toInt h12, nI_toInt (show m < 2 ^ 31 by omega), Int32.lt_iff_toInt_lt, Int32.le_iff_toInt_le, Int64.lt_iff_toInt_lt, Int64.le_iff_toInt_le, ti_0, ti_1, ti_2, ti_3, ti_4, ti_5, ti_6, ti_10, ti_12, ti_200, ti_400, ti_500, ti_999, ti_2400, ti_9999, ti_m9999, ti_m20000, ti_m1, i64_toInt, li_0, li_1, li_2, li_3, li_4, li_5, li_10, li_12, li_15, li_48, li_57, li_200, li_500, li_999, li_2400, li_9999, li_m9999, li_11999] at *; omega)).symm | exact (bI_0 (by (try simp only [lg_lt, lg_ge, lg_gt, lg_le] at *); simp only [hn, hm, sh1 h12, p2_toInt h12, nI_toInt (show m < 2 ^ 31 by omega), Int32.lt_iff_toInt_lt, Int32.le_iff_toInt_le, Int64.lt_iff_toInt_lt, Int64.le_iff_toInt_le, ti_0, ti_1, ti_2, ti_3, ti_4, ti_5, ti_6, ti_10, ti_12, ti_200, ti_400, ti_500, ti_999, ti_2400, ti_9999, ti_m9999, ti_m20000, ti_m1, i64_toInt, li_0, li_1, li_2, li_3, li_4, li_5, li_10, li_12, li_15, li_48, li_57, li_200, li_500, li_999, li_2400, li_9999, li_m9999, li_11999] at *; omega)).symm) rfl
  · refine mm_iload_n dX10_isSet_13 rfl rfl ?_
    refine mm_if_lt 37 dX10_isSet_14 (by decide) (fun c_14 => ?_) (fun c_14 => ?_)
    · refine mm_iconst (x := 0) dX10_isSet_37 (by decide) ?_
      exact mm_zretE dX10_isSet_38 rfl (bI_nar _) (by first | exact (bI_1 (by (try simp only [lg_lt, lg_ge, lg_gt, lg_le] at *); simp only [hn, hm, sh1 h12, p2_toInt h12, nI_toInt (show m < 2 ^ 31 by omega), Int32.lt_iff_toInt_lt, Int32.le_iff_toInt_le, Int64.lt_iff_toInt_lt, Int64.le_iff_toInt_le, ti_0, ti_1, ti_2, ti_3, ti_4, ti_5, ti_6, ti_10, ti_12, ti_200, ti_400, ti_500, ti_999, ti_2400, ti_9999, ti_m9999, ti_m20000, ti_m1, i64_toInt, li_0, li_1, li_2, li_3, li_4, li_5, li_10, li_12, li_15, li_48, li_57, li_200, li_500, li_999, li_2400, li_9999, li_m9999, li_11999] at *; omega)).symm | exact (bI_0 (by (try simp only [lg_lt, lg_ge, lg_gt, lg_le] at *); simp only [hn, hm, sh1 h12, p2_toInt h12, nI_toInt (show m < 2 ^ 31 by omega), Int32.lt_iff_toInt_lt, Int32.le_iff_toInt_le, Int64.lt_iff_toInt_lt, Int64.le_iff_toInt_le, ti_0, ti_1, ti_2, ti_3, ti_4, ti_5, ti_6, ti_10, ti_12, ti_200, ti_400, ti_500, ti_999, ti_2400, ti_9999, ti_m9999, ti_m20000, ti_m1, i64_toInt, li_0, li_1, li_2, li_3, li_4, li_5, li_10, li_12, li_15, li_48, li_57, li_200, li_500, li_999, li_2400, li_9999, li_m9999, li_11999] at *; omega)).symm) rfl
    · refine mm_iload_n dX10_isSet_17 rfl rfl ?_
      refine mm_iconst (x := 1) dX10_isSet_18 (by decide) ?_
      refine mm_aload_n dX10_isSet_19 rfl rfl ?_
      refine mm_getS dX10_isSet_20 fX10_45 sh_0 rfl gr_0_7 ?_
      refine mm_getS dX10_isSet_23 fX10_63 sh_61 rfl gr_61_0 ?_
      refine mm_getI dX10_isSet_26 fX10_117 sh_65 rfl ?_
      refine mm_ishl dX10_isSet_29 ?_
      refine mm_icmp_ge 37 dX10_isSet_30 (by decide) (fun c_30 => ?_) (fun c_30 => ?_)
      · refine mm_iconst (x := 0) dX10_isSet_37 (by decide) ?_
        exact mm_zretE dX10_isSet_38 rfl (bI_nar _) (by first | exact (bI_1 (by (try simp only [lg_lt, lg_ge, lg_gt, lg_le] at *); simp only [hn, hm, sh1 h12, p2_toInt h12, nI_toInt (show m < 2 ^ 31 by omega), Int32.lt_iff_toInt_lt, Int32.le_iff_toInt_le, Int64.lt_iff_toInt_lt, Int64.le_iff_toInt_le, ti_0, ti_1, ti_2, ti_3, ti_4, ti_5, ti_6, ti_10, ti_12, ti_200, ti_400, ti_500, ti_999, ti_2400, ti_9999, ti_m9999, ti_m20000, ti_m1, i64_toInt, li_0, li_1, li_2, li_3, li_4, li_5, li_10, li_12, li_15, li_48, li_57, li_200, li_500, li_999, li_2400, li_9999, li_m9999, li_11999] at *; omega)).symm | exact (bI_0 (by (try simp only [lg_lt, lg_ge, lg_gt, lg_le] at *); simp only [hn, hm, sh1 h12, p2_toInt h12, nI_toInt (show m < 2 ^ 31 by omega), Int32.lt_iff_toInt_lt, Int32.le_iff_toInt_le, Int64.lt_iff_toInt_lt, Int64.le_iff_toInt_le, ti_0, ti_1, ti_2, ti_3, ti_4, ti_5, ti_6, ti_10, ti_12, ti_200, ti_400, ti_500, ti_999, ti_2400, ti_9999, ti_m9999, ti_m20000, ti_m1, i64_toInt, li_0, li_1, li_2, li_3, li_4, li_5, li_10, li_12, li_15, li_48, li_57, li_200, li_500, li_999, li_2400, li_9999, li_m9999, li_11999] at *; omega)).symm) rfl
      · refine mm_iconst (x := 1) dX10_isSet_33 (by decide) ?_
        refine mm_goto 38 dX10_isSet_34 (by decide) ?_
        exact mm_zretE dX10_isSet_38 rfl (bI_nar _) (by first | exact (bI_1 (by (try simp only [lg_lt, lg_ge, lg_gt, lg_le] at *); simp only [hn, hm, sh1 h12, p2_toInt h12, nI_toInt (show m < 2 ^ 31 by omega), Int32.lt_iff_toInt_lt, Int32.le_iff_toInt_le, Int64.lt_iff_toInt_lt, Int64.le_iff_toInt_le, ti_0, ti_1, ti_2, ti_3, ti_4, ti_5, ti_6, ti_10, ti_12, ti_200, ti_400, ti_500, ti_999, ti_2400, ti_9999, ti_m9999, ti_m20000, ti_m1, i64_toInt, li_0, li_1, li_2, li_3, li_4, li_5, li_10, li_12, li_15, li_48, li_57, li_200, li_500, li_999, li_2400, li_9999, li_m9999, li_11999] at *; omega)).symm | exact (bI_0 (by (try simp only [lg_lt, lg_ge, lg_gt, lg_le] at *); simp only [hn, hm, sh1 h12, p2_toInt h12, nI_toInt (show m < 2 ^ 31 by omega), Int32.lt_iff_toInt_lt, Int32.le_iff_toInt_le, Int64.lt_iff_toInt_lt, Int64.le_iff_toInt_le, ti_0, ti_1, ti_2, ti_3, ti_4, ti_5, ti_6, ti_10, ti_12, ti_200, ti_400, ti_500, ti_999, ti_2400, ti_9999, ti_m9999, ti_m20000, ti_m1, i64_toInt, li_0, li_1, li_2, li_3, li_4, li_5, li_10, li_12, li_15, li_48, li_57, li_200, li_500, li_999, li_2400, li_9999, li_m9999, li_11999] at *; omega)).symm) rfl
set_option maxRecDepth 100000 in
set_option maxHeartbeats 4000000 in
theorem mX10_isHearable (d : Nat) (h : mm_H) (lc n m : Nat) (hlc : h.1 0 6 = nI lc) (h6 : lc ≤ 6) (hn : h.1 65 0 = nI n) (h12 : n ≤ 12) (hm : h.1 65 7 = nI m) (h4 : m ≤ 4) (r c s : Int32) : mm_M (d + 1) YX10_isHearable [.ref 0, .int r, .int c, .int s] h (some (.int (bI ((0 ≤ r.toInt ∧ r.toInt < lc) ∧ (0 ≤ c.toInt ∧ c.toInt < m) ∧ (0 < m ∧ 0 ≤ s.toInt ∧ s.toInt < (2 ^ n : Nat)))))) h := by
  refine mm_M.of [some (.ref 0), some (.int r), some (.int c), some (.int s)] rfl rfl (Nat.le_of_ble_eq_true rfl) ?_
  refine mm_aload_n dX10_isHearable_0 rfl rfl ?_
  refine mm_iload_n dX10_isHearable_1 rfl rfl ?_
  refine mm_cV (Y1 := YX10_isLaw) dX10_isHearable_2 lX10_274 vX10_isLaw (mX10_isLaw d h lc hlc h6 r) sh_0 rfl rfl (by simp [Value.category]) ?_
  refine mm_if_eq 28 dX10_isHearable_5 (by decide) (fun c_5 => ?_) (fun c_5 => ?_)
  · refine mm_iconst (x := 0) dX10_isHearable_28 (by decide) ?_
    exact mm_zretE dX10_isHearable_29 rfl (bI_nar _) (by simp only [bI_e0, bI_n0, Classical.not_not] at *; first | exact (bI_1 ⟨c_5, c_13, c_21⟩).symm | exact (bI_0 (fun z => c_5 z.1)).symm | exact (bI_0 (fun z => c_13 z.2.1)).symm | exact (bI_0 (fun z => c_21 z.2.2)).symm) rfl
  · refine mm_aload_n dX10_isHearable_8 rfl rfl ?_
    refine mm_iload_n dX10_isHearable_9 rfl rfl ?_
    refine mm_cV (Y1 := YX10_isCounter) dX10_isHearable_10 lX10_153 vX10_isCounter (mX10_isCounter d h m hm h4 c) sh_0 rfl rfl (by simp [Value.category]) ?_
    refine mm_if_eq 28 dX10_isHearable_13 (by decide) (fun c_13 => ?_) (fun c_13 => ?_)
    · refine mm_iconst (x := 0) dX10_isHearable_28 (by decide) ?_
      exact mm_zretE dX10_isHearable_29 rfl (bI_nar _) (by simp only [bI_e0, bI_n0, Classical.not_not] at *; first | exact (bI_1 ⟨c_5, c_13, c_21⟩).symm | exact (bI_0 (fun z => c_5 z.1)).symm | exact (bI_0 (fun z => c_13 z.2.1)).symm | exact (bI_0 (fun z => c_21 z.2.2)).symm) rfl
    · refine mm_aload_n dX10_isHearable_16 rfl rfl ?_
      refine mm_iload_n dX10_isHearable_17 rfl rfl ?_
      refine mm_cV (Y1 := YX10_isSet) dX10_isHearable_18 lX10_165 vX10_isSet (mX10_isSet d h n m hn h12 hm h4 s) sh_0 rfl rfl (by simp [Value.category]) ?_
      refine mm_if_eq 28 dX10_isHearable_21 (by decide) (fun c_21 => ?_) (fun c_21 => ?_)
      · refine mm_iconst (x := 0) dX10_isHearable_28 (by decide) ?_
        exact mm_zretE dX10_isHearable_29 rfl (bI_nar _) (by simp only [bI_e0, bI_n0, Classical.not_not] at *; first | exact (bI_1 ⟨c_5, c_13, c_21⟩).symm | exact (bI_0 (fun z => c_5 z.1)).symm | exact (bI_0 (fun z => c_13 z.2.1)).symm | exact (bI_0 (fun z => c_21 z.2.2)).symm) rfl
      · refine mm_iconst (x := 1) dX10_isHearable_24 (by decide) ?_
        refine mm_goto 29 dX10_isHearable_25 (by decide) ?_
        exact mm_zretE dX10_isHearable_29 rfl (bI_nar _) (by simp only [bI_e0, bI_n0, Classical.not_not] at *; first | exact (bI_1 ⟨c_5, c_13, c_21⟩).symm | exact (bI_0 (fun z => c_5 z.1)).symm | exact (bI_0 (fun z => c_13 z.2.1)).symm | exact (bI_0 (fun z => c_21 z.2.2)).symm) rfl
set_option maxRecDepth 100000 in
set_option maxHeartbeats 4000000 in
theorem mX10_canDeal (d : Nat) (h : mm_H) (lc : Nat) (hlc : h.1 0 6 = nI lc) (h6 : lc ≤ 6) (r a b : Int32) : mm_M (d + 1) YX10_canDeal [.ref 0, .int r, .int a, .int b] h (some (.int (bI ((0 ≤ r.toInt ∧ r.toInt < lc) ∧ (0 ≤ a.toInt ∧ a.toInt < 6) ∧ (0 ≤ b.toInt ∧ b.toInt < 6) ∧ ¬ a = b)))) h := by
  refine mm_M.of [some (.ref 0), some (.int r), some (.int a), some (.int b)] rfl rfl (Nat.le_of_ble_eq_true rfl) ?_
  refine mm_aload_n dX10_canDeal_0 rfl rfl ?_
  refine mm_iload_n dX10_canDeal_1 rfl rfl ?_
  refine mm_cV (Y1 := YX10_isLaw) dX10_canDeal_2 lX10_274 vX10_isLaw (mX10_isLaw d h lc hlc h6 r) sh_0 rfl rfl (by simp [Value.category]) ?_
  refine mm_if_eq 31 dX10_canDeal_5 (by decide) (fun c_5 => ?_) (fun c_5 => ?_)
  · refine mm_iconst (x := 0) dX10_canDeal_31 (by decide) ?_
    exact mm_zretE dX10_canDeal_32 rfl (bI_nar _) (by simp only [bI_e0, bI_n0, Classical.not_not] at *; first | exact (bI_1 ⟨c_5, c_12, c_19, c_24⟩).symm | exact (bI_0 (fun z => c_5 z.1)).symm | exact (bI_0 (fun z => c_12 z.2.1)).symm | exact (bI_0 (fun z => c_19 z.2.2.1)).symm | exact (bI_0 (fun z => z.2.2.2 c_24)).symm) rfl
  · refine mm_iload_n dX10_canDeal_8 rfl rfl ?_
    refine mm_cS (Y1 := YX10_isPerson) dX10_canDeal_9 lX10_162 sX10_isPerson (mX10_isPerson d h a) rfl rfl (by simp [Value.category]) ?_
    refine mm_if_eq 31 dX10_canDeal_12 (by decide) (fun c_12 => ?_) (fun c_12 => ?_)
    · refine mm_iconst (x := 0) dX10_canDeal_31 (by decide) ?_
      exact mm_zretE dX10_canDeal_32 rfl (bI_nar _) (by simp only [bI_e0, bI_n0, Classical.not_not] at *; first | exact (bI_1 ⟨c_5, c_12, c_19, c_24⟩).symm | exact (bI_0 (fun z => c_5 z.1)).symm | exact (bI_0 (fun z => c_12 z.2.1)).symm | exact (bI_0 (fun z => c_19 z.2.2.1)).symm | exact (bI_0 (fun z => z.2.2.2 c_24)).symm) rfl
    · refine mm_iload_n dX10_canDeal_15 rfl rfl ?_
      refine mm_cS (Y1 := YX10_isPerson) dX10_canDeal_16 lX10_162 sX10_isPerson (mX10_isPerson d h b) rfl rfl (by simp [Value.category]) ?_
      refine mm_if_eq 31 dX10_canDeal_19 (by decide) (fun c_19 => ?_) (fun c_19 => ?_)
      · refine mm_iconst (x := 0) dX10_canDeal_31 (by decide) ?_
        exact mm_zretE dX10_canDeal_32 rfl (bI_nar _) (by simp only [bI_e0, bI_n0, Classical.not_not] at *; first | exact (bI_1 ⟨c_5, c_12, c_19, c_24⟩).symm | exact (bI_0 (fun z => c_5 z.1)).symm | exact (bI_0 (fun z => c_12 z.2.1)).symm | exact (bI_0 (fun z => c_19 z.2.2.1)).symm | exact (bI_0 (fun z => z.2.2.2 c_24)).symm) rfl
      · refine mm_iload_n dX10_canDeal_22 rfl rfl ?_
        refine mm_iload_n dX10_canDeal_23 rfl rfl ?_
        refine mm_icmp_eq 31 dX10_canDeal_24 (by decide) (fun c_24 => ?_) (fun c_24 => ?_)
        · refine mm_iconst (x := 0) dX10_canDeal_31 (by decide) ?_
          exact mm_zretE dX10_canDeal_32 rfl (bI_nar _) (by simp only [bI_e0, bI_n0, Classical.not_not] at *; first | exact (bI_1 ⟨c_5, c_12, c_19, c_24⟩).symm | exact (bI_0 (fun z => c_5 z.1)).symm | exact (bI_0 (fun z => c_12 z.2.1)).symm | exact (bI_0 (fun z => c_19 z.2.2.1)).symm | exact (bI_0 (fun z => z.2.2.2 c_24)).symm) rfl
        · refine mm_iconst (x := 1) dX10_canDeal_27 (by decide) ?_
          refine mm_goto 32 dX10_canDeal_28 (by decide) ?_
          exact mm_zretE dX10_canDeal_32 rfl (bI_nar _) (by simp only [bI_e0, bI_n0, Classical.not_not] at *; first | exact (bI_1 ⟨c_5, c_12, c_19, c_24⟩).symm | exact (bI_0 (fun z => c_5 z.1)).symm | exact (bI_0 (fun z => c_12 z.2.1)).symm | exact (bI_0 (fun z => c_19 z.2.2.1)).symm | exact (bI_0 (fun z => z.2.2.2 c_24)).symm) rfl
set_option maxRecDepth 100000 in
set_option maxHeartbeats 4000000 in
theorem mX10_nextWithin (d : Nat) (h : mm_H) (a b : Int32) : mm_M d YX10_nextWithin [.int a, .int b] h (some (.int ((a - b) &&& b))) h := by
  refine mm_M.of [some (.int a), some (.int b)] rfl rfl (Nat.le_of_ble_eq_true rfl) ?_
  refine mm_iload_n dX10_nextWithin_0 rfl rfl ?_
  refine mm_iload_n dX10_nextWithin_1 rfl rfl ?_
  refine mm_isub dX10_nextWithin_2 ?_
  refine mm_iload_n dX10_nextWithin_3 rfl rfl ?_
  refine mm_iand dX10_nextWithin_4 ?_
  exact mm_iretE dX10_nextWithin_5 rfl rfl rfl
set_option maxRecDepth 100000 in
set_option maxHeartbeats 4000000 in
theorem mX11_in (d : Nat) (h : mm_H) (v a b : Int64) : mm_M d YX11_in [.long v, .long a, .long b] h (some (.int (bI (a.toInt ≤ v.toInt ∧ v.toInt ≤ b.toInt)))) h := by
  refine mm_M.of [some (.long v), none, some (.long a), none, some (.long b), none] rfl rfl (Nat.le_of_ble_eq_true rfl) ?_
  refine mm_lload_n dX11_in_0 rfl rfl ?_
  refine mm_lload_n dX11_in_1 rfl rfl ?_
  refine mm_lcmp dX11_in_2 ?_
  refine mm_if_lt 17 dX11_in_3 (by decide) (fun c_3 => ?_) (fun c_3 => ?_)
  · refine mm_iconst (x := 0) dX11_in_17 (by decide) ?_
    exact mm_zretE dX11_in_18 rfl (bI_nar _) (by first | exact (bI_1 (by (try simp only [lg_lt, lg_ge, lg_gt, lg_le] at *); simp only [Int32.lt_iff_toInt_lt, Int32.le_iff_toInt_le, Int64.lt_iff_toInt_lt, Int64.le_iff_toInt_le, ti_0, ti_1, ti_2, ti_3, ti_4, ti_5, ti_6, ti_10, ti_12, ti_200, ti_400, ti_500, ti_999, ti_2400, ti_9999, ti_m9999, ti_m20000, ti_m1, i64_toInt, li_0, li_1, li_2, li_3, li_4, li_5, li_10, li_12, li_15, li_48, li_57, li_200, li_500, li_999, li_2400, li_9999, li_m9999, li_11999] at *; omega)).symm | exact (bI_0 (by (try simp only [lg_lt, lg_ge, lg_gt, lg_le] at *); simp only [Int32.lt_iff_toInt_lt, Int32.le_iff_toInt_le, Int64.lt_iff_toInt_lt, Int64.le_iff_toInt_le, ti_0, ti_1, ti_2, ti_3, ti_4, ti_5, ti_6, ti_10, ti_12, ti_200, ti_400, ti_500, ti_999, ti_2400, ti_9999, ti_m9999, ti_m20000, ti_m1, i64_toInt, li_0, li_1, li_2, li_3, li_4, li_5, li_10, li_12, li_15, li_48, li_57, li_200, li_500, li_999, li_2400, li_9999, li_m9999, li_11999] at *; omega)).symm) rfl
  · refine mm_lload_n dX11_in_6 rfl rfl ?_
    refine mm_lload dX11_in_7 rfl ?_
    refine mm_lcmp dX11_in_9 ?_
    refine mm_if_gt 17 dX11_in_10 (by decide) (fun c_10 => ?_) (fun c_10 => ?_)
    · refine mm_iconst (x := 0) dX11_in_17 (by decide) ?_
      exact mm_zretE dX11_in_18 rfl (bI_nar _) (by first | exact (bI_1 (by (try simp only [lg_lt, lg_ge, lg_gt, lg_le] at *); simp only [Int32.lt_iff_toInt_lt, Int32.le_iff_toInt_le, Int64.lt_iff_toInt_lt, Int64.le_iff_toInt_le, ti_0, ti_1, ti_2, ti_3, ti_4, ti_5, ti_6, ti_10, ti_12, ti_200, ti_400, ti_500, ti_999, ti_2400, ti_9999, ti_m9999, ti_m20000, ti_m1, i64_toInt, li_0, li_1, li_2, li_3, li_4, li_5, li_10, li_12, li_15, li_48, li_57, li_200, li_500, li_999, li_2400, li_9999, li_m9999, li_11999] at *; omega)).symm | exact (bI_0 (by (try simp only [lg_lt, lg_ge, lg_gt, lg_le] at *); simp only [Int32.lt_iff_toInt_lt, Int32.le_iff_toInt_le, Int64.lt_iff_toInt_lt, Int64.le_iff_toInt_le, ti_0, ti_1, ti_2, ti_3, ti_4, ti_5, ti_6, ti_10, ti_12, ti_200, ti_400, ti_500, ti_999, ti_2400, ti_9999, ti_m9999, ti_m20000, ti_m1, i64_toInt, li_0, li_1, li_2, li_3, li_4, li_5, li_10, li_12, li_15, li_48, li_57, li_200, li_500, li_999, li_2400, li_9999, li_m9999, li_11999] at *; omega)).symm) rfl
    · refine mm_iconst (x := 1) dX11_in_13 (by decide) ?_
      refine mm_goto 18 dX11_in_14 (by decide) ?_
      exact mm_zretE dX11_in_18 rfl (bI_nar _) (by first | exact (bI_1 (by (try simp only [lg_lt, lg_ge, lg_gt, lg_le] at *); simp only [Int32.lt_iff_toInt_lt, Int32.le_iff_toInt_le, Int64.lt_iff_toInt_lt, Int64.le_iff_toInt_le, ti_0, ti_1, ti_2, ti_3, ti_4, ti_5, ti_6, ti_10, ti_12, ti_200, ti_400, ti_500, ti_999, ti_2400, ti_9999, ti_m9999, ti_m20000, ti_m1, i64_toInt, li_0, li_1, li_2, li_3, li_4, li_5, li_10, li_12, li_15, li_48, li_57, li_200, li_500, li_999, li_2400, li_9999, li_m9999, li_11999] at *; omega)).symm | exact (bI_0 (by (try simp only [lg_lt, lg_ge, lg_gt, lg_le] at *); simp only [Int32.lt_iff_toInt_lt, Int32.le_iff_toInt_le, Int64.lt_iff_toInt_lt, Int64.le_iff_toInt_le, ti_0, ti_1, ti_2, ti_3, ti_4, ti_5, ti_6, ti_10, ti_12, ti_200, ti_400, ti_500, ti_999, ti_2400, ti_9999, ti_m9999, ti_m20000, ti_m1, i64_toInt, li_0, li_1, li_2, li_3, li_4, li_5, li_10, li_12, li_15, li_48, li_57, li_200, li_500, li_999, li_2400, li_9999, li_m9999, li_11999] at *; omega)).symm) rfl
set_option maxRecDepth 100000 in
set_option maxHeartbeats 4000000 in
theorem mX11_has (d : Nat) (h : mm_H) (s : Int32) (i : Nat) : mm_M d YX11_has [.int s, .int (nI i)] h (some (.int (bI (sp_bit s i = 1)))) h := by
  refine mm_M.of [some (.int s), some (.int (nI i))] rfl rfl (Nat.le_of_ble_eq_true rfl) ?_
  refine mm_iload_n dX11_has_0 rfl rfl ?_
  refine mm_iload_n dX11_has_1 rfl rfl ?_
  refine mm_ishr dX11_has_2 ?_
  refine mm_iconst (x := 1) dX11_has_3 (by decide) ?_
  refine mm_iand dX11_has_4 ?_
  refine mm_iconst (x := 1) dX11_has_5 (by decide) ?_
  refine mm_icmp_ne 13 dX11_has_6 (by decide) (fun c_6 => ?_) (fun c_6 => ?_)
  · refine mm_iconst (x := 0) dX11_has_13 (by decide) ?_
    exact mm_zretE dX11_has_14 rfl (bI_nar _) (by first | exact (bI_1 c_6).symm | exact (bI_0 c_6).symm) rfl
  · refine mm_iconst (x := 1) dX11_has_9 (by decide) ?_
    refine mm_goto 14 dX11_has_10 (by decide) ?_
    exact mm_zretE dX11_has_14 rfl (bI_nar _) (by first | exact (bI_1 c_6).symm | exact (bI_0 c_6).symm) rfl
theorem sub1_toInt {x : Int32} {n : Nat} (hx : x = nI n) (hn : n < 2 ^ 30) : (x - 1).toInt = (n : Int) - 1 := by
  subst hx
  exact pk_sub_toInt (a := n) (b := 1) hn (by decide)
set_option maxRecDepth 100000 in
set_option maxHeartbeats 4000000 in
theorem mX11_isPerson (d : Nat) (h : mm_H) (p : Int32) : mm_M (d + 1) YX11_isPerson [.int p] h (some (.int (bI (0 ≤ p.toInt ∧ p.toInt < 6)))) h := by
  refine mm_M.of [some (.int p)] rfl rfl (Nat.le_of_ble_eq_true rfl) ?_
  refine mm_iload_n dX11_isPerson_0 rfl rfl ?_
  refine mm_i2l dX11_isPerson_1 rfl ?_
  refine mm_lconst (x := 0) dX11_isPerson_2 (by decide) ?_
  refine mm_ldc2 dX11_isPerson_3 kX11_175 ?_
  refine mm_cS (Y1 := YX11_in) dX11_isPerson_6 lX11_171 sX11_in (mX11_in d h _ _ _) rfl rfl (by simp [Value.category]) ?_
  exact mm_zretE dX11_isPerson_9 rfl (bI_nar _) (bI_iff (by simp only [Int32.lt_iff_toInt_lt, Int32.le_iff_toInt_le, Int64.lt_iff_toInt_lt, Int64.le_iff_toInt_le, ti_0, ti_1, ti_2, ti_3, ti_4, ti_5, ti_6, ti_10, ti_12, ti_200, ti_400, ti_500, ti_999, ti_2400, ti_9999, ti_m9999, ti_m20000, ti_m1, i64_toInt, li_0, li_1, li_2, li_3, li_4, li_5, li_10, li_12, li_15, li_48, li_57, li_200, li_500, li_999, li_2400, li_9999, li_m9999, li_11999]; omega)) rfl
set_option maxRecDepth 100000 in
set_option maxHeartbeats 4000000 in
theorem mX11_isCoin (d : Nat) (h : mm_H) (n : Nat) (hn : h.1 166 0 = nI n) (hs : n ≤ 12) (c : Int32) : mm_M (d + 1) YX11_isCoin [.ref 165, .int c] h (some (.int (bI (0 ≤ c.toInt ∧ c.toInt < n)))) h := by
  refine mm_M.of [some (.ref 165), some (.int c)] rfl rfl (Nat.le_of_ble_eq_true rfl) ?_
  refine mm_iload_n dX11_isCoin_0 rfl rfl ?_
  refine mm_i2l dX11_isCoin_1 rfl ?_
  refine mm_lconst (x := 0) dX11_isCoin_2 (by decide) ?_
  refine mm_aload_n dX11_isCoin_3 rfl rfl ?_
  refine mm_getS dX11_isCoin_4 fX11_9 sh_165 rfl gr_165_1 ?_
  refine mm_iconst (x := 0) dX11_isCoin_7 (by decide) ?_
  refine mm_iald (0) dX11_isCoin_8 sh_166 rfl (by decide) ?_
  refine mm_iconst (x := 1) dX11_isCoin_9 (by decide) ?_
  refine mm_isub dX11_isCoin_10 ?_
  refine mm_i2l dX11_isCoin_11 rfl ?_
  refine mm_cS (Y1 := YX11_in) dX11_isCoin_12 lX11_171 sX11_in (mX11_in d h _ _ _) rfl rfl (by simp [Value.category]) ?_
  exact mm_zretE dX11_isCoin_15 rfl (bI_nar _) (bI_iff (by simp only [sub1_toInt hn (show n < 2 ^ 30 by omega), Int32.lt_iff_toInt_lt, Int32.le_iff_toInt_le, Int64.lt_iff_toInt_lt, Int64.le_iff_toInt_le, ti_0, ti_1, ti_2, ti_3, ti_4, ti_5, ti_6, ti_10, ti_12, ti_200, ti_400, ti_500, ti_999, ti_2400, ti_9999, ti_m9999, ti_m20000, ti_m1, i64_toInt, li_0, li_1, li_2, li_3, li_4, li_5, li_10, li_12, li_15, li_48, li_57, li_200, li_500, li_999, li_2400, li_9999, li_m9999, li_11999]; omega)) rfl
set_option maxRecDepth 100000 in
set_option maxHeartbeats 4000000 in
theorem mX11_isCounter (d : Nat) (h : mm_H) (n : Nat) (hn : h.1 166 1 = nI n) (hs : n ≤ 12) (c : Int32) : mm_M (d + 1) YX11_isCounter [.ref 165, .int c] h (some (.int (bI (0 ≤ c.toInt ∧ c.toInt < n)))) h := by
  refine mm_M.of [some (.ref 165), some (.int c)] rfl rfl (Nat.le_of_ble_eq_true rfl) ?_
  refine mm_iload_n dX11_isCounter_0 rfl rfl ?_
  refine mm_i2l dX11_isCounter_1 rfl ?_
  refine mm_lconst (x := 0) dX11_isCounter_2 (by decide) ?_
  refine mm_aload_n dX11_isCounter_3 rfl rfl ?_
  refine mm_getS dX11_isCounter_4 fX11_9 sh_165 rfl gr_165_1 ?_
  refine mm_iconst (x := 1) dX11_isCounter_7 (by decide) ?_
  refine mm_iald (1) dX11_isCounter_8 sh_166 rfl (by decide) ?_
  refine mm_iconst (x := 1) dX11_isCounter_9 (by decide) ?_
  refine mm_isub dX11_isCounter_10 ?_
  refine mm_i2l dX11_isCounter_11 rfl ?_
  refine mm_cS (Y1 := YX11_in) dX11_isCounter_12 lX11_171 sX11_in (mX11_in d h _ _ _) rfl rfl (by simp [Value.category]) ?_
  exact mm_zretE dX11_isCounter_15 rfl (bI_nar _) (bI_iff (by simp only [sub1_toInt hn (show n < 2 ^ 30 by omega), Int32.lt_iff_toInt_lt, Int32.le_iff_toInt_le, Int64.lt_iff_toInt_lt, Int64.le_iff_toInt_le, ti_0, ti_1, ti_2, ti_3, ti_4, ti_5, ti_6, ti_10, ti_12, ti_200, ti_400, ti_500, ti_999, ti_2400, ti_9999, ti_m9999, ti_m20000, ti_m1, i64_toInt, li_0, li_1, li_2, li_3, li_4, li_5, li_10, li_12, li_15, li_48, li_57, li_200, li_500, li_999, li_2400, li_9999, li_m9999, li_11999]; omega)) rfl
set_option maxRecDepth 100000 in
set_option maxHeartbeats 4000000 in
theorem mX11_isLaw (d : Nat) (h : mm_H) (n : Nat) (hn : h.1 165 24 = nI n) (hs : n ≤ 12) (c : Int32) : mm_M (d + 1) YX11_isLaw [.ref 165, .int c] h (some (.int (bI (0 ≤ c.toInt ∧ c.toInt < n)))) h := by
  refine mm_M.of [some (.ref 165), some (.int c)] rfl rfl (Nat.le_of_ble_eq_true rfl) ?_
  refine mm_iload_n dX11_isLaw_0 rfl rfl ?_
  refine mm_i2l dX11_isLaw_1 rfl ?_
  refine mm_lconst (x := 0) dX11_isLaw_2 (by decide) ?_
  refine mm_aload_n dX11_isLaw_3 rfl rfl ?_
  refine mm_getI dX11_isLaw_4 fX11_347 sh_165 rfl ?_
  refine mm_iconst (x := 1) dX11_isLaw_7 (by decide) ?_
  refine mm_isub dX11_isLaw_8 ?_
  refine mm_i2l dX11_isLaw_9 rfl ?_
  refine mm_cS (Y1 := YX11_in) dX11_isLaw_10 lX11_171 sX11_in (mX11_in d h _ _ _) rfl rfl (by simp [Value.category]) ?_
  exact mm_zretE dX11_isLaw_13 rfl (bI_nar _) (bI_iff (by simp only [sub1_toInt hn (show n < 2 ^ 30 by omega), Int32.lt_iff_toInt_lt, Int32.le_iff_toInt_le, Int64.lt_iff_toInt_lt, Int64.le_iff_toInt_le, ti_0, ti_1, ti_2, ti_3, ti_4, ti_5, ti_6, ti_10, ti_12, ti_200, ti_400, ti_500, ti_999, ti_2400, ti_9999, ti_m9999, ti_m20000, ti_m1, i64_toInt, li_0, li_1, li_2, li_3, li_4, li_5, li_10, li_12, li_15, li_48, li_57, li_200, li_500, li_999, li_2400, li_9999, li_m9999, li_11999]; omega)) rfl
set_option maxRecDepth 100000 in
set_option maxHeartbeats 4000000 in
theorem mX11_isSet (d : Nat) (h : mm_H) (n m : Nat) (hn : h.1 166 0 = nI n) (h12 : n ≤ 12) (hm : h.1 166 1 = nI m) (h4 : m ≤ 4) (c : Int32) : mm_M (d + 1) YX11_isSet [.ref 165, .int c] h (some (.int (bI (0 < m ∧ 0 ≤ c.toInt ∧ c.toInt < (2 ^ n : Nat))))) h := by
  refine mm_M.of [some (.ref 165), some (.int c)] rfl rfl (Nat.le_of_ble_eq_true rfl) ?_
  refine mm_aload_n dX11_isSet_0 rfl rfl ?_
  refine mm_getS dX11_isSet_1 fX11_9 sh_165 rfl gr_165_1 ?_
  refine mm_iconst (x := 1) dX11_isSet_4 (by decide) ?_
  refine mm_iald (1) dX11_isSet_5 sh_166 rfl (by decide) ?_
  refine mm_if_le 33 dX11_isSet_6 (by decide) (fun c_6 => ?_) (fun c_6 => ?_)
  · refine mm_iconst (x := 0) dX11_isSet_33 (by decide) ?_
    exact mm_zretE dX11_isSet_34 rfl (bI_nar _) (by have e1 := p2_lt h12; simp only [bI_e0, bI_n0, hm, hn, sh1 h12, sub1_toInt (rfl : nI (2 ^ n) = nI (2 ^ n)) (show 2 ^ n < 2 ^ 30 by omega), nI_toInt (show m < 2 ^ 31 by omega), Int32.lt_iff_toInt_lt, Int32.le_iff_toInt_le, Int64.lt_iff_toInt_lt, Int64.le_iff_toInt_le, ti_0, ti_1, ti_2, ti_3, ti_4, ti_5, ti_6, ti_10, ti_12, ti_200, ti_400, ti_500, ti_999, ti_2400, ti_9999, ti_m9999, ti_m20000, ti_m1, i64_toInt, li_0, li_1, li_2, li_3, li_4, li_5, li_10, li_12, li_15, li_48, li_57, li_200, li_500, li_999, li_2400, li_9999, li_m9999, li_11999] at *; first | exact (bI_1 (by omega)).symm | exact (bI_0 (by omega)).symm) rfl
  · refine mm_iload_n dX11_isSet_9 rfl rfl ?_
    refine mm_i2l dX11_isSet_10 rfl ?_
    refine mm_lconst (x := 0) dX11_isSet_11 (by decide) ?_
    refine mm_iconst (x := 1) dX11_isSet_12 (by decide) ?_
    refine mm_aload_n dX11_isSet_13 rfl rfl ?_
    refine mm_getS dX11_isSet_14 fX11_9 sh_165 rfl gr_165_1 ?_
    refine mm_iconst (x := 0) dX11_isSet_17 (by decide) ?_
    refine mm_iald (0) dX11_isSet_18 sh_166 rfl (by decide) ?_
    refine mm_ishl dX11_isSet_19 ?_
    refine mm_iconst (x := 1) dX11_isSet_20 (by decide) ?_
    refine mm_isub dX11_isSet_21 ?_
    refine mm_i2l dX11_isSet_22 rfl ?_
    refine mm_cS (Y1 := YX11_in) dX11_isSet_23 lX11_171 sX11_in (mX11_in d h _ _ _) rfl rfl (by simp [Value.category]) ?_
    refine mm_if_eq 33 dX11_isSet_26 (by decide) (fun c_26 => ?_) (fun c_26 => ?_)
    · refine mm_iconst (x := 0) dX11_isSet_33 (by decide) ?_
      exact mm_zretE dX11_isSet_34 rfl (bI_nar _) (by have e1 := p2_lt h12; simp only [bI_e0, bI_n0, hm, hn, sh1 h12, sub1_toInt (rfl : nI (2 ^ n) = nI (2 ^ n)) (show 2 ^ n < 2 ^ 30 by omega), nI_toInt (show m < 2 ^ 31 by omega), Int32.lt_iff_toInt_lt, Int32.le_iff_toInt_le, Int64.lt_iff_toInt_lt, Int64.le_iff_toInt_le, ti_0, ti_1, ti_2, ti_3, ti_4, ti_5, ti_6, ti_10, ti_12, ti_200, ti_400, ti_500, ti_999, ti_2400, ti_9999, ti_m9999, ti_m20000, ti_m1, i64_toInt, li_0, li_1, li_2, li_3, li_4, li_5, li_10, li_12, li_15, li_48, li_57, li_200, li_500, li_999, li_2400, li_9999, li_m9999, li_11999] at *; first | exact (bI_1 (by omega)).symm | exact (bI_0 (by omega)).symm) rfl
    · refine mm_iconst (x := 1) dX11_isSet_29 (by decide) ?_
      refine mm_goto 34 dX11_isSet_30 (by decide) ?_
      exact mm_zretE dX11_isSet_34 rfl (bI_nar _) (by have e1 := p2_lt h12; simp only [bI_e0, bI_n0, hm, hn, sh1 h12, sub1_toInt (rfl : nI (2 ^ n) = nI (2 ^ n)) (show 2 ^ n < 2 ^ 30 by omega), nI_toInt (show m < 2 ^ 31 by omega), Int32.lt_iff_toInt_lt, Int32.le_iff_toInt_le, Int64.lt_iff_toInt_lt, Int64.le_iff_toInt_le, ti_0, ti_1, ti_2, ti_3, ti_4, ti_5, ti_6, ti_10, ti_12, ti_200, ti_400, ti_500, ti_999, ti_2400, ti_9999, ti_m9999, ti_m20000, ti_m1, i64_toInt, li_0, li_1, li_2, li_3, li_4, li_5, li_10, li_12, li_15, li_48, li_57, li_200, li_500, li_999, li_2400, li_9999, li_m9999, li_11999] at *; first | exact (bI_1 (by omega)).symm | exact (bI_0 (by omega)).symm) rfl
