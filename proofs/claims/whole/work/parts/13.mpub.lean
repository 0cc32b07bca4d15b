/-! The reference's plain calls. -/
set_option maxRecDepth 100000 in
set_option maxHeartbeats 4000000 in
theorem mX11_isAsked (d : Nat) (h : mm_H) (lc n m : Nat) (hlc : h.1 165 24 = nI lc) (h6 : lc ≤ 6) (hn : h.1 166 0 = nI n) (h12 : n ≤ 12) (hm : h.1 166 1 = nI m) (h4 : m ≤ 4) (r c s : Int32) : mm_M (d + 2) YX11_isAsked [.ref 165, .int r, .int c, .int s] h (some (.int (bI ((0 ≤ r.toInt ∧ r.toInt < lc) ∧ (0 ≤ c.toInt ∧ c.toInt < m) ∧ (0 < m ∧ 0 ≤ s.toInt ∧ s.toInt < (2 ^ n : Nat)))))) h := by
  refine mm_M.of [some (.ref 165), some (.int r), some (.int c), some (.int s)] rfl rfl (Nat.le_of_ble_eq_true rfl) ?_
  refine mm_aload_n dX11_isAsked_0 rfl rfl ?_
  refine mm_iload_n dX11_isAsked_1 rfl rfl ?_
  refine mm_cV (Y1 := YX11_isLaw) dX11_isAsked_2 lX11_405 vX11_isLaw (mX11_isLaw d h lc hlc (by omega) r) sh_165 rfl rfl (by simp [Value.category]) ?_
  refine mm_if_eq 28 dX11_isAsked_5 (by decide) (fun c_5 => ?_) (fun c_5 => ?_)
  · refine mm_iconst (x := 0) dX11_isAsked_28 (by decide) ?_
    exact mm_zretE dX11_isAsked_29 rfl (bI_nar _) (by simp only [bI_e0, bI_n0, Classical.not_not] at *; first | exact (bI_1 ⟨c_5, c_13, c_21⟩).symm | exact (bI_0 (fun z => c_5 z.1)).symm | exact (bI_0 (fun z => c_13 z.2.1)).symm | exact (bI_0 (fun z => c_21 z.2.2)).symm) rfl
  · refine mm_aload_n dX11_isAsked_8 rfl rfl ?_
    refine mm_iload_n dX11_isAsked_9 rfl rfl ?_
    refine mm_cV (Y1 := YX11_isCounter) dX11_isAsked_10 lX11_388 vX11_isCounter (mX11_isCounter d h m hm (by omega) c) sh_165 rfl rfl (by simp [Value.category]) ?_
    refine mm_if_eq 28 dX11_isAsked_13 (by decide) (fun c_13 => ?_) (fun c_13 => ?_)
    · refine mm_iconst (x := 0) dX11_isAsked_28 (by decide) ?_
      exact mm_zretE dX11_isAsked_29 rfl (bI_nar _) (by simp only [bI_e0, bI_n0, Classical.not_not] at *; first | exact (bI_1 ⟨c_5, c_13, c_21⟩).symm | exact (bI_0 (fun z => c_5 z.1)).symm | exact (bI_0 (fun z => c_13 z.2.1)).symm | exact (bI_0 (fun z => c_21 z.2.2)).symm) rfl
    · refine mm_aload_n dX11_isAsked_16 rfl rfl ?_
      refine mm_iload_n dX11_isAsked_17 rfl rfl ?_
      refine mm_cV (Y1 := YX11_isSet) dX11_isAsked_18 lX11_396 vX11_isSet (mX11_isSet d h n m hn h12 hm h4 s) sh_165 rfl rfl (by simp [Value.category]) ?_
      refine mm_if_eq 28 dX11_isAsked_21 (by decide) (fun c_21 => ?_) (fun c_21 => ?_)
      · refine mm_iconst (x := 0) dX11_isAsked_28 (by decide) ?_
        exact mm_zretE dX11_isAsked_29 rfl (bI_nar _) (by simp only [bI_e0, bI_n0, Classical.not_not] at *; first | exact (bI_1 ⟨c_5, c_13, c_21⟩).symm | exact (bI_0 (fun z => c_5 z.1)).symm | exact (bI_0 (fun z => c_13 z.2.1)).symm | exact (bI_0 (fun z => c_21 z.2.2)).symm) rfl
      · refine mm_iconst (x := 1) dX11_isAsked_24 (by decide) ?_
        refine mm_goto 29 dX11_isAsked_25 (by decide) ?_
        exact mm_zretE dX11_isAsked_29 rfl (bI_nar _) (by simp only [bI_e0, bI_n0, Classical.not_not] at *; first | exact (bI_1 ⟨c_5, c_13, c_21⟩).symm | exact (bI_0 (fun z => c_5 z.1)).symm | exact (bI_0 (fun z => c_13 z.2.1)).symm | exact (bI_0 (fun z => c_21 z.2.2)).symm) rfl
set_option maxRecDepth 100000 in
set_option maxHeartbeats 4000000 in
theorem mX11_isPay (d : Nat) (h : mm_H) (lc m : Nat) (hlc : h.1 165 24 = nI lc) (h6 : lc ≤ 6) (hm : h.1 166 1 = nI m) (h4 : m ≤ 4) (r c a b : Int32) : mm_M (d + 2) YX11_isPay [.ref 165, .int r, .int c, .int a, .int b] h (some (.int (bI ((0 ≤ r.toInt ∧ r.toInt < lc) ∧ (0 ≤ c.toInt ∧ c.toInt < m) ∧ (0 ≤ a.toInt ∧ a.toInt < 6) ∧ (0 ≤ b.toInt ∧ b.toInt < 6) ∧ ¬ a = b)))) h := by
  refine mm_M.of [some (.ref 165), some (.int r), some (.int c), some (.int a), some (.int b)] rfl rfl (Nat.le_of_ble_eq_true rfl) ?_
  refine mm_aload_n dX11_isPay_0 rfl rfl ?_
  refine mm_iload_n dX11_isPay_1 rfl rfl ?_
  refine mm_cV (Y1 := YX11_isLaw) dX11_isPay_2 lX11_405 vX11_isLaw (mX11_isLaw d h lc hlc (by omega) r) sh_165 rfl rfl (by simp [Value.category]) ?_
  refine mm_if_eq 41 dX11_isPay_5 (by decide) (fun c_5 => ?_) (fun c_5 => ?_)
  · refine mm_iconst (x := 0) dX11_isPay_41 (by decide) ?_
    exact mm_zretE dX11_isPay_42 rfl (bI_nar _) (by simp only [bI_e0, bI_n0, Classical.not_not] at *; first | exact (bI_1 ⟨c_5, c_13, c_20, c_28, c_34⟩).symm | exact (bI_0 (fun z => c_5 z.1)).symm | exact (bI_0 (fun z => c_13 z.2.1)).symm | exact (bI_0 (fun z => c_20 z.2.2.1)).symm | exact (bI_0 (fun z => c_28 z.2.2.2.1)).symm | exact (bI_0 (fun z => z.2.2.2.2 c_34)).symm) rfl
  · refine mm_aload_n dX11_isPay_8 rfl rfl ?_
    refine mm_iload_n dX11_isPay_9 rfl rfl ?_
    refine mm_cV (Y1 := YX11_isCounter) dX11_isPay_10 lX11_388 vX11_isCounter (mX11_isCounter d h m hm (by omega) c) sh_165 rfl rfl (by simp [Value.category]) ?_
    refine mm_if_eq 41 dX11_isPay_13 (by decide) (fun c_13 => ?_) (fun c_13 => ?_)
    · refine mm_iconst (x := 0) dX11_isPay_41 (by decide) ?_
      exact mm_zretE dX11_isPay_42 rfl (bI_nar _) (by simp only [bI_e0, bI_n0, Classical.not_not] at *; first | exact (bI_1 ⟨c_5, c_13, c_20, c_28, c_34⟩).symm | exact (bI_0 (fun z => c_5 z.1)).symm | exact (bI_0 (fun z => c_13 z.2.1)).symm | exact (bI_0 (fun z => c_20 z.2.2.1)).symm | exact (bI_0 (fun z => c_28 z.2.2.2.1)).symm | exact (bI_0 (fun z => z.2.2.2.2 c_34)).symm) rfl
    · refine mm_iload_n dX11_isPay_16 rfl rfl ?_
      refine mm_cS (Y1 := YX11_isPerson) dX11_isPay_17 lX11_391 sX11_isPerson (mX11_isPerson d h a) rfl rfl (by simp [Value.category]) ?_
      refine mm_if_eq 41 dX11_isPay_20 (by decide) (fun c_20 => ?_) (fun c_20 => ?_)
      · refine mm_iconst (x := 0) dX11_isPay_41 (by decide) ?_
        exact mm_zretE dX11_isPay_42 rfl (bI_nar _) (by simp only [bI_e0, bI_n0, Classical.not_not] at *; first | exact (bI_1 ⟨c_5, c_13, c_20, c_28, c_34⟩).symm | exact (bI_0 (fun z => c_5 z.1)).symm | exact (bI_0 (fun z => c_13 z.2.1)).symm | exact (bI_0 (fun z => c_20 z.2.2.1)).symm | exact (bI_0 (fun z => c_28 z.2.2.2.1)).symm | exact (bI_0 (fun z => z.2.2.2.2 c_34)).symm) rfl
      · refine mm_iload dX11_isPay_23 rfl ?_
        refine mm_cS (Y1 := YX11_isPerson) dX11_isPay_25 lX11_391 sX11_isPerson (mX11_isPerson d h b) rfl rfl (by simp [Value.category]) ?_
        refine mm_if_eq 41 dX11_isPay_28 (by decide) (fun c_28 => ?_) (fun c_28 => ?_)
        · refine mm_iconst (x := 0) dX11_isPay_41 (by decide) ?_
          exact mm_zretE dX11_isPay_42 rfl (bI_nar _) (by simp only [bI_e0, bI_n0, Classical.not_not] at *; first | exact (bI_1 ⟨c_5, c_13, c_20, c_28, c_34⟩).symm | exact (bI_0 (fun z => c_5 z.1)).symm | exact (bI_0 (fun z => c_13 z.2.1)).symm | exact (bI_0 (fun z => c_20 z.2.2.1)).symm | exact (bI_0 (fun z => c_28 z.2.2.2.1)).symm | exact (bI_0 (fun z => z.2.2.2.2 c_34)).symm) rfl
        · refine mm_iload_n dX11_isPay_31 rfl rfl ?_
          refine mm_iload dX11_isPay_32 rfl ?_
          refine mm_icmp_eq 41 dX11_isPay_34 (by decide) (fun c_34 => ?_) (fun c_34 => ?_)
          · refine mm_iconst (x := 0) dX11_isPay_41 (by decide) ?_
            exact mm_zretE dX11_isPay_42 rfl (bI_nar _) (by simp only [bI_e0, bI_n0, Classical.not_not] at *; first | exact (bI_1 ⟨c_5, c_13, c_20, c_28, c_34⟩).symm | exact (bI_0 (fun z => c_5 z.1)).symm | exact (bI_0 (fun z => c_13 z.2.1)).symm | exact (bI_0 (fun z => c_20 z.2.2.1)).symm | exact (bI_0 (fun z => c_28 z.2.2.2.1)).symm | exact (bI_0 (fun z => z.2.2.2.2 c_34)).symm) rfl
          · refine mm_iconst (x := 1) dX11_isPay_37 (by decide) ?_
            refine mm_goto 42 dX11_isPay_38 (by decide) ?_
            exact mm_zretE dX11_isPay_42 rfl (bI_nar _) (by simp only [bI_e0, bI_n0, Classical.not_not] at *; first | exact (bI_1 ⟨c_5, c_13, c_20, c_28, c_34⟩).symm | exact (bI_0 (fun z => c_5 z.1)).symm | exact (bI_0 (fun z => c_13 z.2.1)).symm | exact (bI_0 (fun z => c_20 z.2.2.1)).symm | exact (bI_0 (fun z => c_28 z.2.2.2.1)).symm | exact (bI_0 (fun z => z.2.2.2.2 c_34)).symm) rfl
set_option maxRecDepth 100000 in
set_option maxHeartbeats 4000000 in
theorem mX11_end_t (d : Nat) (h : mm_H) (t : Nat) (ht : h.1 165 20 = nI t) (h4 : t ≤ 400) (n : Int32) (hc : 0 ≤ n.toInt ∧ n.toInt ≤ t) : mm_M d YX11_end [.ref 165, .int n] h (some (.int n)) (mm_up h.1 165 20 n, h.2.1, h.2.2) := by
  refine mm_M.of [some (.ref 165), some (.int n)] rfl rfl (Nat.le_of_ble_eq_true rfl) ?_
  refine mm_iload_n dX11_end_0 rfl rfl ?_
  refine mm_if_lt 12 dX11_end_1 (by decide) (fun c_1 => ?_) (fun c_1 => ?_)
  · exfalso; (try simp only [lg_lt, lg_ge, lg_gt, lg_le] at *); simp only [ht, nI_toInt (show t < 2 ^ 31 by omega), Int32.lt_iff_toInt_lt, Int32.le_iff_toInt_le, Int64.lt_iff_toInt_lt, Int64.le_iff_toInt_le, ti_0, ti_1, ti_2, ti_3, ti_4, ti_5, ti_6, ti_10, ti_12, ti_200, ti_400, ti_500, ti_999, ti_2400, ti_9999, ti_m9999, ti_m20000, ti_m1, i64_toInt, li_0, li_1, li_2, li_3, li_4, li_5, li_10, li_12, li_15, li_48, li_57, li_200, li_500, li_999, li_2400, li_9999, li_m9999, li_11999] at *; omega
  · refine mm_iload_n dX11_end_4 rfl rfl ?_
    refine mm_aload_n dX11_end_5 rfl rfl ?_
    refine mm_getI dX11_end_6 fX11_181 sh_165 rfl ?_
    refine mm_icmp_le 14 dX11_end_9 (by decide) (fun c_9 => ?_) (fun c_9 => ?_)
    · refine mm_aload_n dX11_end_14 rfl rfl ?_
      refine mm_iload_n dX11_end_15 rfl rfl ?_
      refine mm_putI dX11_end_16 fX11_181 sh_165 rfl rfl rfl ?_
      refine mm_iload_n dX11_end_19 rfl rfl ?_
      exact mm_iretE dX11_end_20 rfl rfl rfl
    · exfalso; (try simp only [lg_lt, lg_ge, lg_gt, lg_le] at *); simp only [ht, nI_toInt (show t < 2 ^ 31 by omega), Int32.lt_iff_toInt_lt, Int32.le_iff_toInt_le, Int64.lt_iff_toInt_lt, Int64.le_iff_toInt_le, ti_0, ti_1, ti_2, ti_3, ti_4, ti_5, ti_6, ti_10, ti_12, ti_200, ti_400, ti_500, ti_999, ti_2400, ti_9999, ti_m9999, ti_m20000, ti_m1, i64_toInt, li_0, li_1, li_2, li_3, li_4, li_5, li_10, li_12, li_15, li_48, li_57, li_200, li_500, li_999, li_2400, li_9999, li_m9999, li_11999] at *; omega
set_option maxRecDepth 100000 in
set_option maxHeartbeats 4000000 in
theorem mX11_end_f (d : Nat) (h : mm_H) (t : Nat) (ht : h.1 165 20 = nI t) (h4 : t ≤ 400) (n : Int32) (hc : ¬ (0 ≤ n.toInt ∧ n.toInt ≤ t)) : mm_M d YX11_end [.ref 165, .int n] h (some (.int (-1))) h := by
  refine mm_M.of [some (.ref 165), some (.int n)] rfl rfl (Nat.le_of_ble_eq_true rfl) ?_
  refine mm_iload_n dX11_end_0 rfl rfl ?_
  refine mm_if_lt 12 dX11_end_1 (by decide) (fun c_1 => ?_) (fun c_1 => ?_)
  · refine mm_iconst (x := (-1)) dX11_end_12 (by decide) ?_
    exact mm_iretE dX11_end_13 rfl rfl rfl
  · refine mm_iload_n dX11_end_4 rfl rfl ?_
    refine mm_aload_n dX11_end_5 rfl rfl ?_
    refine mm_getI dX11_end_6 fX11_181 sh_165 rfl ?_
    refine mm_icmp_le 14 dX11_end_9 (by decide) (fun c_9 => ?_) (fun c_9 => ?_)
    · exfalso; (try simp only [lg_lt, lg_ge, lg_gt, lg_le] at *); simp only [ht, nI_toInt (show t < 2 ^ 31 by omega), Int32.lt_iff_toInt_lt, Int32.le_iff_toInt_le, Int64.lt_iff_toInt_lt, Int64.le_iff_toInt_le, ti_0, ti_1, ti_2, ti_3, ti_4, ti_5, ti_6, ti_10, ti_12, ti_200, ti_400, ti_500, ti_999, ti_2400, ti_9999, ti_m9999, ti_m20000, ti_m1, i64_toInt, li_0, li_1, li_2, li_3, li_4, li_5, li_10, li_12, li_15, li_48, li_57, li_200, li_500, li_999, li_2400, li_9999, li_m9999, li_11999] at *; omega
    · refine mm_iconst (x := (-1)) dX11_end_12 (by decide) ?_
      exact mm_iretE dX11_end_13 rfl rfl rfl
set_option maxRecDepth 100000 in
set_option maxHeartbeats 4000000 in
theorem mX11_seed_t (d : Nat) (h : mm_H) (x : Int32) (hc : 0 ≤ x.toInt) : mm_M d YX11_seed [.ref 165, .int x] h (some (.int (h.1 166 6))) (mm_up h.1 166 6 x, h.2.1, h.2.2) := by
  refine mm_M.of [some (.ref 165), some (.int x), none] rfl rfl (Nat.le_of_ble_eq_true rfl) ?_
  refine mm_iload_n dX11_seed_0 rfl rfl ?_
  refine mm_if_ge 6 dX11_seed_1 (by decide) (fun c_1 => ?_) (fun c_1 => ?_)
  · refine mm_aload_n dX11_seed_6 rfl rfl ?_
    refine mm_getS dX11_seed_7 fX11_9 sh_165 rfl gr_165_1 ?_
    refine mm_bipush (x := 6) dX11_seed_10 (by decide) ?_
    refine mm_iald (6) dX11_seed_12 sh_166 rfl (by decide) ?_
    refine mm_istore_n dX11_seed_13 rfl (by decide) rfl ?_
    refine mm_aload_n dX11_seed_14 rfl rfl ?_
    refine mm_getS dX11_seed_15 fX11_9 sh_165 rfl gr_165_1 ?_
    refine mm_bipush (x := 6) dX11_seed_18 (by decide) ?_
    refine mm_iload_n dX11_seed_20 rfl rfl ?_
    refine mm_iast (6) dX11_seed_21 sh_166 rfl (by decide) ?_
    refine mm_iload_n dX11_seed_22 rfl rfl ?_
    exact mm_iretE dX11_seed_23 rfl rfl rfl
  · exfalso; (try simp only [lg_lt, lg_ge, lg_gt, lg_le] at *); simp only [Int32.lt_iff_toInt_lt, Int32.le_iff_toInt_le, Int64.lt_iff_toInt_lt, Int64.le_iff_toInt_le, ti_0, ti_1, ti_2, ti_3, ti_4, ti_5, ti_6, ti_10, ti_12, ti_200, ti_400, ti_500, ti_999, ti_2400, ti_9999, ti_m9999, ti_m20000, ti_m1, i64_toInt, li_0, li_1, li_2, li_3, li_4, li_5, li_10, li_12, li_15, li_48, li_57, li_200, li_500, li_999, li_2400, li_9999, li_m9999, li_11999] at *; omega
set_option maxRecDepth 100000 in
set_option maxHeartbeats 4000000 in
theorem mX11_seed_f (d : Nat) (h : mm_H) (x : Int32) (hc : ¬ 0 ≤ x.toInt) : mm_M d YX11_seed [.ref 165, .int x] h (some (.int (-1))) h := by
  refine mm_M.of [some (.ref 165), some (.int x), none] rfl rfl (Nat.le_of_ble_eq_true rfl) ?_
  refine mm_iload_n dX11_seed_0 rfl rfl ?_
  refine mm_if_ge 6 dX11_seed_1 (by decide) (fun c_1 => ?_) (fun c_1 => ?_)
  · exfalso; (try simp only [lg_lt, lg_ge, lg_gt, lg_le] at *); simp only [Int32.lt_iff_toInt_lt, Int32.le_iff_toInt_le, Int64.lt_iff_toInt_lt, Int64.le_iff_toInt_le, ti_0, ti_1, ti_2, ti_3, ti_4, ti_5, ti_6, ti_10, ti_12, ti_200, ti_400, ti_500, ti_999, ti_2400, ti_9999, ti_m9999, ti_m20000, ti_m1, i64_toInt, li_0, li_1, li_2, li_3, li_4, li_5, li_10, li_12, li_15, li_48, li_57, li_200, li_500, li_999, li_2400, li_9999, li_m9999, li_11999] at *; omega
  · refine mm_iconst (x := (-1)) dX11_seed_4 (by decide) ?_
    exact mm_iretE dX11_seed_5 rfl rfl rfl
set_option maxRecDepth 100000 in
set_option maxHeartbeats 4000000 in
theorem mX11_give_t (d : Nat) (h : mm_H) (n : Nat) (hn : h.1 166 0 = nI n) (h12 : n ≤ 12) (j : Nat) (hj : j < n) (p : Int32) (hp : 0 ≤ p.toInt ∧ p.toInt < 6) : mm_M (d + 2) YX11_give [.ref 165, .int (nI j), .int p] h (some (.int (h.1 180 j))) (mm_up h.1 180 j p, h.2.1, h.2.2) := by
  refine mm_M.of [some (.ref 165), some (.int (nI j)), some (.int p), none] rfl rfl (Nat.le_of_ble_eq_true rfl) ?_
  refine mm_aload_n dX11_give_0 rfl rfl ?_
  refine mm_iload_n dX11_give_1 rfl rfl ?_
  refine mm_cV (Y1 := YX11_isCoin) dX11_give_2 lX11_384 vX11_isCoin (mX11_isCoin d h n hn h12 _) sh_165 rfl rfl (by simp [Value.category]) ?_
  refine mm_if_eq 15 dX11_give_5 (by decide) (fun c_5 => ?_) (fun c_5 => ?_)
  · exact absurd ⟨by rw [nI_toInt (by omega)]; omega, by rw [nI_toInt (by omega)]; omega⟩ (bI_e0.mp c_5)
  · refine mm_iload_n dX11_give_8 rfl rfl ?_
    refine mm_cS (Y1 := YX11_isPerson) dX11_give_9 lX11_391 sX11_isPerson (mX11_isPerson d h p) rfl rfl (by simp [Value.category]) ?_
    refine mm_if_ne 17 dX11_give_12 (by decide) (fun c_12 => ?_) (fun c_12 => ?_)
    · refine mm_aload_n dX11_give_17 rfl rfl ?_
      refine mm_getS dX11_give_18 fX11_52 sh_165 rfl gr_165_15 ?_
      refine mm_iload_n dX11_give_21 rfl rfl ?_
      refine mm_iald (j) dX11_give_22 sh_180 rfl (by omega) ?_
      refine mm_istore_n dX11_give_23 rfl (by decide) rfl ?_
      refine mm_aload_n dX11_give_24 rfl rfl ?_
      refine mm_getS dX11_give_25 fX11_52 sh_165 rfl gr_165_15 ?_
      refine mm_iload_n dX11_give_28 rfl rfl ?_
      refine mm_iload_n dX11_give_29 rfl rfl ?_
      refine mm_iast (j) dX11_give_30 sh_180 rfl (by omega) ?_
      refine mm_iload_n dX11_give_31 rfl rfl ?_
      exact mm_iretE dX11_give_32 rfl rfl rfl
    · exact absurd hp (bI_e0.mp c_12)
set_option maxRecDepth 100000 in
set_option maxHeartbeats 4000000 in
theorem mX11_give_f (d : Nat) (h : mm_H) (n : Nat) (hn : h.1 166 0 = nI n) (h12 : n ≤ 12) (c p : Int32) (hc : ¬ ((0 ≤ c.toInt ∧ c.toInt < n) ∧ (0 ≤ p.toInt ∧ p.toInt < 6))) : mm_M (d + 2) YX11_give [.ref 165, .int c, .int p] h (some (.int (-1))) h := by
  refine mm_M.of [some (.ref 165), some (.int c), some (.int p), none] rfl rfl (Nat.le_of_ble_eq_true rfl) ?_
  refine mm_aload_n dX11_give_0 rfl rfl ?_
  refine mm_iload_n dX11_give_1 rfl rfl ?_
  refine mm_cV (Y1 := YX11_isCoin) dX11_give_2 lX11_384 vX11_isCoin (mX11_isCoin d h n hn h12 _) sh_165 rfl rfl (by simp [Value.category]) ?_
  refine mm_if_eq 15 dX11_give_5 (by decide) (fun c_5 => ?_) (fun c_5 => ?_)
  · refine mm_iconst (x := (-1)) dX11_give_15 (by decide) ?_
    exact mm_iretE dX11_give_16 rfl rfl rfl
  · refine mm_iload_n dX11_give_8 rfl rfl ?_
    refine mm_cS (Y1 := YX11_isPerson) dX11_give_9 lX11_391 sX11_isPerson (mX11_isPerson d h p) rfl rfl (by simp [Value.category]) ?_
    refine mm_if_ne 17 dX11_give_12 (by decide) (fun c_12 => ?_) (fun c_12 => ?_)
    · exact absurd ⟨bI_n0.mp c_5, bI_n0.mp c_12⟩ hc
    · refine mm_iconst (x := (-1)) dX11_give_15 (by decide) ?_
      exact mm_iretE dX11_give_16 rfl rfl rfl
set_option maxRecDepth 100000 in
set_option maxHeartbeats 4000000 in
theorem mX11_retune_t (d : Nat) (h : mm_H) (n : Nat) (hn : h.1 166 0 = nI n) (h12 : n ≤ 12) (j : Nat) (hj : j < n) (p : Int32) (hp : 0 ≤ p.toInt ∧ p.toInt ≤ 2400) : mm_M (d + 2) YX11_retune [.ref 165, .int (nI j), .int p] h (some (.int (h.1 167 j))) (mm_up h.1 167 j p, h.2.1, h.2.2) := by
  refine mm_M.of [some (.ref 165), some (.int (nI j)), some (.int p), none] rfl rfl (Nat.le_of_ble_eq_true rfl) ?_
  refine mm_aload_n dX11_retune_0 rfl rfl ?_
  refine mm_iload_n dX11_retune_1 rfl rfl ?_
  refine mm_cV (Y1 := YX11_isCoin) dX11_retune_2 lX11_384 vX11_isCoin (mX11_isCoin d h n hn h12 _) sh_165 rfl rfl (by simp [Value.category]) ?_
  refine mm_if_eq 20 dX11_retune_5 (by decide) (fun c_5 => ?_) (fun c_5 => ?_)
  · exact absurd ⟨by rw [nI_toInt (by omega)]; omega, by rw [nI_toInt (by omega)]; omega⟩ (bI_e0.mp c_5)
  · refine mm_iload_n dX11_retune_8 rfl rfl ?_
    refine mm_i2l dX11_retune_9 rfl ?_
    refine mm_lconst (x := 0) dX11_retune_10 (by decide) ?_
    refine mm_ldc2 dX11_retune_11 kX11_394 ?_
    refine mm_cS (Y1 := YX11_in) dX11_retune_14 lX11_171 sX11_in (mX11_in (d + 1) h _ _ _) rfl rfl (by simp [Value.category]) ?_
    refine mm_if_ne 22 dX11_retune_17 (by decide) (fun c_17 => ?_) (fun c_17 => ?_)
    · refine mm_aload_n dX11_retune_22 rfl rfl ?_
      refine mm_getS dX11_retune_23 fX11_13 sh_165 rfl gr_165_2 ?_
      refine mm_iload_n dX11_retune_26 rfl rfl ?_
      refine mm_iald (j) dX11_retune_27 sh_167 rfl (by omega) ?_
      refine mm_istore_n dX11_retune_28 rfl (by decide) rfl ?_
      refine mm_aload_n dX11_retune_29 rfl rfl ?_
      refine mm_getS dX11_retune_30 fX11_13 sh_165 rfl gr_165_2 ?_
      refine mm_iload_n dX11_retune_33 rfl rfl ?_
      refine mm_iload_n dX11_retune_34 rfl rfl ?_
      refine mm_iast (j) dX11_retune_35 sh_167 rfl (by omega) ?_
      refine mm_iload_n dX11_retune_36 rfl rfl ?_
      exact mm_iretE dX11_retune_37 rfl rfl rfl
    · have q := bI_e0.mp c_17
      exfalso; (try simp only [lg_lt, lg_ge, lg_gt, lg_le] at *); simp only [Int32.lt_iff_toInt_lt, Int32.le_iff_toInt_le, Int64.lt_iff_toInt_lt, Int64.le_iff_toInt_le, ti_0, ti_1, ti_2, ti_3, ti_4, ti_5, ti_6, ti_10, ti_12, ti_200, ti_400, ti_500, ti_999, ti_2400, ti_9999, ti_m9999, ti_m20000, ti_m1, i64_toInt, li_0, li_1, li_2, li_3, li_4, li_5, li_10, li_12, li_15, li_48, li_57, li_200, li_500, li_999, li_2400, li_9999, li_m9999, li_11999] at *; omega
set_option maxRecDepth 100000 in
set_option maxHeartbeats 4000000 in
theorem mX11_retune_f (d : Nat) (h : mm_H) (n : Nat) (hn : h.1 166 0 = nI n) (h12 : n ≤ 12) (c p : Int32) (hc : ¬ ((0 ≤ c.toInt ∧ c.toInt < n) ∧ (0 ≤ p.toInt ∧ p.toInt ≤ 2400))) : mm_M (d + 2) YX11_retune [.ref 165, .int c, .int p] h (some (.int (-1))) h := by
  refine mm_M.of [some (.ref 165), some (.int c), some (.int p), none] rfl rfl (Nat.le_of_ble_eq_true rfl) ?_
  refine mm_aload_n dX11_retune_0 rfl rfl ?_
  refine mm_iload_n dX11_retune_1 rfl rfl ?_
  refine mm_cV (Y1 := YX11_isCoin) dX11_retune_2 lX11_384 vX11_isCoin (mX11_isCoin d h n hn h12 _) sh_165 rfl rfl (by simp [Value.category]) ?_
  refine mm_if_eq 20 dX11_retune_5 (by decide) (fun c_5 => ?_) (fun c_5 => ?_)
  · refine mm_iconst (x := (-1)) dX11_retune_20 (by decide) ?_
    exact mm_iretE dX11_retune_21 rfl rfl rfl
  · refine mm_iload_n dX11_retune_8 rfl rfl ?_
    refine mm_i2l dX11_retune_9 rfl ?_
    refine mm_lconst (x := 0) dX11_retune_10 (by decide) ?_
    refine mm_ldc2 dX11_retune_11 kX11_394 ?_
    refine mm_cS (Y1 := YX11_in) dX11_retune_14 lX11_171 sX11_in (mX11_in (d + 1) h _ _ _) rfl rfl (by simp [Value.category]) ?_
    refine mm_if_ne 22 dX11_retune_17 (by decide) (fun c_17 => ?_) (fun c_17 => ?_)
    · have q := bI_n0.mp c_5
      have q2 := bI_n0.mp c_17
      exfalso; (try simp only [lg_lt, lg_ge, lg_gt, lg_le] at *); simp only [Int32.lt_iff_toInt_lt, Int32.le_iff_toInt_le, Int64.lt_iff_toInt_lt, Int64.le_iff_toInt_le, ti_0, ti_1, ti_2, ti_3, ti_4, ti_5, ti_6, ti_10, ti_12, ti_200, ti_400, ti_500, ti_999, ti_2400, ti_9999, ti_m9999, ti_m20000, ti_m1, i64_toInt, li_0, li_1, li_2, li_3, li_4, li_5, li_10, li_12, li_15, li_48, li_57, li_200, li_500, li_999, li_2400, li_9999, li_m9999, li_11999] at *; omega
    · refine mm_iconst (x := (-1)) dX11_retune_20 (by decide) ?_
      exact mm_iretE dX11_retune_21 rfl rfl rfl
set_option maxRecDepth 100000 in
set_option maxHeartbeats 4000000 in
theorem mX11_coin_f (d : Nat) (h : mm_H) (n : Nat) (hn : h.1 166 0 = nI n) (h12 : n ≤ 12) (c w : Int32) (hc : ¬ (0 ≤ c.toInt ∧ c.toInt < n)) : mm_M (d + 2) YX11_coin [.ref 165, .int c, .int w] h (some (.int (-1))) h := by
  refine mm_M.of [some (.ref 165), some (.int c), some (.int w)] rfl rfl (Nat.le_of_ble_eq_true rfl) ?_
  refine mm_aload_n dX11_coin_0 rfl rfl ?_
  refine mm_iload_n dX11_coin_1 rfl rfl ?_
  refine mm_cV (Y1 := YX11_isCoin) dX11_coin_2 lX11_384 vX11_isCoin (mX11_isCoin d h n hn h12 _) sh_165 rfl rfl (by simp [Value.category]) ?_
  refine mm_if_ne 10 dX11_coin_5 (by decide) (fun c_5 => ?_) (fun c_5 => ?_)
  · exact absurd (bI_n0.mp c_5) hc
  · refine mm_iconst (x := (-1)) dX11_coin_8 (by decide) ?_
    exact mm_iretE dX11_coin_9 rfl rfl rfl
set_option maxRecDepth 100000 in
set_option maxHeartbeats 4000000 in
theorem mX11_coin_0 (d : Nat) (h : mm_H) (n : Nat) (hn : h.1 166 0 = nI n) (h12 : n ≤ 12) (j : Nat) (hj : j < n) : mm_M (d + 2) YX11_coin [.ref 165, .int (nI j), .int 0] h (some (.int (h.1 167 j))) h := by
  refine mm_M.of [some (.ref 165), some (.int (nI j)), some (.int 0)] rfl rfl (Nat.le_of_ble_eq_true rfl) ?_
  refine mm_aload_n dX11_coin_0 rfl rfl ?_
  refine mm_iload_n dX11_coin_1 rfl rfl ?_
  refine mm_cV (Y1 := YX11_isCoin) dX11_coin_2 lX11_384 vX11_isCoin (mX11_isCoin d h n hn h12 _) sh_165 rfl rfl (by simp [Value.category]) ?_
  refine mm_if_ne 10 dX11_coin_5 (by decide) (fun c_5 => ?_) (fun c_5 => ?_)
  · refine mm_iload_n dX11_coin_10 rfl rfl ?_
    refine mm_tableIn (off := 41) 52 dX11_coin_11 (by decide) (by decide) (by decide) (by decide) ?_
    refine mm_aload_n dX11_coin_52 rfl rfl ?_
    refine mm_getS dX11_coin_53 fX11_13 sh_165 rfl gr_165_2 ?_
    refine mm_iload_n dX11_coin_56 rfl rfl ?_
    refine mm_iald (j) dX11_coin_57 sh_167 rfl (by omega) ?_
    exact mm_iretE dX11_coin_58 rfl rfl rfl
  · exact absurd ⟨by rw [nI_toInt (by omega)]; omega, by rw [nI_toInt (by omega)]; omega⟩ (bI_e0.mp c_5)
set_option maxRecDepth 100000 in
set_option maxHeartbeats 4000000 in
theorem mX11_coin_1 (d : Nat) (h : mm_H) (n : Nat) (hn : h.1 166 0 = nI n) (h12 : n ≤ 12) (j : Nat) (hj : j < n) : mm_M (d + 2) YX11_coin [.ref 165, .int (nI j), .int 1] h (some (.int (h.1 168 j))) h := by
  refine mm_M.of [some (.ref 165), some (.int (nI j)), some (.int 1)] rfl rfl (Nat.le_of_ble_eq_true rfl) ?_
  refine mm_aload_n dX11_coin_0 rfl rfl ?_
  refine mm_iload_n dX11_coin_1 rfl rfl ?_
  refine mm_cV (Y1 := YX11_isCoin) dX11_coin_2 lX11_384 vX11_isCoin (mX11_isCoin d h n hn h12 _) sh_165 rfl rfl (by simp [Value.category]) ?_
  refine mm_if_ne 10 dX11_coin_5 (by decide) (fun c_5 => ?_) (fun c_5 => ?_)
  · refine mm_iload_n dX11_coin_10 rfl rfl ?_
    refine mm_tableIn (off := 48) 59 dX11_coin_11 (by decide) (by decide) (by decide) (by decide) ?_
    refine mm_aload_n dX11_coin_59 rfl rfl ?_
    refine mm_getS dX11_coin_60 fX11_16 sh_165 rfl gr_165_3 ?_
    refine mm_iload_n dX11_coin_63 rfl rfl ?_
    refine mm_iald (j) dX11_coin_64 sh_168 rfl (by omega) ?_
    exact mm_iretE dX11_coin_65 rfl rfl rfl
  · exact absurd ⟨by rw [nI_toInt (by omega)]; omega, by rw [nI_toInt (by omega)]; omega⟩ (bI_e0.mp c_5)
set_option maxRecDepth 100000 in
set_option maxHeartbeats 4000000 in
theorem mX11_coin_2 (d : Nat) (h : mm_H) (n : Nat) (hn : h.1 166 0 = nI n) (h12 : n ≤ 12) (j : Nat) (hj : j < n) : mm_M (d + 2) YX11_coin [.ref 165, .int (nI j), .int 2] h (some (.int (h.1 169 j))) h := by
  refine mm_M.of [some (.ref 165), some (.int (nI j)), some (.int 2)] rfl rfl (Nat.le_of_ble_eq_true rfl) ?_
  refine mm_aload_n dX11_coin_0 rfl rfl ?_
  refine mm_iload_n dX11_coin_1 rfl rfl ?_
  refine mm_cV (Y1 := YX11_isCoin) dX11_coin_2 lX11_384 vX11_isCoin (mX11_isCoin d h n hn h12 _) sh_165 rfl rfl (by simp [Value.category]) ?_
  refine mm_if_ne 10 dX11_coin_5 (by decide) (fun c_5 => ?_) (fun c_5 => ?_)
  · refine mm_iload_n dX11_coin_10 rfl rfl ?_
    refine mm_tableIn (off := 55) 66 dX11_coin_11 (by decide) (by decide) (by decide) (by decide) ?_
    refine mm_aload_n dX11_coin_66 rfl rfl ?_
    refine mm_getS dX11_coin_67 fX11_19 sh_165 rfl gr_165_4 ?_
    refine mm_iload_n dX11_coin_70 rfl rfl ?_
    refine mm_iald (j) dX11_coin_71 sh_169 rfl (by omega) ?_
    exact mm_iretE dX11_coin_72 rfl rfl rfl
  · exact absurd ⟨by rw [nI_toInt (by omega)]; omega, by rw [nI_toInt (by omega)]; omega⟩ (bI_e0.mp c_5)
set_option maxRecDepth 100000 in
set_option maxHeartbeats 4000000 in
theorem mX11_coin_3 (d : Nat) (h : mm_H) (n : Nat) (hn : h.1 166 0 = nI n) (h12 : n ≤ 12) (j : Nat) (hj : j < n) : mm_M (d + 2) YX11_coin [.ref 165, .int (nI j), .int 3] h (some (.int (h.1 170 j))) h := by
  refine mm_M.of [some (.ref 165), some (.int (nI j)), some (.int 3)] rfl rfl (Nat.le_of_ble_eq_true rfl) ?_
  refine mm_aload_n dX11_coin_0 rfl rfl ?_
  refine mm_iload_n dX11_coin_1 rfl rfl ?_
  refine mm_cV (Y1 := YX11_isCoin) dX11_coin_2 lX11_384 vX11_isCoin (mX11_isCoin d h n hn h12 _) sh_165 rfl rfl (by simp [Value.category]) ?_
  refine mm_if_ne 10 dX11_coin_5 (by decide) (fun c_5 => ?_) (fun c_5 => ?_)
  · refine mm_iload_n dX11_coin_10 rfl rfl ?_
    refine mm_tableIn (off := 62) 73 dX11_coin_11 (by decide) (by decide) (by decide) (by decide) ?_
    refine mm_aload_n dX11_coin_73 rfl rfl ?_
    refine mm_getS dX11_coin_74 fX11_22 sh_165 rfl gr_165_5 ?_
    refine mm_iload_n dX11_coin_77 rfl rfl ?_
    refine mm_iald (j) dX11_coin_78 sh_170 rfl (by omega) ?_
    exact mm_iretE dX11_coin_79 rfl rfl rfl
  · exact absurd ⟨by rw [nI_toInt (by omega)]; omega, by rw [nI_toInt (by omega)]; omega⟩ (bI_e0.mp c_5)
set_option maxRecDepth 100000 in
set_option maxHeartbeats 4000000 in
theorem mX11_coin_4 (d : Nat) (h : mm_H) (n : Nat) (hn : h.1 166 0 = nI n) (h12 : n ≤ 12) (j : Nat) (hj : j < n) : mm_M (d + 2) YX11_coin [.ref 165, .int (nI j), .int 4] h (some (.int (h.1 180 j))) h := by
  refine mm_M.of [some (.ref 165), some (.int (nI j)), some (.int 4)] rfl rfl (Nat.le_of_ble_eq_true rfl) ?_
  refine mm_aload_n dX11_coin_0 rfl rfl ?_
  refine mm_iload_n dX11_coin_1 rfl rfl ?_
  refine mm_cV (Y1 := YX11_isCoin) dX11_coin_2 lX11_384 vX11_isCoin (mX11_isCoin d h n hn h12 _) sh_165 rfl rfl (by simp [Value.category]) ?_
  refine mm_if_ne 10 dX11_coin_5 (by decide) (fun c_5 => ?_) (fun c_5 => ?_)
  · refine mm_iload_n dX11_coin_10 rfl rfl ?_
    refine mm_tableIn (off := 69) 80 dX11_coin_11 (by decide) (by decide) (by decide) (by decide) ?_
    refine mm_aload_n dX11_coin_80 rfl rfl ?_
    refine mm_getS dX11_coin_81 fX11_52 sh_165 rfl gr_165_15 ?_
    refine mm_iload_n dX11_coin_84 rfl rfl ?_
    refine mm_iald (j) dX11_coin_85 sh_180 rfl (by omega) ?_
    exact mm_iretE dX11_coin_86 rfl rfl rfl
  · exact absurd ⟨by rw [nI_toInt (by omega)]; omega, by rw [nI_toInt (by omega)]; omega⟩ (bI_e0.mp c_5)
set_option maxRecDepth 100000 in
set_option maxHeartbeats 4000000 in
theorem mX11_coin_5 (d : Nat) (h : mm_H) (n : Nat) (hn : h.1 166 0 = nI n) (h12 : n ≤ 12) (j : Nat) (hj : j < n) : mm_M (d + 2) YX11_coin [.ref 165, .int (nI j), .int 5] h (some (.int (h.1 181 j))) h := by
  refine mm_M.of [some (.ref 165), some (.int (nI j)), some (.int 5)] rfl rfl (Nat.le_of_ble_eq_true rfl) ?_
  refine mm_aload_n dX11_coin_0 rfl rfl ?_
  refine mm_iload_n dX11_coin_1 rfl rfl ?_
  refine mm_cV (Y1 := YX11_isCoin) dX11_coin_2 lX11_384 vX11_isCoin (mX11_isCoin d h n hn h12 _) sh_165 rfl rfl (by simp [Value.category]) ?_
  refine mm_if_ne 10 dX11_coin_5 (by decide) (fun c_5 => ?_) (fun c_5 => ?_)
  · refine mm_iload_n dX11_coin_10 rfl rfl ?_
    refine mm_tableIn (off := 76) 87 dX11_coin_11 (by decide) (by decide) (by decide) (by decide) ?_
    refine mm_aload_n dX11_coin_87 rfl rfl ?_
    refine mm_getS dX11_coin_88 fX11_55 sh_165 rfl gr_165_16 ?_
    refine mm_iload_n dX11_coin_91 rfl rfl ?_
    refine mm_iald (j) dX11_coin_92 sh_181 rfl (by omega) ?_
    exact mm_iretE dX11_coin_93 rfl rfl rfl
  · exact absurd ⟨by rw [nI_toInt (by omega)]; omega, by rw [nI_toInt (by omega)]; omega⟩ (bI_e0.mp c_5)
set_option maxRecDepth 100000 in
set_option maxHeartbeats 4000000 in
theorem mX11_coin_6 (d : Nat) (h : mm_H) (n : Nat) (hn : h.1 166 0 = nI n) (h12 : n ≤ 12) (j : Nat) (hj : j < n) (ht : ¬ h.1 170 j = 0) : mm_M (d + 2) YX11_coin [.ref 165, .int (nI j), .int 6] h (some (.int (h.1 181 j / h.1 170 j))) h := by
  refine mm_M.of [some (.ref 165), some (.int (nI j)), some (.int 6)] rfl rfl (Nat.le_of_ble_eq_true rfl) ?_
  refine mm_aload_n dX11_coin_0 rfl rfl ?_
  refine mm_iload_n dX11_coin_1 rfl rfl ?_
  refine mm_cV (Y1 := YX11_isCoin) dX11_coin_2 lX11_384 vX11_isCoin (mX11_isCoin d h n hn h12 _) sh_165 rfl rfl (by simp [Value.category]) ?_
  refine mm_if_ne 10 dX11_coin_5 (by decide) (fun c_5 => ?_) (fun c_5 => ?_)
  · refine mm_iload_n dX11_coin_10 rfl rfl ?_
    refine mm_tableIn (off := 83) 94 dX11_coin_11 (by decide) (by decide) (by decide) (by decide) ?_
    refine mm_aload_n dX11_coin_94 rfl rfl ?_
    refine mm_iload_n dX11_coin_95 rfl rfl ?_
    refine mm_cV (Y1 := YX11_cracks) dX11_coin_96 lX11_361 vX11_cracks (mX11_cracks (d + 1) h j (by omega) ht) sh_165 rfl rfl (by simp [Value.category]) ?_
    exact mm_iretE dX11_coin_99 rfl rfl rfl
  · exact absurd ⟨by rw [nI_toInt (by omega)]; omega, by rw [nI_toInt (by omega)]; omega⟩ (bI_e0.mp c_5)
set_option maxRecDepth 100000 in
set_option maxHeartbeats 4000000 in
theorem mX11_coin_o (d : Nat) (h : mm_H) (n : Nat) (hn : h.1 166 0 = nI n) (h12 : n ≤ 12) (j : Nat) (hj : j < n) (w : Int32) (hw : w.toInt < 0 ∨ 6 < w.toInt) : mm_M (d + 2) YX11_coin [.ref 165, .int (nI j), .int w] h (some (.int (-1))) h := by
  refine mm_M.of [some (.ref 165), some (.int (nI j)), some (.int w)] rfl rfl (Nat.le_of_ble_eq_true rfl) ?_
  refine mm_aload_n dX11_coin_0 rfl rfl ?_
  refine mm_iload_n dX11_coin_1 rfl rfl ?_
  refine mm_cV (Y1 := YX11_isCoin) dX11_coin_2 lX11_384 vX11_isCoin (mX11_isCoin d h n hn h12 _) sh_165 rfl rfl (by simp [Value.category]) ?_
  refine mm_if_ne 10 dX11_coin_5 (by decide) (fun c_5 => ?_) (fun c_5 => ?_)
  · refine mm_iload_n dX11_coin_10 rfl rfl ?_
    refine mm_tableOut 100 dX11_coin_11 hw (by decide) ?_
    refine mm_iconst (x := (-1)) dX11_coin_100 (by decide) ?_
    exact mm_iretE dX11_coin_101 rfl rfl rfl
  · exact absurd ⟨by rw [nI_toInt (by omega)]; omega, by rw [nI_toInt (by omega)]; omega⟩ (bI_e0.mp c_5)
set_option maxRecDepth 100000 in
set_option maxHeartbeats 4000000 in
theorem mX11_counter_f (d : Nat) (h : mm_H) (n : Nat) (hn : h.1 166 1 = nI n) (h4 : n ≤ 4) (c w : Int32) (hc : ¬ ((0 ≤ c.toInt ∧ c.toInt < n) ∧ (0 ≤ w.toInt ∧ w.toInt ≤ 1))) : mm_M (d + 2) YX11_counter [.ref 165, .int c, .int w] h (some (.int (-1))) h := by
  refine mm_M.of [some (.ref 165), some (.int c), some (.int w)] rfl rfl (Nat.le_of_ble_eq_true rfl) ?_
  refine mm_aload_n dX11_counter_0 rfl rfl ?_
  refine mm_iload_n dX11_counter_1 rfl rfl ?_
  refine mm_cV (Y1 := YX11_isCounter) dX11_counter_2 lX11_388 vX11_isCounter (mX11_isCounter d h n hn (by omega) _) sh_165 rfl rfl (by simp [Value.category]) ?_
  refine mm_if_eq 18 dX11_counter_5 (by decide) (fun c_5 => ?_) (fun c_5 => ?_)
  · refine mm_iconst (x := (-1)) dX11_counter_18 (by decide) ?_
    refine mm_goto 41 dX11_counter_19 (by decide) ?_
    exact mm_iretE dX11_counter_41 rfl rfl rfl
  · refine mm_iload_n dX11_counter_8 rfl rfl ?_
    refine mm_i2l dX11_counter_9 rfl ?_
    refine mm_lconst (x := 0) dX11_counter_10 (by decide) ?_
    refine mm_lconst (x := 1) dX11_counter_11 (by decide) ?_
    refine mm_cS (Y1 := YX11_in) dX11_counter_12 lX11_171 sX11_in (mX11_in (d + 1) h _ _ _) rfl rfl (by simp [Value.category]) ?_
    refine mm_if_ne 22 dX11_counter_15 (by decide) (fun c_15 => ?_) (fun c_15 => ?_)
    · have q := bI_n0.mp c_5
      have q2 := bI_n0.mp c_15
      exfalso; (try simp only [lg_lt, lg_ge, lg_gt, lg_le] at *); simp only [Int32.lt_iff_toInt_lt, Int32.le_iff_toInt_le, Int64.lt_iff_toInt_lt, Int64.le_iff_toInt_le, ti_0, ti_1, ti_2, ti_3, ti_4, ti_5, ti_6, ti_10, ti_12, ti_200, ti_400, ti_500, ti_999, ti_2400, ti_9999, ti_m9999, ti_m20000, ti_m1, i64_toInt, li_0, li_1, li_2, li_3, li_4, li_5, li_10, li_12, li_15, li_48, li_57, li_200, li_500, li_999, li_2400, li_9999, li_m9999, li_11999] at *; omega
    · refine mm_iconst (x := (-1)) dX11_counter_18 (by decide) ?_
      refine mm_goto 41 dX11_counter_19 (by decide) ?_
      exact mm_iretE dX11_counter_41 rfl rfl rfl
set_option maxRecDepth 100000 in
set_option maxHeartbeats 4000000 in
theorem mX11_counter_0 (d : Nat) (h : mm_H) (n : Nat) (hn : h.1 166 1 = nI n) (h4 : n ≤ 4) (j : Nat) (hj : j < n) : mm_M (d + 2) YX11_counter [.ref 165, .int (nI j), .int 0] h (some (.int (h.1 171 j))) h := by
  refine mm_M.of [some (.ref 165), some (.int (nI j)), some (.int 0)] rfl rfl (Nat.le_of_ble_eq_true rfl) ?_
  refine mm_aload_n dX11_counter_0 rfl rfl ?_
  refine mm_iload_n dX11_counter_1 rfl rfl ?_
  refine mm_cV (Y1 := YX11_isCounter) dX11_counter_2 lX11_388 vX11_isCounter (mX11_isCounter d h n hn (by omega) _) sh_165 rfl rfl (by simp [Value.category]) ?_
  refine mm_if_eq 18 dX11_counter_5 (by decide) (fun c_5 => ?_) (fun c_5 => ?_)
  · exact absurd ⟨by rw [nI_toInt (by omega)]; omega, by rw [nI_toInt (by omega)]; omega⟩ (bI_e0.mp c_5)
  · refine mm_iload_n dX11_counter_8 rfl rfl ?_
    refine mm_i2l dX11_counter_9 rfl ?_
    refine mm_lconst (x := 0) dX11_counter_10 (by decide) ?_
    refine mm_lconst (x := 1) dX11_counter_11 (by decide) ?_
    refine mm_cS (Y1 := YX11_in) dX11_counter_12 lX11_171 sX11_in (mX11_in (d + 1) h _ _ _) rfl rfl (by simp [Value.category]) ?_
    refine mm_if_ne 22 dX11_counter_15 (by decide) (fun c_15 => ?_) (fun c_15 => ?_)
    · refine mm_iload_n dX11_counter_22 rfl rfl ?_
      refine mm_if_ne 35 dX11_counter_23 (by decide) (fun c_23 => ?_) (fun c_23 => ?_)
      · exact absurd rfl c_23
      · refine mm_aload_n dX11_counter_26 rfl rfl ?_
        refine mm_getS dX11_counter_27 fX11_25 sh_165 rfl gr_165_6 ?_
        refine mm_iload_n dX11_counter_30 rfl rfl ?_
        refine mm_iald (j) dX11_counter_31 sh_171 rfl (by omega) ?_
        refine mm_goto 41 dX11_counter_32 (by decide) ?_
        exact mm_iretE dX11_counter_41 rfl rfl rfl
    · exact absurd c_15 (by decide)
set_option maxRecDepth 100000 in
set_option maxHeartbeats 4000000 in
theorem mX11_counter_1 (d : Nat) (h : mm_H) (n : Nat) (hn : h.1 166 1 = nI n) (h4 : n ≤ 4) (j : Nat) (hj : j < n) : mm_M (d + 2) YX11_counter [.ref 165, .int (nI j), .int 1] h (some (.int (h.1 172 j))) h := by
  refine mm_M.of [some (.ref 165), some (.int (nI j)), some (.int 1)] rfl rfl (Nat.le_of_ble_eq_true rfl) ?_
  refine mm_aload_n dX11_counter_0 rfl rfl ?_
  refine mm_iload_n dX11_counter_1 rfl rfl ?_
  refine mm_cV (Y1 := YX11_isCounter) dX11_counter_2 lX11_388 vX11_isCounter (mX11_isCounter d h n hn (by omega) _) sh_165 rfl rfl (by simp [Value.category]) ?_
  refine mm_if_eq 18 dX11_counter_5 (by decide) (fun c_5 => ?_) (fun c_5 => ?_)
  · exact absurd ⟨by rw [nI_toInt (by omega)]; omega, by rw [nI_toInt (by omega)]; omega⟩ (bI_e0.mp c_5)
  · refine mm_iload_n dX11_counter_8 rfl rfl ?_
    refine mm_i2l dX11_counter_9 rfl ?_
    refine mm_lconst (x := 0) dX11_counter_10 (by decide) ?_
    refine mm_lconst (x := 1) dX11_counter_11 (by decide) ?_
    refine mm_cS (Y1 := YX11_in) dX11_counter_12 lX11_171 sX11_in (mX11_in (d + 1) h _ _ _) rfl rfl (by simp [Value.category]) ?_
    refine mm_if_ne 22 dX11_counter_15 (by decide) (fun c_15 => ?_) (fun c_15 => ?_)
    · refine mm_iload_n dX11_counter_22 rfl rfl ?_
      refine mm_if_ne 35 dX11_counter_23 (by decide) (fun c_23 => ?_) (fun c_23 => ?_)
      · refine mm_aload_n dX11_counter_35 rfl rfl ?_
        refine mm_getS dX11_counter_36 fX11_28 sh_165 rfl gr_165_7 ?_
        refine mm_iload_n dX11_counter_39 rfl rfl ?_
        refine mm_iald (j) dX11_counter_40 sh_172 rfl (by omega) ?_
        exact mm_iretE dX11_counter_41 rfl rfl rfl
      · exact absurd c_23 (by decide)
    · exact absurd c_15 (by decide)
set_option maxRecDepth 100000 in
set_option maxHeartbeats 4000000 in
theorem mX11_fall_f (d : Nat) (h : mm_H) (n m : Nat) (hn : h.1 166 0 = nI n) (h12 : n ≤ 12) (hm : h.1 166 1 = nI m) (h4 : m ≤ 4) (c : Int32) (hc : ¬ (0 < m ∧ 0 ≤ c.toInt ∧ c.toInt < (2 ^ n : Nat))) : mm_M (d + 2) YX11_fall [.ref 165, .int c] h (some (.int (-1))) h := by
  refine mm_M.of [some (.ref 165), some (.int c)] rfl rfl (Nat.le_of_ble_eq_true rfl) ?_
  refine mm_aload_n dX11_fall_0 rfl rfl ?_
  refine mm_iload_n dX11_fall_1 rfl rfl ?_
  refine mm_cV (Y1 := YX11_isSet) dX11_fall_2 lX11_396 vX11_isSet (mX11_isSet d h n m hn h12 hm h4 _) sh_165 rfl rfl (by simp [Value.category]) ?_
  refine mm_if_eq 16 dX11_fall_5 (by decide) (fun c_5 => ?_) (fun c_5 => ?_)
  · refine mm_iconst (x := (-1)) dX11_fall_16 (by decide) ?_
    exact mm_iretE dX11_fall_17 rfl rfl rfl
  · exact absurd (bI_n0.mp c_5) hc
set_option maxRecDepth 100000 in
set_option maxHeartbeats 4000000 in
theorem mX11_fall_n (d : Nat) (h : mm_H) (n m : Nat) (hn : h.1 166 0 = nI n) (h12 : n ≤ 12) (hm : h.1 166 1 = nI m) (h4 : m ≤ 4) (hm0 : 0 < m) (a : Nat) (ha : a < 2 ^ n) (hc : sp_canI (h.1 181) (nI a) n = 0) : mm_M (d + 2) YX11_fall [.ref 165, .int (nI a)] h (some (.int (-1))) h := by
  refine mm_M.of [some (.ref 165), some (.int (nI a))] rfl rfl (Nat.le_of_ble_eq_true rfl) ?_
  have p2 := p2_lt h12
  refine mm_aload_n dX11_fall_0 rfl rfl ?_
  refine mm_iload_n dX11_fall_1 rfl rfl ?_
  refine mm_cV (Y1 := YX11_isSet) dX11_fall_2 lX11_396 vX11_isSet (mX11_isSet d h n m hn h12 hm h4 _) sh_165 rfl rfl (by simp [Value.category]) ?_
  refine mm_if_eq 16 dX11_fall_5 (by decide) (fun c_5 => ?_) (fun c_5 => ?_)
  · exact absurd ⟨hm0, by rw [nI_toInt (by omega)]; omega, by rw [nI_toInt (by omega)]; omega⟩ (bI_e0.mp c_5)
  · refine mm_aload_n dX11_fall_8 rfl rfl ?_
    refine mm_iload_n dX11_fall_9 rfl rfl ?_
    refine mm_cV (Y1 := YX11_canFall) dX11_fall_10 lX11_399 vX11_canFall (mX11_canFall d h n hn h12 _) sh_165 rfl rfl (by simp [Value.category]) ?_
    refine mm_if_ne 18 dX11_fall_13 (by decide) (fun c_13 => ?_) (fun c_13 => ?_)
    · exact absurd hc c_13
    · refine mm_iconst (x := (-1)) dX11_fall_16 (by decide) ?_
      exact mm_iretE dX11_fall_17 rfl rfl rfl
set_option maxRecDepth 100000 in
set_option maxHeartbeats 4000000 in
theorem mX11_fall_t (d : Nat) (h : mm_H) (n m : Nat) (hn : h.1 166 0 = nI n) (h12 : n ≤ 12) (hm : h.1 166 1 = nI m) (h4 : m ≤ 4) (hm0 : 0 < m) (a : Nat) (ha : a < 2 ^ n) (hc : ¬ sp_canI (h.1 181) (nI a) n = 0) : mm_M (d + 2) YX11_fall [.ref 165, .int (nI a)] h (some (.int (nI (pc a)))) (mm_row h.1 181 (sp_drop (h.1 181) (nI a) n), h.2.1, h.2.2) := by
  refine mm_M.of [some (.ref 165), some (.int (nI a))] rfl rfl (Nat.le_of_ble_eq_true rfl) ?_
  have p2 := p2_lt h12
  refine mm_aload_n dX11_fall_0 rfl rfl ?_
  refine mm_iload_n dX11_fall_1 rfl rfl ?_
  refine mm_cV (Y1 := YX11_isSet) dX11_fall_2 lX11_396 vX11_isSet (mX11_isSet d h n m hn h12 hm h4 _) sh_165 rfl rfl (by simp [Value.category]) ?_
  refine mm_if_eq 16 dX11_fall_5 (by decide) (fun c_5 => ?_) (fun c_5 => ?_)
  · exact absurd ⟨hm0, by rw [nI_toInt (by omega)]; omega, by rw [nI_toInt (by omega)]; omega⟩ (bI_e0.mp c_5)
  · refine mm_aload_n dX11_fall_8 rfl rfl ?_
    refine mm_iload_n dX11_fall_9 rfl rfl ?_
    refine mm_cV (Y1 := YX11_canFall) dX11_fall_10 lX11_399 vX11_canFall (mX11_canFall d h n hn h12 _) sh_165 rfl rfl (by simp [Value.category]) ?_
    refine mm_if_ne 18 dX11_fall_13 (by decide) (fun c_13 => ?_) (fun c_13 => ?_)
    · refine mm_aload_n dX11_fall_18 rfl rfl ?_
      refine mm_iload_n dX11_fall_19 rfl rfl ?_
      refine mm_cV (Y1 := YX11_fallen) dX11_fall_20 lX11_402 vX11_fallen (mX11_fallen d h n hn h12 _) sh_165 rfl rfl (by simp [Value.category]) ?_
      refine mm_iload_n dX11_fall_23 rfl rfl ?_
      refine mm_cS (Y1 := YX11_bits) dX11_fall_24 lX11_363 sX11_bits (mX11_bits (d + 1) _ a (by omega)) rfl rfl (by simp [Value.category]) ?_
      exact mm_iretE dX11_fall_27 rfl rfl rfl
    · exact absurd c_13 hc
set_option maxRecDepth 100000 in
set_option maxHeartbeats 4000000 in
theorem mX11_count_0 (d : Nat) (h : mm_H) : mm_M (d + 1) YX11_count [.ref 165, .int 0] h (some (.int (h.1 166 0))) h := by
  refine mm_M.of [some (.ref 165), some (.int 0)] rfl rfl (Nat.le_of_ble_eq_true rfl) ?_
  refine mm_iload_n dX11_count_0 rfl rfl ?_
  refine mm_i2l dX11_count_1 rfl ?_
  refine mm_ldc2 dX11_count_2 kX11_512 ?_
  refine mm_ldc2 dX11_count_5 kX11_514 ?_
  refine mm_cS (Y1 := YX11_in) dX11_count_8 lX11_171 sX11_in (mX11_in d h _ _ _) rfl rfl (by simp [Value.category]) ?_
  refine mm_if_eq 27 dX11_count_11 (by decide) (fun c_11 => ?_) (fun c_11 => ?_)
  · refine mm_iload_n dX11_count_27 rfl rfl ?_
    refine mm_tableIn (off := 56) 84 dX11_count_28 (by decide) (by decide) (by decide) (by decide) ?_
    refine mm_aload_n dX11_count_84 rfl rfl ?_
    refine mm_getS dX11_count_85 fX11_9 sh_165 rfl gr_165_1 ?_
    refine mm_iconst (x := 0) dX11_count_88 (by decide) ?_
    refine mm_iald (0) dX11_count_89 sh_166 rfl (by decide) ?_
    exact mm_iretE dX11_count_90 rfl rfl rfl
  · exact absurd (by decide) c_11
set_option maxRecDepth 100000 in
set_option maxHeartbeats 4000000 in
theorem mX11_count_1 (d : Nat) (h : mm_H) : mm_M (d + 1) YX11_count [.ref 165, .int 1] h (some (.int (h.1 166 1))) h := by
  refine mm_M.of [some (.ref 165), some (.int 1)] rfl rfl (Nat.le_of_ble_eq_true rfl) ?_
  refine mm_iload_n dX11_count_0 rfl rfl ?_
  refine mm_i2l dX11_count_1 rfl ?_
  refine mm_ldc2 dX11_count_2 kX11_512 ?_
  refine mm_ldc2 dX11_count_5 kX11_514 ?_
  refine mm_cS (Y1 := YX11_in) dX11_count_8 lX11_171 sX11_in (mX11_in d h _ _ _) rfl rfl (by simp [Value.category]) ?_
  refine mm_if_eq 27 dX11_count_11 (by decide) (fun c_11 => ?_) (fun c_11 => ?_)
  · refine mm_iload_n dX11_count_27 rfl rfl ?_
    refine mm_tableIn (off := 63) 91 dX11_count_28 (by decide) (by decide) (by decide) (by decide) ?_
    refine mm_aload_n dX11_count_91 rfl rfl ?_
    refine mm_getS dX11_count_92 fX11_9 sh_165 rfl gr_165_1 ?_
    refine mm_iconst (x := 1) dX11_count_95 (by decide) ?_
    refine mm_iald (1) dX11_count_96 sh_166 rfl (by decide) ?_
    exact mm_iretE dX11_count_97 rfl rfl rfl
  · exact absurd (by decide) c_11
set_option maxRecDepth 100000 in
set_option maxHeartbeats 4000000 in
theorem mX11_count_2 (d : Nat) (h : mm_H) : mm_M (d + 1) YX11_count [.ref 165, .int 2] h (some (.int (h.1 166 2))) h := by
  refine mm_M.of [some (.ref 165), some (.int 2)] rfl rfl (Nat.le_of_ble_eq_true rfl) ?_
  refine mm_iload_n dX11_count_0 rfl rfl ?_
  refine mm_i2l dX11_count_1 rfl ?_
  refine mm_ldc2 dX11_count_2 kX11_512 ?_
  refine mm_ldc2 dX11_count_5 kX11_514 ?_
  refine mm_cS (Y1 := YX11_in) dX11_count_8 lX11_171 sX11_in (mX11_in d h _ _ _) rfl rfl (by simp [Value.category]) ?_
  refine mm_if_eq 27 dX11_count_11 (by decide) (fun c_11 => ?_) (fun c_11 => ?_)
  · refine mm_iload_n dX11_count_27 rfl rfl ?_
    refine mm_tableIn (off := 70) 98 dX11_count_28 (by decide) (by decide) (by decide) (by decide) ?_
    refine mm_aload_n dX11_count_98 rfl rfl ?_
    refine mm_getS dX11_count_99 fX11_9 sh_165 rfl gr_165_1 ?_
    refine mm_iconst (x := 2) dX11_count_102 (by decide) ?_
    refine mm_iald (2) dX11_count_103 sh_166 rfl (by decide) ?_
    exact mm_iretE dX11_count_104 rfl rfl rfl
  · exact absurd (by decide) c_11
set_option maxRecDepth 100000 in
set_option maxHeartbeats 4000000 in
theorem mX11_count_3 (d : Nat) (h : mm_H) : mm_M (d + 1) YX11_count [.ref 165, .int 3] h (some (.int (h.1 166 3))) h := by
  refine mm_M.of [some (.ref 165), some (.int 3)] rfl rfl (Nat.le_of_ble_eq_true rfl) ?_
  refine mm_iload_n dX11_count_0 rfl rfl ?_
  refine mm_i2l dX11_count_1 rfl ?_
  refine mm_ldc2 dX11_count_2 kX11_512 ?_
  refine mm_ldc2 dX11_count_5 kX11_514 ?_
  refine mm_cS (Y1 := YX11_in) dX11_count_8 lX11_171 sX11_in (mX11_in d h _ _ _) rfl rfl (by simp [Value.category]) ?_
  refine mm_if_eq 27 dX11_count_11 (by decide) (fun c_11 => ?_) (fun c_11 => ?_)
  · refine mm_iload_n dX11_count_27 rfl rfl ?_
    refine mm_tableIn (off := 77) 105 dX11_count_28 (by decide) (by decide) (by decide) (by decide) ?_
    refine mm_aload_n dX11_count_105 rfl rfl ?_
    refine mm_getS dX11_count_106 fX11_9 sh_165 rfl gr_165_1 ?_
    refine mm_iconst (x := 3) dX11_count_109 (by decide) ?_
    refine mm_iald (3) dX11_count_110 sh_166 rfl (by decide) ?_
    exact mm_iretE dX11_count_111 rfl rfl rfl
  · exact absurd (by decide) c_11
set_option maxRecDepth 100000 in
set_option maxHeartbeats 4000000 in
theorem mX11_count_4 (d : Nat) (h : mm_H) : mm_M (d + 1) YX11_count [.ref 165, .int 4] h (some (.int (h.1 165 24))) h := by
  refine mm_M.of [some (.ref 165), some (.int 4)] rfl rfl (Nat.le_of_ble_eq_true rfl) ?_
  refine mm_iload_n dX11_count_0 rfl rfl ?_
  refine mm_i2l dX11_count_1 rfl ?_
  refine mm_ldc2 dX11_count_2 kX11_512 ?_
  refine mm_ldc2 dX11_count_5 kX11_514 ?_
  refine mm_cS (Y1 := YX11_in) dX11_count_8 lX11_171 sX11_in (mX11_in d h _ _ _) rfl rfl (by simp [Value.category]) ?_
  refine mm_if_eq 27 dX11_count_11 (by decide) (fun c_11 => ?_) (fun c_11 => ?_)
  · refine mm_iload_n dX11_count_27 rfl rfl ?_
    refine mm_tableIn (off := 84) 112 dX11_count_28 (by decide) (by decide) (by decide) (by decide) ?_
    refine mm_aload_n dX11_count_112 rfl rfl ?_
    refine mm_getI dX11_count_113 fX11_347 sh_165 rfl ?_
    exact mm_iretE dX11_count_116 rfl rfl rfl
  · exact absurd (by decide) c_11
set_option maxRecDepth 100000 in
set_option maxHeartbeats 4000000 in
theorem mX11_count_5 (d : Nat) (h : mm_H) : mm_M (d + 1) YX11_count [.ref 165, .int 5] h (some (.int (h.1 166 5))) h := by
  refine mm_M.of [some (.ref 165), some (.int 5)] rfl rfl (Nat.le_of_ble_eq_true rfl) ?_
  refine mm_iload_n dX11_count_0 rfl rfl ?_
  refine mm_i2l dX11_count_1 rfl ?_
  refine mm_ldc2 dX11_count_2 kX11_512 ?_
  refine mm_ldc2 dX11_count_5 kX11_514 ?_
  refine mm_cS (Y1 := YX11_in) dX11_count_8 lX11_171 sX11_in (mX11_in d h _ _ _) rfl rfl (by simp [Value.category]) ?_
  refine mm_if_eq 27 dX11_count_11 (by decide) (fun c_11 => ?_) (fun c_11 => ?_)
  · refine mm_iload_n dX11_count_27 rfl rfl ?_
    refine mm_tableIn (off := 89) 117 dX11_count_28 (by decide) (by decide) (by decide) (by decide) ?_
    refine mm_aload_n dX11_count_117 rfl rfl ?_
    refine mm_getS dX11_count_118 fX11_9 sh_165 rfl gr_165_1 ?_
    refine mm_iconst (x := 5) dX11_count_121 (by decide) ?_
    refine mm_iald (5) dX11_count_122 sh_166 rfl (by decide) ?_
    exact mm_iretE dX11_count_123 rfl rfl rfl
  · exact absurd (by decide) c_11
set_option maxRecDepth 100000 in
set_option maxHeartbeats 4000000 in
theorem mX11_count_6 (d : Nat) (h : mm_H) : mm_M (d + 1) YX11_count [.ref 165, .int 6] h (some (.int (h.1 166 4))) h := by
  refine mm_M.of [some (.ref 165), some (.int 6)] rfl rfl (Nat.le_of_ble_eq_true rfl) ?_
  refine mm_iload_n dX11_count_0 rfl rfl ?_
  refine mm_i2l dX11_count_1 rfl ?_
  refine mm_ldc2 dX11_count_2 kX11_512 ?_
  refine mm_ldc2 dX11_count_5 kX11_514 ?_
  refine mm_cS (Y1 := YX11_in) dX11_count_8 lX11_171 sX11_in (mX11_in d h _ _ _) rfl rfl (by simp [Value.category]) ?_
  refine mm_if_eq 27 dX11_count_11 (by decide) (fun c_11 => ?_) (fun c_11 => ?_)
  · refine mm_iload_n dX11_count_27 rfl rfl ?_
    refine mm_tableIn (off := 96) 124 dX11_count_28 (by decide) (by decide) (by decide) (by decide) ?_
    refine mm_aload_n dX11_count_124 rfl rfl ?_
    refine mm_getS dX11_count_125 fX11_9 sh_165 rfl gr_165_1 ?_
    refine mm_iconst (x := 4) dX11_count_128 (by decide) ?_
    refine mm_iald (4) dX11_count_129 sh_166 rfl (by decide) ?_
    exact mm_iretE dX11_count_130 rfl rfl rfl
  · exact absurd (by decide) c_11
set_option maxRecDepth 100000 in
set_option maxHeartbeats 4000000 in
theorem mX11_count_7 (d : Nat) (h : mm_H) : mm_M (d + 1) YX11_count [.ref 165, .int 7] h (some (.int (h.1 166 6))) h := by
  refine mm_M.of [some (.ref 165), some (.int 7)] rfl rfl (Nat.le_of_ble_eq_true rfl) ?_
  refine mm_iload_n dX11_count_0 rfl rfl ?_
  refine mm_i2l dX11_count_1 rfl ?_
  refine mm_ldc2 dX11_count_2 kX11_512 ?_
  refine mm_ldc2 dX11_count_5 kX11_514 ?_
  refine mm_cS (Y1 := YX11_in) dX11_count_8 lX11_171 sX11_in (mX11_in d h _ _ _) rfl rfl (by simp [Value.category]) ?_
  refine mm_if_eq 27 dX11_count_11 (by decide) (fun c_11 => ?_) (fun c_11 => ?_)
  · refine mm_iload_n dX11_count_27 rfl rfl ?_
    refine mm_tableIn (off := 103) 131 dX11_count_28 (by decide) (by decide) (by decide) (by decide) ?_
    refine mm_aload_n dX11_count_131 rfl rfl ?_
    refine mm_getS dX11_count_132 fX11_9 sh_165 rfl gr_165_1 ?_
    refine mm_bipush (x := 6) dX11_count_135 (by decide) ?_
    refine mm_iald (6) dX11_count_137 sh_166 rfl (by decide) ?_
    exact mm_iretE dX11_count_138 rfl rfl rfl
  · exact absurd (by decide) c_11
set_option maxRecDepth 100000 in
set_option maxHeartbeats 4000000 in
theorem mX11_count_8 (d : Nat) (h : mm_H) : mm_M (d + 1) YX11_count [.ref 165, .int 8] h (some (.int (h.1 165 20))) h := by
  refine mm_M.of [some (.ref 165), some (.int 8)] rfl rfl (Nat.le_of_ble_eq_true rfl) ?_
  refine mm_iload_n dX11_count_0 rfl rfl ?_
  refine mm_i2l dX11_count_1 rfl ?_
  refine mm_ldc2 dX11_count_2 kX11_512 ?_
  refine mm_ldc2 dX11_count_5 kX11_514 ?_
  refine mm_cS (Y1 := YX11_in) dX11_count_8 lX11_171 sX11_in (mX11_in d h _ _ _) rfl rfl (by simp [Value.category]) ?_
  refine mm_if_eq 27 dX11_count_11 (by decide) (fun c_11 => ?_) (fun c_11 => ?_)
  · refine mm_iload_n dX11_count_27 rfl rfl ?_
    refine mm_tableIn (off := 111) 139 dX11_count_28 (by decide) (by decide) (by decide) (by decide) ?_
    refine mm_aload_n dX11_count_139 rfl rfl ?_
    refine mm_getI dX11_count_140 fX11_181 sh_165 rfl ?_
    exact mm_iretE dX11_count_143 rfl rfl rfl
  · exact absurd (by decide) c_11
set_option maxRecDepth 100000 in
set_option maxHeartbeats 4000000 in
theorem mX11_count_9 (d : Nat) (h : mm_H) (n : Nat) (hn : h.1 166 0 = nI n) (h12 : n ≤ 12) : mm_M (d + 2) YX11_count [.ref 165, .int 9] h (some (.int (sp_worth (h.1 169) (nI (2 ^ n) - 1) n))) h := by
  refine mm_M.of [some (.ref 165), some (.int 9)] rfl rfl (Nat.le_of_ble_eq_true rfl) ?_
  refine mm_iload_n dX11_count_0 rfl rfl ?_
  refine mm_i2l dX11_count_1 rfl ?_
  refine mm_ldc2 dX11_count_2 kX11_512 ?_
  refine mm_ldc2 dX11_count_5 kX11_514 ?_
  refine mm_cS (Y1 := YX11_in) dX11_count_8 lX11_171 sX11_in (mX11_in (d + 1) h _ _ _) rfl rfl (by simp [Value.category]) ?_
  refine mm_if_eq 27 dX11_count_11 (by decide) (fun c_11 => ?_) (fun c_11 => ?_)
  · refine mm_iload_n dX11_count_27 rfl rfl ?_
    refine mm_tableIn (off := 116) 144 dX11_count_28 (by decide) (by decide) (by decide) (by decide) ?_
    refine mm_aload_n dX11_count_144 rfl rfl ?_
    refine mm_iconst (x := 1) dX11_count_145 (by decide) ?_
    refine mm_aload_n dX11_count_146 rfl rfl ?_
    refine mm_getS dX11_count_147 fX11_9 sh_165 rfl gr_165_1 ?_
    refine mm_iconst (x := 0) dX11_count_150 (by decide) ?_
    refine mm_iald (0) dX11_count_151 sh_166 rfl (by decide) ?_
    refine mm_ishl dX11_count_152 ?_
    refine mm_iconst (x := 1) dX11_count_153 (by decide) ?_
    refine mm_isub dX11_count_154 ?_
    refine mm_cV (Y1 := YX11_worthOf) dX11_count_155 lX11_446 vX11_worthOf (mX11_worthOf d h n hn h12 _) sh_165 rfl rfl (by simp [Value.category]) ?_
    exact mm_iretE dX11_count_158 rfl (by rw [hn, sh1 h12]) rfl
  · exact absurd (by decide) c_11
set_option maxRecDepth 100000 in
set_option maxHeartbeats 4000000 in
theorem mX11_count_p (d : Nat) (h : mm_H) (n : Nat) (hn : h.1 166 0 = nI n) (h12 : n ≤ 12) (w : Int32) (hw : 10 ≤ w.toInt ∧ w.toInt < 16) : mm_M (d + 2) YX11_count [.ref 165, .int w] h (some (.int (sp_wheld (h.1 169) (h.1 180) n (w - 10)))) h := by
  refine mm_M.of [some (.ref 165), some (.int w)] rfl rfl (Nat.le_of_ble_eq_true rfl) ?_
  refine mm_iload_n dX11_count_0 rfl rfl ?_
  refine mm_i2l dX11_count_1 rfl ?_
  refine mm_ldc2 dX11_count_2 kX11_512 ?_
  refine mm_ldc2 dX11_count_5 kX11_514 ?_
  refine mm_cS (Y1 := YX11_in) dX11_count_8 lX11_171 sX11_in (mX11_in (d + 1) h _ _ _) rfl rfl (by simp [Value.category]) ?_
  refine mm_if_eq 27 dX11_count_11 (by decide) (fun c_11 => ?_) (fun c_11 => ?_)
  · have q := bI_e0.mp c_11
    exfalso; (try simp only [lg_lt, lg_ge, lg_gt, lg_le] at *); simp only [Int32.lt_iff_toInt_lt, Int32.le_iff_toInt_le, Int64.lt_iff_toInt_lt, Int64.le_iff_toInt_le, ti_0, ti_1, ti_2, ti_3, ti_4, ti_5, ti_6, ti_10, ti_12, ti_200, ti_400, ti_500, ti_999, ti_2400, ti_9999, ti_m9999, ti_m20000, ti_m1, i64_toInt, li_0, li_1, li_2, li_3, li_4, li_5, li_10, li_12, li_15, li_48, li_57, li_200, li_500, li_999, li_2400, li_9999, li_m9999, li_11999] at *; omega
  · refine mm_aload_n dX11_count_14 rfl rfl ?_
    refine mm_aload_n dX11_count_15 rfl rfl ?_
    refine mm_iload_n dX11_count_16 rfl rfl ?_
    refine mm_bipush (x := 10) dX11_count_17 (by decide) ?_
    refine mm_isub dX11_count_19 ?_
    refine mm_cV (Y1 := YX11_heldBy) dX11_count_20 lX11_459 vX11_heldBy (mX11_heldBy (d + 1) h n hn h12 _) sh_165 rfl rfl (by simp [Value.category]) ?_
    refine mm_cV (Y1 := YX11_worthOf) dX11_count_23 lX11_446 vX11_worthOf (mX11_worthOf d h n hn h12 _) sh_165 rfl rfl (by simp [Value.category]) ?_
    exact mm_iretE dX11_count_26 rfl rfl rfl
set_option maxRecDepth 100000 in
set_option maxHeartbeats 4000000 in
theorem mX11_count_o (d : Nat) (h : mm_H) (w : Int32) (hw : w.toInt < 0 ∨ 9 < w.toInt) (hv : ¬ (10 ≤ w.toInt ∧ w.toInt < 16)) : mm_M (d + 2) YX11_count [.ref 165, .int w] h (some (.int (-1))) h := by
  refine mm_M.of [some (.ref 165), some (.int w)] rfl rfl (Nat.le_of_ble_eq_true rfl) ?_
  refine mm_iload_n dX11_count_0 rfl rfl ?_
  refine mm_i2l dX11_count_1 rfl ?_
  refine mm_ldc2 dX11_count_2 kX11_512 ?_
  refine mm_ldc2 dX11_count_5 kX11_514 ?_
  refine mm_cS (Y1 := YX11_in) dX11_count_8 lX11_171 sX11_in (mX11_in (d + 1) h _ _ _) rfl rfl (by simp [Value.category]) ?_
  refine mm_if_eq 27 dX11_count_11 (by decide) (fun c_11 => ?_) (fun c_11 => ?_)
  · refine mm_iload_n dX11_count_27 rfl rfl ?_
    refine mm_tableOut 159 dX11_count_28 hw (by decide) ?_
    refine mm_iconst (x := (-1)) dX11_count_159 (by decide) ?_
    exact mm_iretE dX11_count_160 rfl rfl rfl
  · have q := bI_n0.mp c_11
    exfalso; (try simp only [lg_lt, lg_ge, lg_gt, lg_le] at *); simp only [Int32.lt_iff_toInt_lt, Int32.le_iff_toInt_le, Int64.lt_iff_toInt_lt, Int64.le_iff_toInt_le, ti_0, ti_1, ti_2, ti_3, ti_4, ti_5, ti_6, ti_10, ti_12, ti_200, ti_400, ti_500, ti_999, ti_2400, ti_9999, ti_m9999, ti_m20000, ti_m1, i64_toInt, li_0, li_1, li_2, li_3, li_4, li_5, li_10, li_12, li_15, li_48, li_57, li_200, li_500, li_999, li_2400, li_9999, li_m9999, li_11999] at *; omega
