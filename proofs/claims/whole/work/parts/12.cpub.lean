/-! The class's plain calls. -/
theorem sub10 (w : Int32) (h : 10 ≤ w.toInt) : (w - 10).toInt = w.toInt - 10 := by
  have h0 : ¬ w < 0 := by rw [Int32.lt_iff_toInt_lt, ti_0]; omega
  obtain ⟨j, hj, e⟩ := nI_of h0
  subst e
  have e2 := nI_toInt hj
  have hj10 : 10 ≤ j := by omega
  have e3 : nI j - 10 = nI (j - 10) := pk_sub (a := j) (b := 10) hj10
  rw [e3, nI_toInt (by omega), e2]
  omega
set_option maxRecDepth 100000 in
set_option maxHeartbeats 4000000 in
theorem mX0_forget (d : Nat) (h : mm_H) : mm_M d YX0_forget [.ref 135] h none (mm_up h.1 135 3 (-1), h.2.1, h.2.2) := by
  refine mm_M.of [some (.ref 135)] rfl rfl (Nat.le_of_ble_eq_true rfl) ?_
  refine mm_aload_n dX0_forget_0 rfl rfl ?_
  refine mm_iconst (x := (-1)) dX0_forget_1 (by decide) ?_
  refine mm_putI dX0_forget_2 fX0_9 sh_135 rfl rfl rfl ?_
  exact mm_retE dX0_forget_5 rfl rfl
set_option maxRecDepth 100000 in
set_option maxHeartbeats 4000000 in
theorem mX10_end_t (d : Nat) (h : mm_H) (t : Nat) (ht : h.1 0 1 = nI t) (h4 : t ≤ 400) (n : Int32) (hc : 0 ≤ n.toInt ∧ n.toInt ≤ t) : mm_M d YX10_end [.ref 0, .int n] h (some (.int n)) (mm_up h.1 0 1 n, h.2.1, h.2.2) := by
  refine mm_M.of [some (.ref 0), some (.int n)] rfl rfl (Nat.le_of_ble_eq_true rfl) ?_
  refine mm_iload_n dX10_end_0 rfl rfl ?_
  refine mm_if_lt 12 dX10_end_1 (by decide) (fun c_1 => ?_) (fun c_1 => ?_)
  · exfalso; exact (by (try simp only [lg_lt, lg_ge, lg_gt, lg_le] at *); simp only [ht, nI_toInt (show t < 2 ^ 31 by omega), Int32.lt_iff_toInt_lt, Int32.le_iff_toInt_le, Int64.lt_iff_toInt_lt, Int64.le_iff_toInt_le, ti_0, ti_1, ti_2, ti_3, ti_4, ti_5, ti_6, ti_10, ti_12, ti_200, ti_400, ti_500, ti_999, ti_2400, ti_9999, ti_m9999, ti_m20000, ti_m1, i64_toInt, li_0, li_1, li_2, li_3, li_4, li_5, li_10, li_12, li_15, li_48, li_57, li_200, li_500, li_999, li_2400, li_9999, li_m9999, li_11999] at *; omega)
  · refine mm_iload_n dX10_end_4 rfl rfl ?_
    refine mm_aload_n dX10_end_5 rfl rfl ?_
    refine mm_getI dX10_end_6 fX10_91 sh_0 rfl ?_
    refine mm_icmp_le 14 dX10_end_9 (by decide) (fun c_9 => ?_) (fun c_9 => ?_)
    · refine mm_aload_n dX10_end_14 rfl rfl ?_
      refine mm_iload_n dX10_end_15 rfl rfl ?_
      refine mm_putI dX10_end_16 fX10_91 sh_0 rfl rfl rfl ?_
      refine mm_iload_n dX10_end_19 rfl rfl ?_
      exact mm_iretE dX10_end_20 rfl rfl rfl
    · exfalso; (try simp only [lg_lt, lg_ge, lg_gt, lg_le] at *); simp only [ht, nI_toInt (show t < 2 ^ 31 by omega), Int32.lt_iff_toInt_lt, Int32.le_iff_toInt_le, Int64.lt_iff_toInt_lt, Int64.le_iff_toInt_le, ti_0, ti_1, ti_2, ti_3, ti_4, ti_5, ti_6, ti_10, ti_12, ti_200, ti_400, ti_500, ti_999, ti_2400, ti_9999, ti_m9999, ti_m20000, ti_m1, i64_toInt, li_0, li_1, li_2, li_3, li_4, li_5, li_10, li_12, li_15, li_48, li_57, li_200, li_500, li_999, li_2400, li_9999, li_m9999, li_11999] at *; omega
set_option maxRecDepth 100000 in
set_option maxHeartbeats 4000000 in
theorem mX10_end_f (d : Nat) (h : mm_H) (t : Nat) (ht : h.1 0 1 = nI t) (h4 : t ≤ 400) (n : Int32) (hc : ¬ (0 ≤ n.toInt ∧ n.toInt ≤ t)) : mm_M d YX10_end [.ref 0, .int n] h (some (.int (-1))) h := by
  refine mm_M.of [some (.ref 0), some (.int n)] rfl rfl (Nat.le_of_ble_eq_true rfl) ?_
  refine mm_iload_n dX10_end_0 rfl rfl ?_
  refine mm_if_lt 12 dX10_end_1 (by decide) (fun c_1 => ?_) (fun c_1 => ?_)
  · refine mm_iconst (x := (-1)) dX10_end_12 (by decide) ?_
    exact mm_iretE dX10_end_13 rfl rfl rfl
  · refine mm_iload_n dX10_end_4 rfl rfl ?_
    refine mm_aload_n dX10_end_5 rfl rfl ?_
    refine mm_getI dX10_end_6 fX10_91 sh_0 rfl ?_
    refine mm_icmp_le 14 dX10_end_9 (by decide) (fun c_9 => ?_) (fun c_9 => ?_)
    · exfalso; (try simp only [lg_lt, lg_ge, lg_gt, lg_le] at *); simp only [ht, nI_toInt (show t < 2 ^ 31 by omega), Int32.lt_iff_toInt_lt, Int32.le_iff_toInt_le, Int64.lt_iff_toInt_lt, Int64.le_iff_toInt_le, ti_0, ti_1, ti_2, ti_3, ti_4, ti_5, ti_6, ti_10, ti_12, ti_200, ti_400, ti_500, ti_999, ti_2400, ti_9999, ti_m9999, ti_m20000, ti_m1, i64_toInt, li_0, li_1, li_2, li_3, li_4, li_5, li_10, li_12, li_15, li_48, li_57, li_200, li_500, li_999, li_2400, li_9999, li_m9999, li_11999] at *; omega
    · refine mm_iconst (x := (-1)) dX10_end_12 (by decide) ?_
      exact mm_iretE dX10_end_13 rfl rfl rfl
set_option maxRecDepth 100000 in
set_option maxHeartbeats 4000000 in
theorem mX10_seed_t (d : Nat) (h : mm_H) (x : Int32) (hc : 0 ≤ x.toInt) : mm_M d YX10_seed [.ref 0, .int x] h (some (.int (h.1 61 6))) (mm_up h.1 61 6 x, h.2.1, h.2.2) := by
  refine mm_M.of [some (.ref 0), some (.int x), none] rfl rfl (Nat.le_of_ble_eq_true rfl) ?_
  refine mm_iload_n dX10_seed_0 rfl rfl ?_
  refine mm_if_ge 6 dX10_seed_1 (by decide) (fun c_1 => ?_) (fun c_1 => ?_)
  · refine mm_aload_n dX10_seed_6 rfl rfl ?_
    refine mm_getS dX10_seed_7 fX10_45 sh_0 rfl gr_0_7 ?_
    refine mm_getI dX10_seed_10 fX10_294 sh_61 rfl ?_
    refine mm_istore_n dX10_seed_13 rfl (by decide) rfl ?_
    refine mm_aload_n dX10_seed_14 rfl rfl ?_
    refine mm_getS dX10_seed_15 fX10_45 sh_0 rfl gr_0_7 ?_
    refine mm_iload_n dX10_seed_18 rfl rfl ?_
    refine mm_putI dX10_seed_19 fX10_294 sh_61 rfl rfl rfl ?_
    refine mm_iload_n dX10_seed_22 rfl rfl ?_
    exact mm_iretE dX10_seed_23 rfl rfl rfl
  · exfalso; (try simp only [lg_lt, lg_ge, lg_gt, lg_le] at *); simp only [Int32.lt_iff_toInt_lt, Int32.le_iff_toInt_le, Int64.lt_iff_toInt_lt, Int64.le_iff_toInt_le, ti_0, ti_1, ti_2, ti_3, ti_4, ti_5, ti_6, ti_10, ti_12, ti_200, ti_400, ti_500, ti_999, ti_2400, ti_9999, ti_m9999, ti_m20000, ti_m1, i64_toInt, li_0, li_1, li_2, li_3, li_4, li_5, li_10, li_12, li_15, li_48, li_57, li_200, li_500, li_999, li_2400, li_9999, li_m9999, li_11999] at *; omega
set_option maxRecDepth 100000 in
set_option maxHeartbeats 4000000 in
theorem mX10_seed_f (d : Nat) (h : mm_H) (x : Int32) (hc : ¬ 0 ≤ x.toInt) : mm_M d YX10_seed [.ref 0, .int x] h (some (.int (-1))) h := by
  refine mm_M.of [some (.ref 0), some (.int x), none] rfl rfl (Nat.le_of_ble_eq_true rfl) ?_
  refine mm_iload_n dX10_seed_0 rfl rfl ?_
  refine mm_if_ge 6 dX10_seed_1 (by decide) (fun c_1 => ?_) (fun c_1 => ?_)
  · exfalso; (try simp only [lg_lt, lg_ge, lg_gt, lg_le] at *); simp only [Int32.lt_iff_toInt_lt, Int32.le_iff_toInt_le, Int64.lt_iff_toInt_lt, Int64.le_iff_toInt_le, ti_0, ti_1, ti_2, ti_3, ti_4, ti_5, ti_6, ti_10, ti_12, ti_200, ti_400, ti_500, ti_999, ti_2400, ti_9999, ti_m9999, ti_m20000, ti_m1, i64_toInt, li_0, li_1, li_2, li_3, li_4, li_5, li_10, li_12, li_15, li_48, li_57, li_200, li_500, li_999, li_2400, li_9999, li_m9999, li_11999] at *; omega
  · refine mm_iconst (x := (-1)) dX10_seed_4 (by decide) ?_
    exact mm_iretE dX10_seed_5 rfl rfl rfl
set_option maxRecDepth 100000 in
set_option maxHeartbeats 4000000 in
theorem mX10_give_t (d : Nat) (h : mm_H) (n : Nat) (hn : h.1 65 0 = nI n) (h12 : n ≤ 12) (j : Nat) (hj : j < n) (p : Int32) (hp : 0 ≤ p.toInt ∧ p.toInt < 6) : mm_M (d + 1) YX10_give [.ref 0, .int (nI j), .int p] h (some (.int (h.1 70 j))) (mm_up h.1 70 j p, h.2.1, h.2.2) := by
  refine mm_M.of [some (.ref 0), some (.int (nI j)), some (.int p), none] rfl rfl (Nat.le_of_ble_eq_true rfl) ?_
  refine mm_aload_n dX10_give_0 rfl rfl ?_
  refine mm_iload_n dX10_give_1 rfl rfl ?_
  refine mm_cV (Y1 := YX10_isCoin) dX10_give_2 lX10_126 vX10_isCoin (mX10_isCoin d h n hn h12 _) sh_0 rfl rfl (by simp [Value.category]) ?_
  refine mm_if_eq 15 dX10_give_5 (by decide) (fun c_5 => ?_) (fun c_5 => ?_)
  · exact absurd ⟨by rw [nI_toInt (by omega)]; omega, by rw [nI_toInt (by omega)]; omega⟩ (bI_e0.mp c_5)
  · refine mm_iload_n dX10_give_8 rfl rfl ?_
    refine mm_cS (Y1 := YX10_isPerson) dX10_give_9 lX10_162 sX10_isPerson (mX10_isPerson d h p) rfl rfl (by simp [Value.category]) ?_
    refine mm_if_ne 17 dX10_give_12 (by decide) (fun c_12 => ?_) (fun c_12 => ?_)
    · refine mm_aload_n dX10_give_17 rfl rfl ?_
      refine mm_getS dX10_give_18 fX10_45 sh_0 rfl gr_0_7 ?_
      refine mm_getS dX10_give_21 fX10_63 sh_61 rfl gr_61_0 ?_
      refine mm_getS dX10_give_24 fX10_143 sh_65 rfl gr_65_5 ?_
      refine mm_iload_n dX10_give_27 rfl rfl ?_
      refine mm_iald (j) dX10_give_28 sh_70 rfl (by omega) ?_
      refine mm_istore_n dX10_give_29 rfl (by decide) rfl ?_
      refine mm_aload_n dX10_give_30 rfl rfl ?_
      refine mm_getS dX10_give_31 fX10_45 sh_0 rfl gr_0_7 ?_
      refine mm_getS dX10_give_34 fX10_63 sh_61 rfl gr_61_0 ?_
      refine mm_getS dX10_give_37 fX10_143 sh_65 rfl gr_65_5 ?_
      refine mm_iload_n dX10_give_40 rfl rfl ?_
      refine mm_iload_n dX10_give_41 rfl rfl ?_
      refine mm_iast (j) dX10_give_42 sh_70 rfl (by omega) ?_
      refine mm_iload_n dX10_give_43 rfl rfl ?_
      exact mm_iretE dX10_give_44 rfl rfl rfl
    · exact absurd hp (bI_e0.mp c_12)
set_option maxRecDepth 100000 in
set_option maxHeartbeats 4000000 in
theorem mX10_give_f (d : Nat) (h : mm_H) (n : Nat) (hn : h.1 65 0 = nI n) (h12 : n ≤ 12) (c p : Int32) (hc : ¬ ((0 ≤ c.toInt ∧ c.toInt < n) ∧ (0 ≤ p.toInt ∧ p.toInt < 6))) : mm_M (d + 1) YX10_give [.ref 0, .int c, .int p] h (some (.int (-1))) h := by
  refine mm_M.of [some (.ref 0), some (.int c), some (.int p), none] rfl rfl (Nat.le_of_ble_eq_true rfl) ?_
  refine mm_aload_n dX10_give_0 rfl rfl ?_
  refine mm_iload_n dX10_give_1 rfl rfl ?_
  refine mm_cV (Y1 := YX10_isCoin) dX10_give_2 lX10_126 vX10_isCoin (mX10_isCoin d h n hn h12 _) sh_0 rfl rfl (by simp [Value.category]) ?_
  refine mm_if_eq 15 dX10_give_5 (by decide) (fun c_5 => ?_) (fun c_5 => ?_)
  · refine mm_iconst (x := (-1)) dX10_give_15 (by decide) ?_
    exact mm_iretE dX10_give_16 rfl rfl rfl
  · refine mm_iload_n dX10_give_8 rfl rfl ?_
    refine mm_cS (Y1 := YX10_isPerson) dX10_give_9 lX10_162 sX10_isPerson (mX10_isPerson d h p) rfl rfl (by simp [Value.category]) ?_
    refine mm_if_ne 17 dX10_give_12 (by decide) (fun c_12 => ?_) (fun c_12 => ?_)
    · exact absurd ⟨bI_n0.mp c_5, bI_n0.mp c_12⟩ hc
    · refine mm_iconst (x := (-1)) dX10_give_15 (by decide) ?_
      exact mm_iretE dX10_give_16 rfl rfl rfl
set_option maxRecDepth 100000 in
set_option maxHeartbeats 4000000 in
theorem mX10_retune_t (d : Nat) (h : mm_H) (n : Nat) (hn : h.1 65 0 = nI n) (h12 : n ≤ 12) (j : Nat) (hj : j < n) (p : Int32) (hp : 0 ≤ p.toInt ∧ p.toInt ≤ 2400) : mm_M (d + 1) YX10_retune [.ref 0, .int (nI j), .int p] h (some (.int (h.1 66 j))) (mm_up (mm_up h.1 66 j p) 135 3 (-1), h.2.1, h.2.2) := by
  refine mm_M.of [some (.ref 0), some (.int (nI j)), some (.int p), none] rfl rfl (Nat.le_of_ble_eq_true rfl) ?_
  refine mm_aload_n dX10_retune_0 rfl rfl ?_
  refine mm_iload_n dX10_retune_1 rfl rfl ?_
  refine mm_cV (Y1 := YX10_isCoin) dX10_retune_2 lX10_126 vX10_isCoin (mX10_isCoin d h n hn h12 _) sh_0 rfl rfl (by simp [Value.category]) ?_
  refine mm_if_eq 19 dX10_retune_5 (by decide) (fun c_5 => ?_) (fun c_5 => ?_)
  · exact absurd ⟨by rw [nI_toInt (by omega)]; omega, by rw [nI_toInt (by omega)]; omega⟩ (bI_e0.mp c_5)
  · refine mm_iload_n dX10_retune_8 rfl rfl ?_
    refine mm_if_lt 19 dX10_retune_9 (by decide) (fun c_9 => ?_) (fun c_9 => ?_)
    · exfalso; (try simp only [lg_lt, lg_ge, lg_gt, lg_le] at *); simp only [Int32.lt_iff_toInt_lt, Int32.le_iff_toInt_le, Int64.lt_iff_toInt_lt, Int64.le_iff_toInt_le, ti_0, ti_1, ti_2, ti_3, ti_4, ti_5, ti_6, ti_10, ti_12, ti_200, ti_400, ti_500, ti_999, ti_2400, ti_9999, ti_m9999, ti_m20000, ti_m1, i64_toInt, li_0, li_1, li_2, li_3, li_4, li_5, li_10, li_12, li_15, li_48, li_57, li_200, li_500, li_999, li_2400, li_9999, li_m9999, li_11999] at *; omega
    · refine mm_iload_n dX10_retune_12 rfl rfl ?_
      refine mm_sipush (x := 2400) dX10_retune_13 (by decide) ?_
      refine mm_icmp_le 21 dX10_retune_16 (by decide) (fun c_16 => ?_) (fun c_16 => ?_)
      · refine mm_aload_n dX10_retune_21 rfl rfl ?_
        refine mm_getS dX10_retune_22 fX10_45 sh_0 rfl gr_0_7 ?_
        refine mm_getS dX10_retune_25 fX10_63 sh_61 rfl gr_61_0 ?_
        refine mm_getS dX10_retune_28 fX10_130 sh_65 rfl gr_65_1 ?_
        refine mm_iload_n dX10_retune_31 rfl rfl ?_
        refine mm_iald (j) dX10_retune_32 sh_66 rfl (by omega) ?_
        refine mm_istore_n dX10_retune_33 rfl (by decide) rfl ?_
        refine mm_aload_n dX10_retune_34 rfl rfl ?_
        refine mm_getS dX10_retune_35 fX10_45 sh_0 rfl gr_0_7 ?_
        refine mm_getS dX10_retune_38 fX10_63 sh_61 rfl gr_61_0 ?_
        refine mm_getS dX10_retune_41 fX10_130 sh_65 rfl gr_65_1 ?_
        refine mm_iload_n dX10_retune_44 rfl rfl ?_
        refine mm_iload_n dX10_retune_45 rfl rfl ?_
        refine mm_iast (j) dX10_retune_46 sh_66 rfl (by omega) ?_
        refine mm_aload_n dX10_retune_47 rfl rfl ?_
        refine mm_getS dX10_retune_48 fX10_69 sh_0 rfl gr_0_10 ?_
        refine mm_cV (Y1 := YX0_forget) dX10_retune_51 lX10_114 vX0_forget (mX0_forget d _) sh_135 rfl rfl (by simp [Value.category]) ?_
        refine mm_iload_n dX10_retune_54 rfl rfl ?_
        exact mm_iretE dX10_retune_55 rfl rfl rfl
      · exfalso; (try simp only [lg_lt, lg_ge, lg_gt, lg_le] at *); simp only [Int32.lt_iff_toInt_lt, Int32.le_iff_toInt_le, Int64.lt_iff_toInt_lt, Int64.le_iff_toInt_le, ti_0, ti_1, ti_2, ti_3, ti_4, ti_5, ti_6, ti_10, ti_12, ti_200, ti_400, ti_500, ti_999, ti_2400, ti_9999, ti_m9999, ti_m20000, ti_m1, i64_toInt, li_0, li_1, li_2, li_3, li_4, li_5, li_10, li_12, li_15, li_48, li_57, li_200, li_500, li_999, li_2400, li_9999, li_m9999, li_11999] at *; omega
set_option maxRecDepth 100000 in
set_option maxHeartbeats 4000000 in
theorem mX10_retune_f (d : Nat) (h : mm_H) (n : Nat) (hn : h.1 65 0 = nI n) (h12 : n ≤ 12) (c p : Int32) (hc : ¬ ((0 ≤ c.toInt ∧ c.toInt < n) ∧ (0 ≤ p.toInt ∧ p.toInt ≤ 2400))) : mm_M (d + 1) YX10_retune [.ref 0, .int c, .int p] h (some (.int (-1))) h := by
  refine mm_M.of [some (.ref 0), some (.int c), some (.int p), none] rfl rfl (Nat.le_of_ble_eq_true rfl) ?_
  refine mm_aload_n dX10_retune_0 rfl rfl ?_
  refine mm_iload_n dX10_retune_1 rfl rfl ?_
  refine mm_cV (Y1 := YX10_isCoin) dX10_retune_2 lX10_126 vX10_isCoin (mX10_isCoin d h n hn h12 _) sh_0 rfl rfl (by simp [Value.category]) ?_
  refine mm_if_eq 19 dX10_retune_5 (by decide) (fun c_5 => ?_) (fun c_5 => ?_)
  · refine mm_iconst (x := (-1)) dX10_retune_19 (by decide) ?_
    exact mm_iretE dX10_retune_20 rfl rfl rfl
  · refine mm_iload_n dX10_retune_8 rfl rfl ?_
    refine mm_if_lt 19 dX10_retune_9 (by decide) (fun c_9 => ?_) (fun c_9 => ?_)
    · refine mm_iconst (x := (-1)) dX10_retune_19 (by decide) ?_
      exact mm_iretE dX10_retune_20 rfl rfl rfl
    · refine mm_iload_n dX10_retune_12 rfl rfl ?_
      refine mm_sipush (x := 2400) dX10_retune_13 (by decide) ?_
      refine mm_icmp_le 21 dX10_retune_16 (by decide) (fun c_16 => ?_) (fun c_16 => ?_)
      · have q := bI_n0.mp c_5
        exfalso; (try simp only [lg_lt, lg_ge, lg_gt, lg_le] at *); simp only [Int32.lt_iff_toInt_lt, Int32.le_iff_toInt_le, Int64.lt_iff_toInt_lt, Int64.le_iff_toInt_le, ti_0, ti_1, ti_2, ti_3, ti_4, ti_5, ti_6, ti_10, ti_12, ti_200, ti_400, ti_500, ti_999, ti_2400, ti_9999, ti_m9999, ti_m20000, ti_m1, i64_toInt, li_0, li_1, li_2, li_3, li_4, li_5, li_10, li_12, li_15, li_48, li_57, li_200, li_500, li_999, li_2400, li_9999, li_m9999, li_11999] at *; omega
      · refine mm_iconst (x := (-1)) dX10_retune_19 (by decide) ?_
        exact mm_iretE dX10_retune_20 rfl rfl rfl
set_option maxRecDepth 100000 in
set_option maxHeartbeats 4000000 in
theorem mX10_coin_f (d : Nat) (h : mm_H) (n : Nat) (hn : h.1 65 0 = nI n) (h12 : n ≤ 12) (c w : Int32) (hc : ¬ (0 ≤ c.toInt ∧ c.toInt < n)) : mm_M (d + 1) YX10_coin [.ref 0, .int c, .int w] h (some (.int (-1))) h := by
  refine mm_M.of [some (.ref 0), some (.int c), some (.int w), none] rfl rfl (Nat.le_of_ble_eq_true rfl) ?_
  refine mm_aload_n dX10_coin_0 rfl rfl ?_
  refine mm_iload_n dX10_coin_1 rfl rfl ?_
  refine mm_cV (Y1 := YX10_isCoin) dX10_coin_2 lX10_126 vX10_isCoin (mX10_isCoin d h n hn h12 _) sh_0 rfl rfl (by simp [Value.category]) ?_
  refine mm_if_ne 10 dX10_coin_5 (by decide) (fun c_5 => ?_) (fun c_5 => ?_)
  · exact absurd (bI_n0.mp c_5) hc
  · refine mm_iconst (x := (-1)) dX10_coin_8 (by decide) ?_
    exact mm_iretE dX10_coin_9 rfl rfl rfl
set_option maxRecDepth 100000 in
set_option maxHeartbeats 4000000 in
theorem mX10_coin_0 (d : Nat) (h : mm_H) (n : Nat) (hn : h.1 65 0 = nI n) (h12 : n ≤ 12) (j : Nat) (hj : j < n) : mm_M (d + 1) YX10_coin [.ref 0, .int (nI j), .int 0] h (some (.int (h.1 66 j))) h := by
  refine mm_M.of [some (.ref 0), some (.int (nI j)), some (.int 0), none] rfl rfl (Nat.le_of_ble_eq_true rfl) ?_
  refine mm_aload_n dX10_coin_0 rfl rfl ?_
  refine mm_iload_n dX10_coin_1 rfl rfl ?_
  refine mm_cV (Y1 := YX10_isCoin) dX10_coin_2 lX10_126 vX10_isCoin (mX10_isCoin d h n hn h12 _) sh_0 rfl rfl (by simp [Value.category]) ?_
  refine mm_if_ne 10 dX10_coin_5 (by decide) (fun c_5 => ?_) (fun c_5 => ?_)
  · refine mm_aload_n dX10_coin_10 rfl rfl ?_
    refine mm_getS dX10_coin_11 fX10_45 sh_0 rfl gr_0_7 ?_
    refine mm_getS dX10_coin_14 fX10_63 sh_61 rfl gr_61_0 ?_
    refine mm_astore_n dX10_coin_17 rfl (by decide) rfl ?_
    refine mm_iload_n dX10_coin_18 rfl rfl ?_
    refine mm_tableIn (off := 41) 60 dX10_coin_19 (by decide) (by decide) (by decide) (by decide) ?_
    refine mm_aload_n dX10_coin_60 rfl rfl ?_
    refine mm_getS dX10_coin_61 fX10_130 sh_65 rfl gr_65_1 ?_
    refine mm_iload_n dX10_coin_64 rfl rfl ?_
    refine mm_iald (j) dX10_coin_65 sh_66 rfl (by omega) ?_
    exact mm_iretE dX10_coin_66 rfl rfl rfl
  · exact absurd ⟨by rw [nI_toInt (by omega)]; omega, by rw [nI_toInt (by omega)]; omega⟩ (bI_e0.mp c_5)
set_option maxRecDepth 100000 in
set_option maxHeartbeats 4000000 in
theorem mX10_coin_1 (d : Nat) (h : mm_H) (n : Nat) (hn : h.1 65 0 = nI n) (h12 : n ≤ 12) (j : Nat) (hj : j < n) : mm_M (d + 1) YX10_coin [.ref 0, .int (nI j), .int 1] h (some (.int (h.1 67 j))) h := by
  refine mm_M.of [some (.ref 0), some (.int (nI j)), some (.int 1), none] rfl rfl (Nat.le_of_ble_eq_true rfl) ?_
  refine mm_aload_n dX10_coin_0 rfl rfl ?_
  refine mm_iload_n dX10_coin_1 rfl rfl ?_
  refine mm_cV (Y1 := YX10_isCoin) dX10_coin_2 lX10_126 vX10_isCoin (mX10_isCoin d h n hn h12 _) sh_0 rfl rfl (by simp [Value.category]) ?_
  refine mm_if_ne 10 dX10_coin_5 (by decide) (fun c_5 => ?_) (fun c_5 => ?_)
  · refine mm_aload_n dX10_coin_10 rfl rfl ?_
    refine mm_getS dX10_coin_11 fX10_45 sh_0 rfl gr_0_7 ?_
    refine mm_getS dX10_coin_14 fX10_63 sh_61 rfl gr_61_0 ?_
    refine mm_astore_n dX10_coin_17 rfl (by decide) rfl ?_
    refine mm_iload_n dX10_coin_18 rfl rfl ?_
    refine mm_tableIn (off := 48) 67 dX10_coin_19 (by decide) (by decide) (by decide) (by decide) ?_
    refine mm_aload_n dX10_coin_67 rfl rfl ?_
    refine mm_getS dX10_coin_68 fX10_134 sh_65 rfl gr_65_2 ?_
    refine mm_iload_n dX10_coin_71 rfl rfl ?_
    refine mm_iald (j) dX10_coin_72 sh_67 rfl (by omega) ?_
    exact mm_iretE dX10_coin_73 rfl rfl rfl
  · exact absurd ⟨by rw [nI_toInt (by omega)]; omega, by rw [nI_toInt (by omega)]; omega⟩ (bI_e0.mp c_5)
set_option maxRecDepth 100000 in
set_option maxHeartbeats 4000000 in
theorem mX10_coin_2 (d : Nat) (h : mm_H) (n : Nat) (hn : h.1 65 0 = nI n) (h12 : n ≤ 12) (j : Nat) (hj : j < n) : mm_M (d + 1) YX10_coin [.ref 0, .int (nI j), .int 2] h (some (.int (h.1 68 j))) h := by
  refine mm_M.of [some (.ref 0), some (.int (nI j)), some (.int 2), none] rfl rfl (Nat.le_of_ble_eq_true rfl) ?_
  refine mm_aload_n dX10_coin_0 rfl rfl ?_
  refine mm_iload_n dX10_coin_1 rfl rfl ?_
  refine mm_cV (Y1 := YX10_isCoin) dX10_coin_2 lX10_126 vX10_isCoin (mX10_isCoin d h n hn h12 _) sh_0 rfl rfl (by simp [Value.category]) ?_
  refine mm_if_ne 10 dX10_coin_5 (by decide) (fun c_5 => ?_) (fun c_5 => ?_)
  · refine mm_aload_n dX10_coin_10 rfl rfl ?_
    refine mm_getS dX10_coin_11 fX10_45 sh_0 rfl gr_0_7 ?_
    refine mm_getS dX10_coin_14 fX10_63 sh_61 rfl gr_61_0 ?_
    refine mm_astore_n dX10_coin_17 rfl (by decide) rfl ?_
    refine mm_iload_n dX10_coin_18 rfl rfl ?_
    refine mm_tableIn (off := 55) 74 dX10_coin_19 (by decide) (by decide) (by decide) (by decide) ?_
    refine mm_aload_n dX10_coin_74 rfl rfl ?_
    refine mm_getS dX10_coin_75 fX10_137 sh_65 rfl gr_65_3 ?_
    refine mm_iload_n dX10_coin_78 rfl rfl ?_
    refine mm_iald (j) dX10_coin_79 sh_68 rfl (by omega) ?_
    exact mm_iretE dX10_coin_80 rfl rfl rfl
  · exact absurd ⟨by rw [nI_toInt (by omega)]; omega, by rw [nI_toInt (by omega)]; omega⟩ (bI_e0.mp c_5)
set_option maxRecDepth 100000 in
set_option maxHeartbeats 4000000 in
theorem mX10_coin_3 (d : Nat) (h : mm_H) (n : Nat) (hn : h.1 65 0 = nI n) (h12 : n ≤ 12) (j : Nat) (hj : j < n) : mm_M (d + 1) YX10_coin [.ref 0, .int (nI j), .int 3] h (some (.int (h.1 69 j))) h := by
  refine mm_M.of [some (.ref 0), some (.int (nI j)), some (.int 3), none] rfl rfl (Nat.le_of_ble_eq_true rfl) ?_
  refine mm_aload_n dX10_coin_0 rfl rfl ?_
  refine mm_iload_n dX10_coin_1 rfl rfl ?_
  refine mm_cV (Y1 := YX10_isCoin) dX10_coin_2 lX10_126 vX10_isCoin (mX10_isCoin d h n hn h12 _) sh_0 rfl rfl (by simp [Value.category]) ?_
  refine mm_if_ne 10 dX10_coin_5 (by decide) (fun c_5 => ?_) (fun c_5 => ?_)
  · refine mm_aload_n dX10_coin_10 rfl rfl ?_
    refine mm_getS dX10_coin_11 fX10_45 sh_0 rfl gr_0_7 ?_
    refine mm_getS dX10_coin_14 fX10_63 sh_61 rfl gr_61_0 ?_
    refine mm_astore_n dX10_coin_17 rfl (by decide) rfl ?_
    refine mm_iload_n dX10_coin_18 rfl rfl ?_
    refine mm_tableIn (off := 62) 81 dX10_coin_19 (by decide) (by decide) (by decide) (by decide) ?_
    refine mm_aload_n dX10_coin_81 rfl rfl ?_
    refine mm_getS dX10_coin_82 fX10_140 sh_65 rfl gr_65_4 ?_
    refine mm_iload_n dX10_coin_85 rfl rfl ?_
    refine mm_iald (j) dX10_coin_86 sh_69 rfl (by omega) ?_
    exact mm_iretE dX10_coin_87 rfl rfl rfl
  · exact absurd ⟨by rw [nI_toInt (by omega)]; omega, by rw [nI_toInt (by omega)]; omega⟩ (bI_e0.mp c_5)
set_option maxRecDepth 100000 in
set_option maxHeartbeats 4000000 in
theorem mX10_coin_4 (d : Nat) (h : mm_H) (n : Nat) (hn : h.1 65 0 = nI n) (h12 : n ≤ 12) (j : Nat) (hj : j < n) : mm_M (d + 1) YX10_coin [.ref 0, .int (nI j), .int 4] h (some (.int (h.1 70 j))) h := by
  refine mm_M.of [some (.ref 0), some (.int (nI j)), some (.int 4), none] rfl rfl (Nat.le_of_ble_eq_true rfl) ?_
  refine mm_aload_n dX10_coin_0 rfl rfl ?_
  refine mm_iload_n dX10_coin_1 rfl rfl ?_
  refine mm_cV (Y1 := YX10_isCoin) dX10_coin_2 lX10_126 vX10_isCoin (mX10_isCoin d h n hn h12 _) sh_0 rfl rfl (by simp [Value.category]) ?_
  refine mm_if_ne 10 dX10_coin_5 (by decide) (fun c_5 => ?_) (fun c_5 => ?_)
  · refine mm_aload_n dX10_coin_10 rfl rfl ?_
    refine mm_getS dX10_coin_11 fX10_45 sh_0 rfl gr_0_7 ?_
    refine mm_getS dX10_coin_14 fX10_63 sh_61 rfl gr_61_0 ?_
    refine mm_astore_n dX10_coin_17 rfl (by decide) rfl ?_
    refine mm_iload_n dX10_coin_18 rfl rfl ?_
    refine mm_tableIn (off := 69) 88 dX10_coin_19 (by decide) (by decide) (by decide) (by decide) ?_
    refine mm_aload_n dX10_coin_88 rfl rfl ?_
    refine mm_getS dX10_coin_89 fX10_143 sh_65 rfl gr_65_5 ?_
    refine mm_iload_n dX10_coin_92 rfl rfl ?_
    refine mm_iald (j) dX10_coin_93 sh_70 rfl (by omega) ?_
    exact mm_iretE dX10_coin_94 rfl rfl rfl
  · exact absurd ⟨by rw [nI_toInt (by omega)]; omega, by rw [nI_toInt (by omega)]; omega⟩ (bI_e0.mp c_5)
set_option maxRecDepth 100000 in
set_option maxHeartbeats 4000000 in
theorem mX10_coin_5 (d : Nat) (h : mm_H) (n : Nat) (hn : h.1 65 0 = nI n) (h12 : n ≤ 12) (j : Nat) (hj : j < n) : mm_M (d + 1) YX10_coin [.ref 0, .int (nI j), .int 5] h (some (.int (h.1 71 j))) h := by
  refine mm_M.of [some (.ref 0), some (.int (nI j)), some (.int 5), none] rfl rfl (Nat.le_of_ble_eq_true rfl) ?_
  refine mm_aload_n dX10_coin_0 rfl rfl ?_
  refine mm_iload_n dX10_coin_1 rfl rfl ?_
  refine mm_cV (Y1 := YX10_isCoin) dX10_coin_2 lX10_126 vX10_isCoin (mX10_isCoin d h n hn h12 _) sh_0 rfl rfl (by simp [Value.category]) ?_
  refine mm_if_ne 10 dX10_coin_5 (by decide) (fun c_5 => ?_) (fun c_5 => ?_)
  · refine mm_aload_n dX10_coin_10 rfl rfl ?_
    refine mm_getS dX10_coin_11 fX10_45 sh_0 rfl gr_0_7 ?_
    refine mm_getS dX10_coin_14 fX10_63 sh_61 rfl gr_61_0 ?_
    refine mm_astore_n dX10_coin_17 rfl (by decide) rfl ?_
    refine mm_iload_n dX10_coin_18 rfl rfl ?_
    refine mm_tableIn (off := 76) 95 dX10_coin_19 (by decide) (by decide) (by decide) (by decide) ?_
    refine mm_aload_n dX10_coin_95 rfl rfl ?_
    refine mm_getS dX10_coin_96 fX10_146 sh_65 rfl gr_65_6 ?_
    refine mm_iload_n dX10_coin_99 rfl rfl ?_
    refine mm_iald (j) dX10_coin_100 sh_71 rfl (by omega) ?_
    exact mm_iretE dX10_coin_101 rfl rfl rfl
  · exact absurd ⟨by rw [nI_toInt (by omega)]; omega, by rw [nI_toInt (by omega)]; omega⟩ (bI_e0.mp c_5)
set_option maxRecDepth 100000 in
set_option maxHeartbeats 4000000 in
theorem mX10_coin_6 (d : Nat) (h : mm_H) (n : Nat) (hn : h.1 65 0 = nI n) (h12 : n ≤ 12) (j : Nat) (hj : j < n) : mm_M (d + 1) YX10_coin [.ref 0, .int (nI j), .int 6] h (some (.int (sp_crack (h.1 71) (h.1 69) j))) h := by
  refine mm_M.of [some (.ref 0), some (.int (nI j)), some (.int 6), none] rfl rfl (Nat.le_of_ble_eq_true rfl) ?_
  refine mm_aload_n dX10_coin_0 rfl rfl ?_
  refine mm_iload_n dX10_coin_1 rfl rfl ?_
  refine mm_cV (Y1 := YX10_isCoin) dX10_coin_2 lX10_126 vX10_isCoin (mX10_isCoin d h n hn h12 _) sh_0 rfl rfl (by simp [Value.category]) ?_
  refine mm_if_ne 10 dX10_coin_5 (by decide) (fun c_5 => ?_) (fun c_5 => ?_)
  · refine mm_aload_n dX10_coin_10 rfl rfl ?_
    refine mm_getS dX10_coin_11 fX10_45 sh_0 rfl gr_0_7 ?_
    refine mm_getS dX10_coin_14 fX10_63 sh_61 rfl gr_61_0 ?_
    refine mm_astore_n dX10_coin_17 rfl (by decide) rfl ?_
    refine mm_iload_n dX10_coin_18 rfl rfl ?_
    refine mm_tableIn (off := 83) 102 dX10_coin_19 (by decide) (by decide) (by decide) (by decide) ?_
    refine mm_aload_n dX10_coin_102 rfl rfl ?_
    refine mm_iload_n dX10_coin_103 rfl rfl ?_
    refine mm_cV (Y1 := YX5_cracks) dX10_coin_104 lX10_149 vX5_cracks (mX5_cracks d h 65 mint65 j (by omega)) sh_65 rfl rfl (by simp [Value.category]) ?_
    exact mm_iretE dX10_coin_107 rfl rfl rfl
  · exact absurd ⟨by rw [nI_toInt (by omega)]; omega, by rw [nI_toInt (by omega)]; omega⟩ (bI_e0.mp c_5)
set_option maxRecDepth 100000 in
set_option maxHeartbeats 4000000 in
theorem mX10_coin_o (d : Nat) (h : mm_H) (n : Nat) (hn : h.1 65 0 = nI n) (h12 : n ≤ 12) (j : Nat) (hj : j < n) (w : Int32) (hw : w.toInt < 0 ∨ 6 < w.toInt) : mm_M (d + 1) YX10_coin [.ref 0, .int (nI j), .int w] h (some (.int (-1))) h := by
  refine mm_M.of [some (.ref 0), some (.int (nI j)), some (.int w), none] rfl rfl (Nat.le_of_ble_eq_true rfl) ?_
  refine mm_aload_n dX10_coin_0 rfl rfl ?_
  refine mm_iload_n dX10_coin_1 rfl rfl ?_
  refine mm_cV (Y1 := YX10_isCoin) dX10_coin_2 lX10_126 vX10_isCoin (mX10_isCoin d h n hn h12 _) sh_0 rfl rfl (by simp [Value.category]) ?_
  refine mm_if_ne 10 dX10_coin_5 (by decide) (fun c_5 => ?_) (fun c_5 => ?_)
  · refine mm_aload_n dX10_coin_10 rfl rfl ?_
    refine mm_getS dX10_coin_11 fX10_45 sh_0 rfl gr_0_7 ?_
    refine mm_getS dX10_coin_14 fX10_63 sh_61 rfl gr_61_0 ?_
    refine mm_astore_n dX10_coin_17 rfl (by decide) rfl ?_
    refine mm_iload_n dX10_coin_18 rfl rfl ?_
    refine mm_tableOut 108 dX10_coin_19 hw (by decide) ?_
    refine mm_iconst (x := (-1)) dX10_coin_108 (by decide) ?_
    exact mm_iretE dX10_coin_109 rfl rfl rfl
  · exact absurd ⟨by rw [nI_toInt (by omega)]; omega, by rw [nI_toInt (by omega)]; omega⟩ (bI_e0.mp c_5)
set_option maxRecDepth 100000 in
set_option maxHeartbeats 4000000 in
theorem mX10_counter_f (d : Nat) (h : mm_H) (n : Nat) (hn : h.1 65 7 = nI n) (h4 : n ≤ 4) (c w : Int32) (hc : ¬ (0 ≤ c.toInt ∧ c.toInt < n)) : mm_M (d + 1) YX10_counter [.ref 0, .int c, .int w] h (some (.int (-1))) h := by
  refine mm_M.of [some (.ref 0), some (.int c), some (.int w)] rfl rfl (Nat.le_of_ble_eq_true rfl) ?_
  refine mm_aload_n dX10_counter_0 rfl rfl ?_
  refine mm_iload_n dX10_counter_1 rfl rfl ?_
  refine mm_cV (Y1 := YX10_isCounter) dX10_counter_2 lX10_153 vX10_isCounter (mX10_isCounter d h n hn h4 _) sh_0 rfl rfl (by simp [Value.category]) ?_
  refine mm_if_ne 10 dX10_counter_5 (by decide) (fun c_5 => ?_) (fun c_5 => ?_)
  · exact absurd (bI_n0.mp c_5) hc
  · refine mm_iconst (x := (-1)) dX10_counter_8 (by decide) ?_
    exact mm_iretE dX10_counter_9 rfl rfl rfl
set_option maxRecDepth 100000 in
set_option maxHeartbeats 4000000 in
theorem mX10_counter_0 (d : Nat) (h : mm_H) (n : Nat) (hn : h.1 65 7 = nI n) (h4 : n ≤ 4) (j : Nat) (hj : j < n) : mm_M (d + 1) YX10_counter [.ref 0, .int (nI j), .int 0] h (some (.int (h.1 72 j))) h := by
  refine mm_M.of [some (.ref 0), some (.int (nI j)), some (.int 0)] rfl rfl (Nat.le_of_ble_eq_true rfl) ?_
  refine mm_aload_n dX10_counter_0 rfl rfl ?_
  refine mm_iload_n dX10_counter_1 rfl rfl ?_
  refine mm_cV (Y1 := YX10_isCounter) dX10_counter_2 lX10_153 vX10_isCounter (mX10_isCounter d h n hn h4 _) sh_0 rfl rfl (by simp [Value.category]) ?_
  refine mm_if_ne 10 dX10_counter_5 (by decide) (fun c_5 => ?_) (fun c_5 => ?_)
  · refine mm_iload_n dX10_counter_10 rfl rfl ?_
    refine mm_lookup (off := 25) 36 dX10_counter_11 (by decide) (by decide) (by decide) ?_
    refine mm_aload_n dX10_counter_36 rfl rfl ?_
    refine mm_getS dX10_counter_37 fX10_45 sh_0 rfl gr_0_7 ?_
    refine mm_getS dX10_counter_40 fX10_63 sh_61 rfl gr_61_0 ?_
    refine mm_getS dX10_counter_43 fX10_156 sh_65 rfl gr_65_8 ?_
    refine mm_iload_n dX10_counter_46 rfl rfl ?_
    refine mm_iald (j) dX10_counter_47 sh_72 rfl (by omega) ?_
    exact mm_iretE dX10_counter_48 rfl rfl rfl
  · exact absurd ⟨by rw [nI_toInt (by omega)]; omega, by rw [nI_toInt (by omega)]; omega⟩ (bI_e0.mp c_5)
set_option maxRecDepth 100000 in
set_option maxHeartbeats 4000000 in
theorem mX10_counter_1 (d : Nat) (h : mm_H) (n : Nat) (hn : h.1 65 7 = nI n) (h4 : n ≤ 4) (j : Nat) (hj : j < n) : mm_M (d + 1) YX10_counter [.ref 0, .int (nI j), .int 1] h (some (.int (h.1 73 j))) h := by
  refine mm_M.of [some (.ref 0), some (.int (nI j)), some (.int 1)] rfl rfl (Nat.le_of_ble_eq_true rfl) ?_
  refine mm_aload_n dX10_counter_0 rfl rfl ?_
  refine mm_iload_n dX10_counter_1 rfl rfl ?_
  refine mm_cV (Y1 := YX10_isCounter) dX10_counter_2 lX10_153 vX10_isCounter (mX10_isCounter d h n hn h4 _) sh_0 rfl rfl (by simp [Value.category]) ?_
  refine mm_if_ne 10 dX10_counter_5 (by decide) (fun c_5 => ?_) (fun c_5 => ?_)
  · refine mm_iload_n dX10_counter_10 rfl rfl ?_
    refine mm_lookup (off := 38) 49 dX10_counter_11 (by decide) (by decide) (by decide) ?_
    refine mm_aload_n dX10_counter_49 rfl rfl ?_
    refine mm_getS dX10_counter_50 fX10_45 sh_0 rfl gr_0_7 ?_
    refine mm_getS dX10_counter_53 fX10_63 sh_61 rfl gr_61_0 ?_
    refine mm_getS dX10_counter_56 fX10_159 sh_65 rfl gr_65_9 ?_
    refine mm_iload_n dX10_counter_59 rfl rfl ?_
    refine mm_iald (j) dX10_counter_60 sh_73 rfl (by omega) ?_
    exact mm_iretE dX10_counter_61 rfl rfl rfl
  · exact absurd ⟨by rw [nI_toInt (by omega)]; omega, by rw [nI_toInt (by omega)]; omega⟩ (bI_e0.mp c_5)
set_option maxRecDepth 100000 in
set_option maxHeartbeats 4000000 in
theorem mX10_counter_o (d : Nat) (h : mm_H) (n : Nat) (hn : h.1 65 7 = nI n) (h4 : n ≤ 4) (j : Nat) (hj : j < n) (w : Int32) (h0 : ¬ w.toInt = 0) (h1 : ¬ w.toInt = 1) : mm_M (d + 1) YX10_counter [.ref 0, .int (nI j), .int w] h (some (.int (-1))) h := by
  refine mm_M.of [some (.ref 0), some (.int (nI j)), some (.int w)] rfl rfl (Nat.le_of_ble_eq_true rfl) ?_
  refine mm_aload_n dX10_counter_0 rfl rfl ?_
  refine mm_iload_n dX10_counter_1 rfl rfl ?_
  refine mm_cV (Y1 := YX10_isCounter) dX10_counter_2 lX10_153 vX10_isCounter (mX10_isCounter d h n hn h4 _) sh_0 rfl rfl (by simp [Value.category]) ?_
  refine mm_if_ne 10 dX10_counter_5 (by decide) (fun c_5 => ?_) (fun c_5 => ?_)
  · refine mm_iload_n dX10_counter_10 rfl rfl ?_
    refine mm_lookup (off := 51) 62 dX10_counter_11 (by decide) (by simp [Op.lookupswitch.offset, Ne.symm h0, Ne.symm h1]) (by decide) ?_
    refine mm_iconst (x := (-1)) dX10_counter_62 (by decide) ?_
    exact mm_iretE dX10_counter_63 rfl rfl rfl
  · exact absurd ⟨by rw [nI_toInt (by omega)]; omega, by rw [nI_toInt (by omega)]; omega⟩ (bI_e0.mp c_5)
set_option maxRecDepth 100000 in
set_option maxHeartbeats 4000000 in
theorem mX10_fall_f (d : Nat) (h : mm_H) (n m : Nat) (hn : h.1 65 0 = nI n) (h12 : n ≤ 12) (hm : h.1 65 7 = nI m) (h4 : m ≤ 4) (c : Int32) (hc : ¬ (0 < m ∧ 0 ≤ c.toInt ∧ c.toInt < (2 ^ n : Nat))) : mm_M (d + 1) YX10_fall [.ref 0, .int c] h (some (.int (-1))) h := by
  refine mm_M.of [some (.ref 0), some (.int c)] rfl rfl (Nat.le_of_ble_eq_true rfl) ?_
  refine mm_aload_n dX10_fall_0 rfl rfl ?_
  refine mm_iload_n dX10_fall_1 rfl rfl ?_
  refine mm_cV (Y1 := YX10_isSet) dX10_fall_2 lX10_165 vX10_isSet (mX10_isSet d h n m hn h12 hm h4 _) sh_0 rfl rfl (by simp [Value.category]) ?_
  refine mm_if_eq 22 dX10_fall_5 (by decide) (fun c_5 => ?_) (fun c_5 => ?_)
  · refine mm_iconst (x := (-1)) dX10_fall_22 (by decide) ?_
    exact mm_iretE dX10_fall_23 rfl rfl rfl
  · exact absurd (bI_n0.mp c_5) hc
set_option maxRecDepth 100000 in
set_option maxHeartbeats 4000000 in
theorem mX10_fall_n (d : Nat) (h : mm_H) (n m : Nat) (hn : h.1 65 0 = nI n) (h12 : n ≤ 12) (hm : h.1 65 7 = nI m) (h4 : m ≤ 4) (hm0 : 0 < m) (a : Nat) (ha : a < 2 ^ n) (hc : ¬ sp_can (h.1 71) (nI a) n) : mm_M (d + 1) YX10_fall [.ref 0, .int (nI a)] h (some (.int (-1))) h := by
  refine mm_M.of [some (.ref 0), some (.int (nI a))] rfl rfl (Nat.le_of_ble_eq_true rfl) ?_
  have p2 := p2_lt h12
  refine mm_aload_n dX10_fall_0 rfl rfl ?_
  refine mm_iload_n dX10_fall_1 rfl rfl ?_
  refine mm_cV (Y1 := YX10_isSet) dX10_fall_2 lX10_165 vX10_isSet (mX10_isSet d h n m hn h12 hm h4 _) sh_0 rfl rfl (by simp [Value.category]) ?_
  refine mm_if_eq 22 dX10_fall_5 (by decide) (fun c_5 => ?_) (fun c_5 => ?_)
  · exact absurd ⟨hm0, by rw [nI_toInt (by omega)]; omega, by rw [nI_toInt (by omega)]; omega⟩ (bI_e0.mp c_5)
  · refine mm_aload_n dX10_fall_8 rfl rfl ?_
    refine mm_getS dX10_fall_9 fX10_45 sh_0 rfl gr_0_7 ?_
    refine mm_getS dX10_fall_12 fX10_63 sh_61 rfl gr_61_0 ?_
    refine mm_iload_n dX10_fall_15 rfl rfl ?_
    refine mm_cV (Y1 := YX5_canDrop) dX10_fall_16 lX10_168 vX5_canDrop (mX5_canDrop_f d h 65 mint65 n hn h12 _ hc) sh_65 rfl rfl (by simp [Value.category]) ?_
    refine mm_if_ne 24 dX10_fall_19 (by decide) (fun c_19 => ?_) (fun c_19 => ?_)
    · exact absurd rfl c_19
    · refine mm_iconst (x := (-1)) dX10_fall_22 (by decide) ?_
      exact mm_iretE dX10_fall_23 rfl rfl rfl
set_option maxRecDepth 100000 in
set_option maxHeartbeats 4000000 in
theorem mX10_fall_t (d : Nat) (h : mm_H) (n m : Nat) (hn : h.1 65 0 = nI n) (h12 : n ≤ 12) (hm : h.1 65 7 = nI m) (h4 : m ≤ 4) (hm0 : 0 < m) (a : Nat) (ha : a < 2 ^ n) (hc : sp_can (h.1 71) (nI a) n) : mm_M (d + 1) YX10_fall [.ref 0, .int (nI a)] h (some (.int (nI (pc a)))) (mm_up (mm_row h.1 71 (sp_drop (h.1 71) (nI a) n)) 135 3 (-1), h.2.1, h.2.2) := by
  refine mm_M.of [some (.ref 0), some (.int (nI a))] rfl rfl (Nat.le_of_ble_eq_true rfl) ?_
  have p2 := p2_lt h12
  refine mm_aload_n dX10_fall_0 rfl rfl ?_
  refine mm_iload_n dX10_fall_1 rfl rfl ?_
  refine mm_cV (Y1 := YX10_isSet) dX10_fall_2 lX10_165 vX10_isSet (mX10_isSet d h n m hn h12 hm h4 _) sh_0 rfl rfl (by simp [Value.category]) ?_
  refine mm_if_eq 22 dX10_fall_5 (by decide) (fun c_5 => ?_) (fun c_5 => ?_)
  · exact absurd ⟨hm0, by rw [nI_toInt (by omega)]; omega, by rw [nI_toInt (by omega)]; omega⟩ (bI_e0.mp c_5)
  · refine mm_aload_n dX10_fall_8 rfl rfl ?_
    refine mm_getS dX10_fall_9 fX10_45 sh_0 rfl gr_0_7 ?_
    refine mm_getS dX10_fall_12 fX10_63 sh_61 rfl gr_61_0 ?_
    refine mm_iload_n dX10_fall_15 rfl rfl ?_
    refine mm_cV (Y1 := YX5_canDrop) dX10_fall_16 lX10_168 vX5_canDrop (mX5_canDrop_t d h 65 mint65 n hn h12 _ hc) sh_65 rfl rfl (by simp [Value.category]) ?_
    refine mm_if_ne 24 dX10_fall_19 (by decide) (fun c_19 => ?_) (fun c_19 => ?_)
    · refine mm_aload_n dX10_fall_24 rfl rfl ?_
      refine mm_getS dX10_fall_25 fX10_45 sh_0 rfl gr_0_7 ?_
      refine mm_getS dX10_fall_28 fX10_63 sh_61 rfl gr_61_0 ?_
      refine mm_iload_n dX10_fall_31 rfl rfl ?_
      refine mm_cV (Y1 := YX5_drop) dX10_fall_32 lX10_171 vX5_drop (mX5_drop d h 65 mint65 n hn h12 _) sh_65 rfl rfl (by simp [Value.category]) ?_
      refine mm_aload_n dX10_fall_35 rfl rfl ?_
      refine mm_getS dX10_fall_36 fX10_69 sh_0 rfl gr_0_10 ?_
      refine mm_cV (Y1 := YX0_forget) dX10_fall_39 lX10_114 vX0_forget (mX0_forget d _) sh_135 rfl rfl (by simp [Value.category]) ?_
      refine mm_iload_n dX10_fall_42 rfl rfl ?_
      refine mm_cS (Y1 := YJ6_bitCount_0f7a4) dX10_fall_43 lX10_174 sJ6_bitCount_0f7a4 (mJ6_bitCount_0f7a4 d _ a (by omega)) rfl rfl (by simp [Value.category]) ?_
      exact mm_iretE dX10_fall_46 rfl rfl rfl
    · exact absurd c_19 (by decide)
set_option maxRecDepth 100000 in
set_option maxHeartbeats 4000000 in
theorem mX10_count_0 (d : Nat) (h : mm_H) : mm_M d YX10_count [.ref 0, .int 0] h (some (.int (h.1 65 0))) h := by
  refine mm_M.of [some (.ref 0), some (.int 0)] rfl rfl (Nat.le_of_ble_eq_true rfl) ?_
  refine mm_iload_n dX10_count_0 rfl rfl ?_
  refine mm_tableIn (off := 55) 56 dX10_count_1 (by decide) (by decide) (by decide) (by decide) ?_
  refine mm_aload_n dX10_count_56 rfl rfl ?_
  refine mm_getS dX10_count_57 fX10_45 sh_0 rfl gr_0_7 ?_
  refine mm_getS dX10_count_60 fX10_63 sh_61 rfl gr_61_0 ?_
  refine mm_getI dX10_count_63 fX10_117 sh_65 rfl ?_
  exact mm_iretE dX10_count_66 rfl rfl rfl
set_option maxRecDepth 100000 in
set_option maxHeartbeats 4000000 in
theorem mX10_count_1 (d : Nat) (h : mm_H) : mm_M d YX10_count [.ref 0, .int 1] h (some (.int (h.1 65 7))) h := by
  refine mm_M.of [some (.ref 0), some (.int 1)] rfl rfl (Nat.le_of_ble_eq_true rfl) ?_
  refine mm_iload_n dX10_count_0 rfl rfl ?_
  refine mm_tableIn (off := 66) 67 dX10_count_1 (by decide) (by decide) (by decide) (by decide) ?_
  refine mm_aload_n dX10_count_67 rfl rfl ?_
  refine mm_getS dX10_count_68 fX10_45 sh_0 rfl gr_0_7 ?_
  refine mm_getS dX10_count_71 fX10_63 sh_61 rfl gr_61_0 ?_
  refine mm_getI dX10_count_74 fX10_262 sh_65 rfl ?_
  exact mm_iretE dX10_count_77 rfl rfl rfl
set_option maxRecDepth 100000 in
set_option maxHeartbeats 4000000 in
theorem mX10_count_2 (d : Nat) (h : mm_H) : mm_M d YX10_count [.ref 0, .int 2] h (some (.int (h.1 65 10))) h := by
  refine mm_M.of [some (.ref 0), some (.int 2)] rfl rfl (Nat.le_of_ble_eq_true rfl) ?_
  refine mm_iload_n dX10_count_0 rfl rfl ?_
  refine mm_tableIn (off := 77) 78 dX10_count_1 (by decide) (by decide) (by decide) (by decide) ?_
  refine mm_aload_n dX10_count_78 rfl rfl ?_
  refine mm_getS dX10_count_79 fX10_45 sh_0 rfl gr_0_7 ?_
  refine mm_getS dX10_count_82 fX10_63 sh_61 rfl gr_61_0 ?_
  refine mm_getI dX10_count_85 fX10_319 sh_65 rfl ?_
  exact mm_iretE dX10_count_88 rfl rfl rfl
set_option maxRecDepth 100000 in
set_option maxHeartbeats 4000000 in
theorem mX10_count_3 (d : Nat) (h : mm_H) : mm_M d YX10_count [.ref 0, .int 3] h (some (.int (h.1 65 11))) h := by
  refine mm_M.of [some (.ref 0), some (.int 3)] rfl rfl (Nat.le_of_ble_eq_true rfl) ?_
  refine mm_iload_n dX10_count_0 rfl rfl ?_
  refine mm_tableIn (off := 88) 89 dX10_count_1 (by decide) (by decide) (by decide) (by decide) ?_
  refine mm_aload_n dX10_count_89 rfl rfl ?_
  refine mm_getS dX10_count_90 fX10_45 sh_0 rfl gr_0_7 ?_
  refine mm_getS dX10_count_93 fX10_63 sh_61 rfl gr_61_0 ?_
  refine mm_getI dX10_count_96 fX10_322 sh_65 rfl ?_
  exact mm_iretE dX10_count_99 rfl rfl rfl
set_option maxRecDepth 100000 in
set_option maxHeartbeats 4000000 in
theorem mX10_count_4 (d : Nat) (h : mm_H) : mm_M d YX10_count [.ref 0, .int 4] h (some (.int (h.1 0 6))) h := by
  refine mm_M.of [some (.ref 0), some (.int 4)] rfl rfl (Nat.le_of_ble_eq_true rfl) ?_
  refine mm_iload_n dX10_count_0 rfl rfl ?_
  refine mm_tableIn (off := 99) 100 dX10_count_1 (by decide) (by decide) (by decide) (by decide) ?_
  refine mm_aload_n dX10_count_100 rfl rfl ?_
  refine mm_getI dX10_count_101 fX10_120 sh_0 rfl ?_
  exact mm_iretE dX10_count_104 rfl rfl rfl
set_option maxRecDepth 100000 in
set_option maxHeartbeats 4000000 in
theorem mX10_count_5 (d : Nat) (h : mm_H) : mm_M d YX10_count [.ref 0, .int 5] h (some (.int (h.1 61 5))) h := by
  refine mm_M.of [some (.ref 0), some (.int 5)] rfl rfl (Nat.le_of_ble_eq_true rfl) ?_
  refine mm_iload_n dX10_count_0 rfl rfl ?_
  refine mm_tableIn (off := 104) 105 dX10_count_1 (by decide) (by decide) (by decide) (by decide) ?_
  refine mm_aload_n dX10_count_105 rfl rfl ?_
  refine mm_getS dX10_count_106 fX10_45 sh_0 rfl gr_0_7 ?_
  refine mm_getI dX10_count_109 fX10_265 sh_61 rfl ?_
  exact mm_iretE dX10_count_112 rfl rfl rfl
set_option maxRecDepth 100000 in
set_option maxHeartbeats 4000000 in
theorem mX10_count_6 (d : Nat) (h : mm_H) : mm_M d YX10_count [.ref 0, .int 6] h (some (.int (h.1 61 2))) h := by
  refine mm_M.of [some (.ref 0), some (.int 6)] rfl rfl (Nat.le_of_ble_eq_true rfl) ?_
  refine mm_iload_n dX10_count_0 rfl rfl ?_
  refine mm_tableIn (off := 112) 113 dX10_count_1 (by decide) (by decide) (by decide) (by decide) ?_
  refine mm_aload_n dX10_count_113 rfl rfl ?_
  refine mm_getS dX10_count_114 fX10_45 sh_0 rfl gr_0_7 ?_
  refine mm_getI dX10_count_117 fX10_223 sh_61 rfl ?_
  exact mm_iretE dX10_count_120 rfl rfl rfl
set_option maxRecDepth 100000 in
set_option maxHeartbeats 4000000 in
theorem mX10_count_7 (d : Nat) (h : mm_H) : mm_M d YX10_count [.ref 0, .int 7] h (some (.int (h.1 61 6))) h := by
  refine mm_M.of [some (.ref 0), some (.int 7)] rfl rfl (Nat.le_of_ble_eq_true rfl) ?_
  refine mm_iload_n dX10_count_0 rfl rfl ?_
  refine mm_tableIn (off := 120) 121 dX10_count_1 (by decide) (by decide) (by decide) (by decide) ?_
  refine mm_aload_n dX10_count_121 rfl rfl ?_
  refine mm_getS dX10_count_122 fX10_45 sh_0 rfl gr_0_7 ?_
  refine mm_getI dX10_count_125 fX10_294 sh_61 rfl ?_
  exact mm_iretE dX10_count_128 rfl rfl rfl
set_option maxRecDepth 100000 in
set_option maxHeartbeats 4000000 in
theorem mX10_count_8 (d : Nat) (h : mm_H) : mm_M d YX10_count [.ref 0, .int 8] h (some (.int (h.1 0 1))) h := by
  refine mm_M.of [some (.ref 0), some (.int 8)] rfl rfl (Nat.le_of_ble_eq_true rfl) ?_
  refine mm_iload_n dX10_count_0 rfl rfl ?_
  refine mm_tableIn (off := 128) 129 dX10_count_1 (by decide) (by decide) (by decide) (by decide) ?_
  refine mm_aload_n dX10_count_129 rfl rfl ?_
  refine mm_getI dX10_count_130 fX10_91 sh_0 rfl ?_
  exact mm_iretE dX10_count_133 rfl rfl rfl
set_option maxRecDepth 100000 in
set_option maxHeartbeats 4000000 in
theorem mX10_count_9 (d : Nat) (h : mm_H) (n : Nat) (hn : h.1 65 0 = nI n) (h12 : n ≤ 12) : mm_M (d + 1) YX10_count [.ref 0, .int 9] h (some (.int (sp_worth (h.1 68) (nI (2 ^ n) - 1) n))) h := by
  refine mm_M.of [some (.ref 0), some (.int 9)] rfl rfl (Nat.le_of_ble_eq_true rfl) ?_
  refine mm_iload_n dX10_count_0 rfl rfl ?_
  refine mm_tableIn (off := 133) 134 dX10_count_1 (by decide) (by decide) (by decide) (by decide) ?_
  refine mm_aload_n dX10_count_134 rfl rfl ?_
  refine mm_getS dX10_count_135 fX10_45 sh_0 rfl gr_0_7 ?_
  refine mm_getS dX10_count_138 fX10_63 sh_61 rfl gr_61_0 ?_
  refine mm_iconst (x := 1) dX10_count_141 (by decide) ?_
  refine mm_aload_n dX10_count_142 rfl rfl ?_
  refine mm_getS dX10_count_143 fX10_45 sh_0 rfl gr_0_7 ?_
  refine mm_getS dX10_count_146 fX10_63 sh_61 rfl gr_61_0 ?_
  refine mm_getI dX10_count_149 fX10_117 sh_65 rfl ?_
  refine mm_ishl dX10_count_152 ?_
  refine mm_iconst (x := 1) dX10_count_153 (by decide) ?_
  refine mm_isub dX10_count_154 ?_
  refine mm_cV (Y1 := YX5_worthOf) dX10_count_155 lX10_325 vX5_worthOf (mX5_worthOf d h 65 mint65 n hn h12 _) sh_65 rfl rfl (by simp [Value.category]) ?_
  exact mm_iretE dX10_count_158 rfl (by rw [hn, sh1 h12]) rfl
set_option maxRecDepth 100000 in
set_option maxHeartbeats 4000000 in
theorem mX10_count_p (d : Nat) (h : mm_H) (n : Nat) (hn : h.1 65 0 = nI n) (h12 : n ≤ 12) (w : Int32) (hw : 10 ≤ w.toInt ∧ w.toInt < 16) : mm_M (d + 2) YX10_count [.ref 0, .int w] h (some (.int (sp_wheld (h.1 68) (h.1 70) n (w - 10)))) h := by
  refine mm_M.of [some (.ref 0), some (.int w)] rfl rfl (Nat.le_of_ble_eq_true rfl) ?_
  have e1 : (w - 10).toInt = w.toInt - 10 := sub10 w hw.1
  refine mm_iload_n dX10_count_0 rfl rfl ?_
  refine mm_tableOut 159 dX10_count_1 (Or.inr (by omega)) (by decide) ?_
  refine mm_iload_n dX10_count_159 rfl rfl ?_
  refine mm_bipush (x := 10) dX10_count_160 (by decide) ?_
  refine mm_isub dX10_count_162 ?_
  refine mm_cS (Y1 := YX10_isPerson) dX10_count_163 lX10_162 sX10_isPerson (mX10_isPerson (d + 1) h _) rfl rfl (by simp [Value.category]) ?_
  refine mm_if_eq 192 dX10_count_166 (by decide) (fun c_166 => ?_) (fun c_166 => ?_)
  · exact absurd (by rw [e1]; omega) (bI_e0.mp c_166)
  · refine mm_iload_n dX10_count_169 rfl rfl ?_
    refine mm_bipush (x := 10) dX10_count_170 (by decide) ?_
    refine mm_icmp_lt 192 dX10_count_172 (by decide) (fun c_172 => ?_) (fun c_172 => ?_)
    · exfalso; (try simp only [lg_lt, lg_ge, lg_gt, lg_le] at *); simp only [Int32.lt_iff_toInt_lt, Int32.le_iff_toInt_le, Int64.lt_iff_toInt_lt, Int64.le_iff_toInt_le, ti_0, ti_1, ti_2, ti_3, ti_4, ti_5, ti_6, ti_10, ti_12, ti_200, ti_400, ti_500, ti_999, ti_2400, ti_9999, ti_m9999, ti_m20000, ti_m1, i64_toInt, li_0, li_1, li_2, li_3, li_4, li_5, li_10, li_12, li_15, li_48, li_57, li_200, li_500, li_999, li_2400, li_9999, li_m9999, li_11999] at *; omega
    · refine mm_aload_n dX10_count_175 rfl rfl ?_
      refine mm_getS dX10_count_176 fX10_45 sh_0 rfl gr_0_7 ?_
      refine mm_getS dX10_count_179 fX10_63 sh_61 rfl gr_61_0 ?_
      refine mm_iload_n dX10_count_182 rfl rfl ?_
      refine mm_bipush (x := 10) dX10_count_183 (by decide) ?_
      refine mm_isub dX10_count_185 ?_
      refine mm_cV (Y1 := YX5_worthHeld) dX10_count_186 lX10_307 vX5_worthHeld (mX5_worthHeld d h 65 mint65 n hn h12 _) sh_65 rfl rfl (by simp [Value.category]) ?_
      refine mm_goto 193 dX10_count_189 (by decide) ?_
      exact mm_iretE dX10_count_193 rfl rfl rfl
set_option maxRecDepth 100000 in
set_option maxHeartbeats 4000000 in
theorem mX10_count_o (d : Nat) (h : mm_H) (w : Int32) (hw : w.toInt < 0 ∨ 9 < w.toInt) (hv : ¬ (10 ≤ w.toInt ∧ w.toInt < 16)) : mm_M (d + 2) YX10_count [.ref 0, .int w] h (some (.int (-1))) h := by
  refine mm_M.of [some (.ref 0), some (.int w)] rfl rfl (Nat.le_of_ble_eq_true rfl) ?_
  refine mm_iload_n dX10_count_0 rfl rfl ?_
  refine mm_tableOut 159 dX10_count_1 hw (by decide) ?_
  refine mm_iload_n dX10_count_159 rfl rfl ?_
  refine mm_bipush (x := 10) dX10_count_160 (by decide) ?_
  refine mm_isub dX10_count_162 ?_
  refine mm_cS (Y1 := YX10_isPerson) dX10_count_163 lX10_162 sX10_isPerson (mX10_isPerson (d + 1) h _) rfl rfl (by simp [Value.category]) ?_
  refine mm_if_eq 192 dX10_count_166 (by decide) (fun c_166 => ?_) (fun c_166 => ?_)
  · refine mm_iconst (x := (-1)) dX10_count_192 (by decide) ?_
    exact mm_iretE dX10_count_193 rfl rfl rfl
  · refine mm_iload_n dX10_count_169 rfl rfl ?_
    refine mm_bipush (x := 10) dX10_count_170 (by decide) ?_
    refine mm_icmp_lt 192 dX10_count_172 (by decide) (fun c_172 => ?_) (fun c_172 => ?_)
    · refine mm_iconst (x := (-1)) dX10_count_192 (by decide) ?_
      exact mm_iretE dX10_count_193 rfl rfl rfl
    · have q := bI_n0.mp c_166
      have e1 : (w - 10).toInt = w.toInt - 10 := sub10 w (by (try simp only [lg_lt, lg_ge, lg_gt, lg_le] at *); simp only [Int32.lt_iff_toInt_lt, Int32.le_iff_toInt_le, Int64.lt_iff_toInt_lt, Int64.le_iff_toInt_le, ti_0, ti_1, ti_2, ti_3, ti_4, ti_5, ti_6, ti_10, ti_12, ti_200, ti_400, ti_500, ti_999, ti_2400, ti_9999, ti_m9999, ti_m20000, ti_m1, i64_toInt, li_0, li_1, li_2, li_3, li_4, li_5, li_10, li_12, li_15, li_48, li_57, li_200, li_500, li_999, li_2400, li_9999, li_m9999, li_11999] at *; omega)
      rw [e1] at q
      exfalso; (try simp only [lg_lt, lg_ge, lg_gt, lg_le] at *); simp only [Int32.lt_iff_toInt_lt, Int32.le_iff_toInt_le, Int64.lt_iff_toInt_lt, Int64.le_iff_toInt_le, ti_0, ti_1, ti_2, ti_3, ti_4, ti_5, ti_6, ti_10, ti_12, ti_200, ti_400, ti_500, ti_999, ti_2400, ti_9999, ti_m9999, ti_m20000, ti_m1, i64_toInt, li_0, li_1, li_2, li_3, li_4, li_5, li_10, li_12, li_15, li_48, li_57, li_200, li_500, li_999, li_2400, li_9999, li_m9999, li_11999] at *; omega
