/-! hear, of the class and of the reference. -/
/-- entries from i + 1 to q are those from i to q - 1 -/
def sp_shf (f : Nat → Int32) (i q : Nat) : Nat → Int32 := fun j => if i < j ∧ j ≤ q then f (j - 1) else f j
/-- x put in at place p of q entries -/
def sp_ins (f : Nat → Int32) (p : Nat) (x : Int32) (q : Nat) : Nat → Int32 := upd (sp_shf f p q) p x
theorem sp_shf_q (f : Nat → Int32) (q : Nat) : sp_shf f q q = f := by
  funext j
  have : ¬ (q < j ∧ j ≤ q) := by omega
  simp only [sp_shf, if_neg this]
theorem sp_shf_s (f : Nat → Int32) (i q : Nat) (hi : i + 1 ≤ q) : upd (sp_shf f (i + 1) q) (i + 1) (sp_shf f (i + 1) q i) = sp_shf f i q := by
  funext j
  by_cases e : j = i + 1
  · subst e
    have h1 : ¬ (i + 1 < i ∧ i ≤ q) := by omega
    have h2 : i < i + 1 ∧ i + 1 ≤ q := by omega
    simp only [upd, sp_shf, if_neg h1, if_pos h2, if_true, Nat.add_sub_cancel]
  · have h1 : (i < j ∧ j ≤ q) ↔ (i + 1 < j ∧ j ≤ q) := by omega
    simp only [upd, sp_shf, if_neg e, h1]
theorem nI_m1 (n : Nat) : nI (n + 1) + Int32.ofInt (-1) = nI n := pk_m1 n
set_option maxRecDepth 100000 in
set_option maxHeartbeats 4000000 in
theorem mX7_addHeard_full (d : Nat) (h : mm_H) (q : Nat) (hq : h.1 61 2 = nI q) (hq12 : q ≤ 12) (x : Int32) (hc : ¬ q < 12) : mm_M d YX7_addHeard [.ref 61, .int x] h (some (.int 0)) h := by
  refine mm_M.of [some (.ref 61), some (.int x), none, none] rfl rfl (Nat.le_of_ble_eq_true rfl) ?_
  refine mm_aload_n dX7_addHeard_0 rfl rfl ?_
  refine mm_getI dX7_addHeard_1 fX7_32 sh_61 rfl ?_
  refine mm_bipush (x := 12) dX7_addHeard_4 (by decide) ?_
  refine mm_icmp_lt 11 dX7_addHeard_6 (by decide) (fun c_6 => ?_) (fun c_6 => ?_)
  · exfalso; (try simp only [lg_lt, lg_ge, lg_gt, lg_le] at *); simp only [hq, nI_toInt (show q < 2 ^ 31 by omega), Int32.lt_iff_toInt_lt, Int32.le_iff_toInt_le, Int64.lt_iff_toInt_lt, Int64.le_iff_toInt_le, ti_0, ti_1, ti_2, ti_3, ti_4, ti_5, ti_6, ti_10, ti_12, ti_200, ti_400, ti_500, ti_999, ti_2400, ti_9999, ti_m9999, ti_m20000, ti_m1, i64_toInt, li_0, li_1, li_2, li_3, li_4, li_5, li_10, li_12, li_15, li_48, li_57, li_200, li_500, li_999, li_2400, li_9999, li_m9999, li_11999] at *; omega
  · refine mm_iconst (x := 0) dX7_addHeard_9 (by decide) ?_
    exact mm_zretE dX7_addHeard_10 rfl rfl rfl rfl
set_option maxRecDepth 100000 in
set_option maxHeartbeats 4000000 in
theorem mX7_addHeard_twice (d : Nat) (h : mm_H) (q : Nat) (hq : h.1 61 2 = nI q) (hq12 : q ≤ 12) (x : Int32) (hc : q < 12) (p : Nat) (hp : p ≤ q) (hlt : ∀ j, j < p → h.1 62 j < x) (hpq : p < q) (he : h.1 62 p = x) : mm_M d YX7_addHeard [.ref 61, .int x] h (some (.int 0)) h := by
  refine mm_M.of [some (.ref 61), some (.int x), none, none] rfl rfl (Nat.le_of_ble_eq_true rfl) ?_
  have K13 : ∀ i, i ≤ p → mm_R d YX7_addHeard 13 [some (.ref 61), some (.int x), some (.int (nI i)), none] [] h (some (.int 0)) h := by
    refine mm_down p ?_ (fun i hi ih => ?_)
    · refine mm_iload_n dX7_addHeard_13 rfl rfl ?_
      refine mm_aload_n dX7_addHeard_14 rfl rfl ?_
      refine mm_getI dX7_addHeard_15 fX7_32 sh_61 rfl ?_
      refine mm_icmp_ge 37 dX7_addHeard_18 (by decide) (fun c_18 => ?_) (fun c_18 => ?_)
      · exact absurd c_18 (by rw [hq]; exact nI_ge hpq (by omega))
      · refine mm_aload_n dX7_addHeard_21 rfl rfl ?_
        refine mm_getS dX7_addHeard_22 fX7_18 sh_61 rfl gr_61_1 ?_
        refine mm_iload_n dX7_addHeard_25 rfl rfl ?_
        refine mm_iald (p) dX7_addHeard_26 sh_62 rfl (by omega) ?_
        refine mm_iload_n dX7_addHeard_27 rfl rfl ?_
        refine mm_icmp_ge 37 dX7_addHeard_28 (by decide) (fun c_28 => ?_) (fun c_28 => ?_)
        · refine mm_iload_n dX7_addHeard_37 rfl rfl ?_
          refine mm_aload_n dX7_addHeard_38 rfl rfl ?_
          refine mm_getI dX7_addHeard_39 fX7_32 sh_61 rfl ?_
          refine mm_icmp_ge 57 dX7_addHeard_42 (by decide) (fun c_42 => ?_) (fun c_42 => ?_)
          · exact absurd c_42 (by rw [hq]; exact nI_ge hpq (by omega))
          · refine mm_aload_n dX7_addHeard_45 rfl rfl ?_
            refine mm_getS dX7_addHeard_46 fX7_18 sh_61 rfl gr_61_1 ?_
            refine mm_iload_n dX7_addHeard_49 rfl rfl ?_
            refine mm_iald (p) dX7_addHeard_50 sh_62 rfl (by omega) ?_
            refine mm_iload_n dX7_addHeard_51 rfl rfl ?_
            refine mm_icmp_ne 57 dX7_addHeard_52 (by decide) (fun c_52 => ?_) (fun c_52 => ?_)
            · exact absurd he c_52
            · refine mm_iconst (x := 0) dX7_addHeard_55 (by decide) ?_
              exact mm_zretE dX7_addHeard_56 rfl rfl rfl rfl
        · exact absurd (by rw [he]; simp) c_28
    · refine mm_iload_n dX7_addHeard_13 rfl rfl ?_
      refine mm_aload_n dX7_addHeard_14 rfl rfl ?_
      refine mm_getI dX7_addHeard_15 fX7_32 sh_61 rfl ?_
      refine mm_icmp_ge 37 dX7_addHeard_18 (by decide) (fun c_18 => ?_) (fun c_18 => ?_)
      · exact absurd c_18 (by rw [hq]; exact nI_ge (by omega) (by omega))
      · refine mm_aload_n dX7_addHeard_21 rfl rfl ?_
        refine mm_getS dX7_addHeard_22 fX7_18 sh_61 rfl gr_61_1 ?_
        refine mm_iload_n dX7_addHeard_25 rfl rfl ?_
        refine mm_iald (i) dX7_addHeard_26 sh_62 rfl (by omega) ?_
        refine mm_iload_n dX7_addHeard_27 rfl rfl ?_
        refine mm_icmp_ge 37 dX7_addHeard_28 (by decide) (fun c_28 => ?_) (fun c_28 => ?_)
        · have z := hlt i hi
          exfalso; (try simp only [lg_lt, lg_ge, lg_gt, lg_le] at *); simp only [Int32.lt_iff_toInt_lt, Int32.le_iff_toInt_le, Int64.lt_iff_toInt_lt, Int64.le_iff_toInt_le, ti_0, ti_1, ti_2, ti_3, ti_4, ti_5, ti_6, ti_10, ti_12, ti_200, ti_400, ti_500, ti_999, ti_2400, ti_9999, ti_m9999, ti_m20000, ti_m1, i64_toInt, li_0, li_1, li_2, li_3, li_4, li_5, li_10, li_12, li_15, li_48, li_57, li_200, li_500, li_999, li_2400, li_9999, li_m9999, li_11999] at *; omega
        · refine mm_iinc dX7_addHeard_31 rfl rfl rfl ?_
          refine mm_goto 13 dX7_addHeard_34 (by decide) ?_
          exact mm_cast (by rw [nI_succ]; rfl) rfl rfl ih
  refine mm_aload_n dX7_addHeard_0 rfl rfl ?_
  refine mm_getI dX7_addHeard_1 fX7_32 sh_61 rfl ?_
  refine mm_bipush (x := 12) dX7_addHeard_4 (by decide) ?_
  refine mm_icmp_lt 11 dX7_addHeard_6 (by decide) (fun c_6 => ?_) (fun c_6 => ?_)
  · refine mm_iconst (x := 0) dX7_addHeard_11 (by decide) ?_
    refine mm_istore_n dX7_addHeard_12 rfl (by decide) rfl ?_
    exact K13 0 (Nat.zero_le _)
  · exfalso; (try simp only [lg_lt, lg_ge, lg_gt, lg_le] at *); simp only [hq, nI_toInt (show q < 2 ^ 31 by omega), Int32.lt_iff_toInt_lt, Int32.le_iff_toInt_le, Int64.lt_iff_toInt_lt, Int64.le_iff_toInt_le, ti_0, ti_1, ti_2, ti_3, ti_4, ti_5, ti_6, ti_10, ti_12, ti_200, ti_400, ti_500, ti_999, ti_2400, ti_9999, ti_m9999, ti_m20000, ti_m1, i64_toInt, li_0, li_1, li_2, li_3, li_4, li_5, li_10, li_12, li_15, li_48, li_57, li_200, li_500, li_999, li_2400, li_9999, li_m9999, li_11999] at *; omega
set_option maxRecDepth 100000 in
set_option maxHeartbeats 4000000 in
theorem mX7_addHeard_t (d : Nat) (h : mm_H) (q : Nat) (hq : h.1 61 2 = nI q) (hq12 : q ≤ 12) (x : Int32) (hc : q < 12) (p : Nat) (hp : p ≤ q) (hlt : ∀ j, j < p → h.1 62 j < x) (hgt : ∀ j, p ≤ j → j < q → x < h.1 62 j) : mm_M d YX7_addHeard [.ref 61, .int x] h (some (.int 1)) (mm_up (mm_row h.1 62 (sp_ins (h.1 62) p x q)) 61 2 (nI (q + 1)), h.2.1, h.2.2) := by
  refine mm_M.of [some (.ref 61), some (.int x), none, none] rfl rfl (Nat.le_of_ble_eq_true rfl) ?_
  have K62 : ∀ k, k ≤ q - p → mm_R d YX7_addHeard 62 [some (.ref 61), some (.int x), some (.int (nI p)), some (.int (nI (q - k)))] [] (mm_row h.1 62 (sp_shf (h.1 62) (q - k) q), h.2.1, h.2.2) (some (.int 1)) (mm_up (mm_row h.1 62 (sp_ins (h.1 62) p x q)) 61 2 (nI (q + 1)), h.2.1, h.2.2) := by
    refine mm_down (q - p) ?_ (fun k hk ih => ?_)
    · have e1 : q - (q - p) = p := by omega
      rw [e1]
      refine mm_iload_n dX7_addHeard_62 rfl rfl ?_
      refine mm_iload_n dX7_addHeard_63 rfl rfl ?_
      refine mm_icmp_le 87 dX7_addHeard_64 (by decide) (fun c_64 => ?_) (fun c_64 => ?_)
      · refine mm_aload_n dX7_addHeard_87 rfl rfl ?_
        refine mm_getS dX7_addHeard_88 fX7_18 sh_61 rfl gr_61_1 ?_
        refine mm_iload_n dX7_addHeard_91 rfl rfl ?_
        refine mm_iload_n dX7_addHeard_92 rfl rfl ?_
        refine mm_iast (p) dX7_addHeard_93 sh_62 rfl (by omega) ?_
        refine mm_aload_n dX7_addHeard_94 rfl rfl ?_
        refine mm_dup dX7_addHeard_95 rfl ?_
        refine mm_getI dX7_addHeard_96 fX7_32 sh_61 rfl ?_
        refine mm_iconst (x := 1) dX7_addHeard_99 (by decide) ?_
        refine mm_iadd dX7_addHeard_100 ?_
        refine mm_putI dX7_addHeard_101 fX7_32 sh_61 rfl rfl rfl ?_
        refine mm_iconst (x := 1) dX7_addHeard_104 (by decide) ?_
        exact mm_zretE dX7_addHeard_105 rfl rfl rfl (by dsimp only; rw [mm_up_row, mm_row_n (show 61 ≠ 62 by decide), hq, show nI q + 1 = nI (q + 1) from (nI_succ q).symm]; rfl)
      · exact absurd (nI_le (Nat.le_refl _) (by omega)) c_64
    · obtain ⟨w, hw⟩ : ∃ w, q - k = w + 1 := ⟨q - k - 1, by omega⟩
      have hw2 : q - (k + 1) = w := by omega
      rw [hw2] at ih
      rw [hw]
      refine mm_iload_n dX7_addHeard_62 rfl rfl ?_
      refine mm_iload_n dX7_addHeard_63 rfl rfl ?_
      refine mm_icmp_le 87 dX7_addHeard_64 (by decide) (fun c_64 => ?_) (fun c_64 => ?_)
      · exact absurd c_64 (nI_ge (by omega) (by omega))
      · refine mm_aload_n dX7_addHeard_67 rfl rfl ?_
        refine mm_getS dX7_addHeard_68 fX7_18 sh_61 rfl gr_61_1 ?_
        refine mm_iload_n dX7_addHeard_71 rfl rfl ?_
        refine mm_aload_n dX7_addHeard_72 rfl rfl ?_
        refine mm_getS dX7_addHeard_73 fX7_18 sh_61 rfl gr_61_1 ?_
        refine mm_iload_n dX7_addHeard_76 rfl rfl ?_
        refine mm_iconst (x := 1) dX7_addHeard_77 (by decide) ?_
        refine mm_isub dX7_addHeard_78 ?_
        refine mm_iald (w) dX7_addHeard_79 sh_62 (nI_pred w) (by omega) ?_
        refine mm_iast (w + 1) dX7_addHeard_80 sh_62 rfl (by omega) ?_
        refine mm_iinc dX7_addHeard_81 rfl rfl rfl ?_
        refine mm_goto 62 dX7_addHeard_84 (by decide) ?_
        refine mm_cast (by rw [nI_m1]; rfl) rfl ?_ ih
        dsimp only
        rw [mm_up_row, mm_row_s, sp_shf_s _ _ _ (by omega)]
  have K57 : mm_R d YX7_addHeard 57 [some (.ref 61), some (.int x), some (.int (nI p)), none] [] h (some (.int 1)) (mm_up (mm_row h.1 62 (sp_ins (h.1 62) p x q)) 61 2 (nI (q + 1)), h.2.1, h.2.2) := by
    refine mm_aload_n dX7_addHeard_57 rfl rfl ?_
    refine mm_getI dX7_addHeard_58 fX7_32 sh_61 rfl ?_
    refine mm_istore_n dX7_addHeard_61 rfl (by decide) rfl ?_
    exact mm_cast (by rw [hq]; rfl) rfl (by rw [Nat.sub_zero, sp_shf_q, mm_row_self]) (K62 0 (Nat.zero_le _))
  have K13 : ∀ i, i ≤ p → mm_R d YX7_addHeard 13 [some (.ref 61), some (.int x), some (.int (nI i)), none] [] h (some (.int 1)) (mm_up (mm_row h.1 62 (sp_ins (h.1 62) p x q)) 61 2 (nI (q + 1)), h.2.1, h.2.2) := by
    refine mm_down p ?_ (fun i hi ih => ?_)
    · refine mm_iload_n dX7_addHeard_13 rfl rfl ?_
      refine mm_aload_n dX7_addHeard_14 rfl rfl ?_
      refine mm_getI dX7_addHeard_15 fX7_32 sh_61 rfl ?_
      refine mm_icmp_ge 37 dX7_addHeard_18 (by decide) (fun c_18 => ?_) (fun c_18 => ?_)
      · refine mm_iload_n dX7_addHeard_37 rfl rfl ?_
        refine mm_aload_n dX7_addHeard_38 rfl rfl ?_
        refine mm_getI dX7_addHeard_39 fX7_32 sh_61 rfl ?_
        refine mm_icmp_ge 57 dX7_addHeard_42 (by decide) (fun c_42 => ?_) (fun c_42 => ?_)
        · exact K57
        · refine mm_aload_n dX7_addHeard_45 rfl rfl ?_
          refine mm_getS dX7_addHeard_46 fX7_18 sh_61 rfl gr_61_1 ?_
          refine mm_iload_n dX7_addHeard_49 rfl rfl ?_
          refine mm_iald (p) dX7_addHeard_50 sh_62 rfl (by omega) ?_
          refine mm_iload_n dX7_addHeard_51 rfl rfl ?_
          refine mm_icmp_ne 57 dX7_addHeard_52 (by decide) (fun c_52 => ?_) (fun c_52 => ?_)
          · exact K57
          · rcases (show p < q ∨ p = q by omega) with z | z
            · have z2 := hgt p (Nat.le_refl _) z; rw [c_52] at z2; exfalso; (try simp only [lg_lt, lg_ge, lg_gt, lg_le] at *); simp only [Int32.lt_iff_toInt_lt, Int32.le_iff_toInt_le, Int64.lt_iff_toInt_lt, Int64.le_iff_toInt_le, ti_0, ti_1, ti_2, ti_3, ti_4, ti_5, ti_6, ti_10, ti_12, ti_200, ti_400, ti_500, ti_999, ti_2400, ti_9999, ti_m9999, ti_m20000, ti_m1, i64_toInt, li_0, li_1, li_2, li_3, li_4, li_5, li_10, li_12, li_15, li_48, li_57, li_200, li_500, li_999, li_2400, li_9999, li_m9999, li_11999] at *; omega
            · subst z; exact absurd (by rw [hq]; exact nI_le (Nat.le_refl _) (by omega)) c_42
      · refine mm_aload_n dX7_addHeard_21 rfl rfl ?_
        refine mm_getS dX7_addHeard_22 fX7_18 sh_61 rfl gr_61_1 ?_
        refine mm_iload_n dX7_addHeard_25 rfl rfl ?_
        refine mm_iald (p) dX7_addHeard_26 sh_62 rfl (by omega) ?_
        refine mm_iload_n dX7_addHeard_27 rfl rfl ?_
        refine mm_icmp_ge 37 dX7_addHeard_28 (by decide) (fun c_28 => ?_) (fun c_28 => ?_)
        · refine mm_iload_n dX7_addHeard_37 rfl rfl ?_
          refine mm_aload_n dX7_addHeard_38 rfl rfl ?_
          refine mm_getI dX7_addHeard_39 fX7_32 sh_61 rfl ?_
          refine mm_icmp_ge 57 dX7_addHeard_42 (by decide) (fun c_42 => ?_) (fun c_42 => ?_)
          · exact K57
          · refine mm_aload_n dX7_addHeard_45 rfl rfl ?_
            refine mm_getS dX7_addHeard_46 fX7_18 sh_61 rfl gr_61_1 ?_
            refine mm_iload_n dX7_addHeard_49 rfl rfl ?_
            refine mm_iald (p) dX7_addHeard_50 sh_62 rfl (by omega) ?_
            refine mm_iload_n dX7_addHeard_51 rfl rfl ?_
            refine mm_icmp_ne 57 dX7_addHeard_52 (by decide) (fun c_52 => ?_) (fun c_52 => ?_)
            · exact K57
            · rcases (show p < q ∨ p = q by omega) with z | z
              · have z2 := hgt p (Nat.le_refl _) z; rw [c_52] at z2; exfalso; (try simp only [lg_lt, lg_ge, lg_gt, lg_le] at *); simp only [Int32.lt_iff_toInt_lt, Int32.le_iff_toInt_le, Int64.lt_iff_toInt_lt, Int64.le_iff_toInt_le, ti_0, ti_1, ti_2, ti_3, ti_4, ti_5, ti_6, ti_10, ti_12, ti_200, ti_400, ti_500, ti_999, ti_2400, ti_9999, ti_m9999, ti_m20000, ti_m1, i64_toInt, li_0, li_1, li_2, li_3, li_4, li_5, li_10, li_12, li_15, li_48, li_57, li_200, li_500, li_999, li_2400, li_9999, li_m9999, li_11999] at *; omega
              · subst z; exact absurd (by rw [hq]; exact nI_le (Nat.le_refl _) (by omega)) c_42
        · rcases (show p < q ∨ p = q by omega) with z | z
          · have z2 := hgt p (Nat.le_refl _) z; exfalso; (try simp only [lg_lt, lg_ge, lg_gt, lg_le] at *); simp only [Int32.lt_iff_toInt_lt, Int32.le_iff_toInt_le, Int64.lt_iff_toInt_lt, Int64.le_iff_toInt_le, ti_0, ti_1, ti_2, ti_3, ti_4, ti_5, ti_6, ti_10, ti_12, ti_200, ti_400, ti_500, ti_999, ti_2400, ti_9999, ti_m9999, ti_m20000, ti_m1, i64_toInt, li_0, li_1, li_2, li_3, li_4, li_5, li_10, li_12, li_15, li_48, li_57, li_200, li_500, li_999, li_2400, li_9999, li_m9999, li_11999] at *; omega
          · subst z; exact absurd (by rw [hq]; exact nI_le (Nat.le_refl _) (by omega)) c_18
    · refine mm_iload_n dX7_addHeard_13 rfl rfl ?_
      refine mm_aload_n dX7_addHeard_14 rfl rfl ?_
      refine mm_getI dX7_addHeard_15 fX7_32 sh_61 rfl ?_
      refine mm_icmp_ge 37 dX7_addHeard_18 (by decide) (fun c_18 => ?_) (fun c_18 => ?_)
      · exact absurd c_18 (by rw [hq]; exact nI_ge (by omega) (by omega))
      · refine mm_aload_n dX7_addHeard_21 rfl rfl ?_
        refine mm_getS dX7_addHeard_22 fX7_18 sh_61 rfl gr_61_1 ?_
        refine mm_iload_n dX7_addHeard_25 rfl rfl ?_
        refine mm_iald (i) dX7_addHeard_26 sh_62 rfl (by omega) ?_
        refine mm_iload_n dX7_addHeard_27 rfl rfl ?_
        refine mm_icmp_ge 37 dX7_addHeard_28 (by decide) (fun c_28 => ?_) (fun c_28 => ?_)
        · have z := hlt i hi
          exfalso; (try simp only [lg_lt, lg_ge, lg_gt, lg_le] at *); simp only [Int32.lt_iff_toInt_lt, Int32.le_iff_toInt_le, Int64.lt_iff_toInt_lt, Int64.le_iff_toInt_le, ti_0, ti_1, ti_2, ti_3, ti_4, ti_5, ti_6, ti_10, ti_12, ti_200, ti_400, ti_500, ti_999, ti_2400, ti_9999, ti_m9999, ti_m20000, ti_m1, i64_toInt, li_0, li_1, li_2, li_3, li_4, li_5, li_10, li_12, li_15, li_48, li_57, li_200, li_500, li_999, li_2400, li_9999, li_m9999, li_11999] at *; omega
        · refine mm_iinc dX7_addHeard_31 rfl rfl rfl ?_
          refine mm_goto 13 dX7_addHeard_34 (by decide) ?_
          exact mm_cast (by rw [nI_succ]; rfl) rfl rfl ih
  refine mm_aload_n dX7_addHeard_0 rfl rfl ?_
  refine mm_getI dX7_addHeard_1 fX7_32 sh_61 rfl ?_
  refine mm_bipush (x := 12) dX7_addHeard_4 (by decide) ?_
  refine mm_icmp_lt 11 dX7_addHeard_6 (by decide) (fun c_6 => ?_) (fun c_6 => ?_)
  · refine mm_iconst (x := 0) dX7_addHeard_11 (by decide) ?_
    refine mm_istore_n dX7_addHeard_12 rfl (by decide) rfl ?_
    exact K13 0 (Nat.zero_le _)
  · exfalso; (try simp only [lg_lt, lg_ge, lg_gt, lg_le] at *); simp only [hq, nI_toInt (show q < 2 ^ 31 by omega), Int32.lt_iff_toInt_lt, Int32.le_iff_toInt_le, Int64.lt_iff_toInt_lt, Int64.le_iff_toInt_le, ti_0, ti_1, ti_2, ti_3, ti_4, ti_5, ti_6, ti_10, ti_12, ti_200, ti_400, ti_500, ti_999, ti_2400, ti_9999, ti_m9999, ti_m20000, ti_m1, i64_toInt, li_0, li_1, li_2, li_3, li_4, li_5, li_10, li_12, li_15, li_48, li_57, li_200, li_500, li_999, li_2400, li_9999, li_m9999, li_11999] at *; omega
set_option maxRecDepth 100000 in
set_option maxHeartbeats 4000000 in
theorem mX10_hear_0 (d : Nat) (h : mm_H) : mm_M (d + 1) YX10_hear [.ref 0, .int (-20000)] h (some (.int 0)) (mm_up h.1 61 2 0, h.2.1, h.2.2) := by
  refine mm_M.of [some (.ref 0), some (.int (-20000))] rfl rfl (Nat.le_of_ble_eq_true rfl) ?_
  refine mm_iload_n dX10_hear_0 rfl rfl ?_
  refine mm_sipush (x := (-20000)) dX10_hear_1 (by decide) ?_
  refine mm_icmp_ne 17 dX10_hear_4 (by decide) (fun c_4 => ?_) (fun c_4 => ?_)
  · exact absurd rfl c_4
  · refine mm_aload_n dX10_hear_7 rfl rfl ?_
    refine mm_getS dX10_hear_8 fX10_45 sh_0 rfl gr_0_7 ?_
    refine mm_iconst (x := 0) dX10_hear_11 (by decide) ?_
    refine mm_putI dX10_hear_12 fX10_223 sh_61 rfl rfl rfl ?_
    refine mm_iconst (x := 0) dX10_hear_15 (by decide) ?_
    exact mm_iretE dX10_hear_16 rfl rfl rfl
set_option maxRecDepth 100000 in
set_option maxHeartbeats 4000000 in
theorem mX10_hear_out (d : Nat) (h : mm_H) (x : Int32) (h0 : ¬ x = -20000) (hc : ¬ (-9999 ≤ x.toInt ∧ x.toInt ≤ 9999)) : mm_M (d + 1) YX10_hear [.ref 0, .int x] h (some (.int (-2))) h := by
  refine mm_M.of [some (.ref 0), some (.int x)] rfl rfl (Nat.le_of_ble_eq_true rfl) ?_
  refine mm_iload_n dX10_hear_0 rfl rfl ?_
  refine mm_sipush (x := (-20000)) dX10_hear_1 (by decide) ?_
  refine mm_icmp_ne 17 dX10_hear_4 (by decide) (fun c_4 => ?_) (fun c_4 => ?_)
  · refine mm_iload_n dX10_hear_17 rfl rfl ?_
    refine mm_sipush (x := (-9999)) dX10_hear_18 (by decide) ?_
    refine mm_icmp_lt 42 dX10_hear_21 (by decide) (fun c_21 => ?_) (fun c_21 => ?_)
    · refine mm_bipush (x := (-2)) dX10_hear_42 (by decide) ?_
      exact mm_iretE dX10_hear_44 rfl rfl rfl
    · refine mm_iload_n dX10_hear_24 rfl rfl ?_
      refine mm_sipush (x := 9999) dX10_hear_25 (by decide) ?_
      refine mm_icmp_gt 42 dX10_hear_28 (by decide) (fun c_28 => ?_) (fun c_28 => ?_)
      · refine mm_bipush (x := (-2)) dX10_hear_42 (by decide) ?_
        exact mm_iretE dX10_hear_44 rfl rfl rfl
      · exfalso; (try simp only [lg_lt, lg_ge, lg_gt, lg_le] at *); simp only [Int32.lt_iff_toInt_lt, Int32.le_iff_toInt_le, Int64.lt_iff_toInt_lt, Int64.le_iff_toInt_le, ti_0, ti_1, ti_2, ti_3, ti_4, ti_5, ti_6, ti_10, ti_12, ti_200, ti_400, ti_500, ti_999, ti_2400, ti_9999, ti_m9999, ti_m20000, ti_m1, i64_toInt, li_0, li_1, li_2, li_3, li_4, li_5, li_10, li_12, li_15, li_48, li_57, li_200, li_500, li_999, li_2400, li_9999, li_m9999, li_11999] at *; omega
  · exact absurd c_4 h0
set_option maxRecDepth 100000 in
set_option maxHeartbeats 4000000 in
theorem mX10_hear_f (d : Nat) (h : mm_H) (x : Int32) (h0 : ¬ x = -20000) (hM : mm_M d YX7_addHeard [.ref 61, .int x] h (some (.int 0)) h) : mm_M (d + 1) YX10_hear [.ref 0, .int x] h (some (.int (-2))) h := by
  refine mm_M.of [some (.ref 0), some (.int x)] rfl rfl (Nat.le_of_ble_eq_true rfl) ?_
  refine mm_iload_n dX10_hear_0 rfl rfl ?_
  refine mm_sipush (x := (-20000)) dX10_hear_1 (by decide) ?_
  refine mm_icmp_ne 17 dX10_hear_4 (by decide) (fun c_4 => ?_) (fun c_4 => ?_)
  · refine mm_iload_n dX10_hear_17 rfl rfl ?_
    refine mm_sipush (x := (-9999)) dX10_hear_18 (by decide) ?_
    refine mm_icmp_lt 42 dX10_hear_21 (by decide) (fun c_21 => ?_) (fun c_21 => ?_)
    · refine mm_bipush (x := (-2)) dX10_hear_42 (by decide) ?_
      exact mm_iretE dX10_hear_44 rfl rfl rfl
    · refine mm_iload_n dX10_hear_24 rfl rfl ?_
      refine mm_sipush (x := 9999) dX10_hear_25 (by decide) ?_
      refine mm_icmp_gt 42 dX10_hear_28 (by decide) (fun c_28 => ?_) (fun c_28 => ?_)
      · refine mm_bipush (x := (-2)) dX10_hear_42 (by decide) ?_
        exact mm_iretE dX10_hear_44 rfl rfl rfl
      · refine mm_aload_n dX10_hear_31 rfl rfl ?_
        refine mm_getS dX10_hear_32 fX10_45 sh_0 rfl gr_0_7 ?_
        refine mm_iload_n dX10_hear_35 rfl rfl ?_
        refine mm_cV (Y1 := YX7_addHeard) dX10_hear_36 lX10_226 vX7_addHeard (hM) sh_61 rfl rfl (by simp [Value.category]) ?_
        refine mm_if_ne 45 dX10_hear_39 (by decide) (fun c_39 => ?_) (fun c_39 => ?_)
        · exact absurd rfl c_39
        · refine mm_bipush (x := (-2)) dX10_hear_42 (by decide) ?_
          exact mm_iretE dX10_hear_44 rfl rfl rfl
  · exact absurd c_4 h0
set_option maxRecDepth 100000 in
set_option maxHeartbeats 4000000 in
theorem mX10_hear_t (d : Nat) (h : mm_H) (x : Int32) (g : mm_H) (hc : -9999 ≤ x.toInt ∧ x.toInt ≤ 9999) (hM : mm_M d YX7_addHeard [.ref 61, .int x] h (some (.int 1)) g) : mm_M (d + 1) YX10_hear [.ref 0, .int x] h (some (.int (g.1 61 2))) g := by
  refine mm_M.of [some (.ref 0), some (.int x)] rfl rfl (Nat.le_of_ble_eq_true rfl) ?_
  refine mm_iload_n dX10_hear_0 rfl rfl ?_
  refine mm_sipush (x := (-20000)) dX10_hear_1 (by decide) ?_
  refine mm_icmp_ne 17 dX10_hear_4 (by decide) (fun c_4 => ?_) (fun c_4 => ?_)
  · refine mm_iload_n dX10_hear_17 rfl rfl ?_
    refine mm_sipush (x := (-9999)) dX10_hear_18 (by decide) ?_
    refine mm_icmp_lt 42 dX10_hear_21 (by decide) (fun c_21 => ?_) (fun c_21 => ?_)
    · exfalso; (try simp only [lg_lt, lg_ge, lg_gt, lg_le] at *); simp only [Int32.lt_iff_toInt_lt, Int32.le_iff_toInt_le, Int64.lt_iff_toInt_lt, Int64.le_iff_toInt_le, ti_0, ti_1, ti_2, ti_3, ti_4, ti_5, ti_6, ti_10, ti_12, ti_200, ti_400, ti_500, ti_999, ti_2400, ti_9999, ti_m9999, ti_m20000, ti_m1, i64_toInt, li_0, li_1, li_2, li_3, li_4, li_5, li_10, li_12, li_15, li_48, li_57, li_200, li_500, li_999, li_2400, li_9999, li_m9999, li_11999] at *; omega
    · refine mm_iload_n dX10_hear_24 rfl rfl ?_
      refine mm_sipush (x := 9999) dX10_hear_25 (by decide) ?_
      refine mm_icmp_gt 42 dX10_hear_28 (by decide) (fun c_28 => ?_) (fun c_28 => ?_)
      · exfalso; (try simp only [lg_lt, lg_ge, lg_gt, lg_le] at *); simp only [Int32.lt_iff_toInt_lt, Int32.le_iff_toInt_le, Int64.lt_iff_toInt_lt, Int64.le_iff_toInt_le, ti_0, ti_1, ti_2, ti_3, ti_4, ti_5, ti_6, ti_10, ti_12, ti_200, ti_400, ti_500, ti_999, ti_2400, ti_9999, ti_m9999, ti_m20000, ti_m1, i64_toInt, li_0, li_1, li_2, li_3, li_4, li_5, li_10, li_12, li_15, li_48, li_57, li_200, li_500, li_999, li_2400, li_9999, li_m9999, li_11999] at *; omega
      · refine mm_aload_n dX10_hear_31 rfl rfl ?_
        refine mm_getS dX10_hear_32 fX10_45 sh_0 rfl gr_0_7 ?_
        refine mm_iload_n dX10_hear_35 rfl rfl ?_
        refine mm_cV (Y1 := YX7_addHeard) dX10_hear_36 lX10_226 vX7_addHeard (hM) sh_61 rfl rfl (by simp [Value.category]) ?_
        refine mm_if_ne 45 dX10_hear_39 (by decide) (fun c_39 => ?_) (fun c_39 => ?_)
        · refine mm_aload_n dX10_hear_45 rfl rfl ?_
          refine mm_getS dX10_hear_46 fX10_45 sh_0 rfl gr_0_7 ?_
          refine mm_getI dX10_hear_49 fX10_223 sh_61 rfl ?_
          exact mm_iretE dX10_hear_52 rfl rfl rfl
        · exact absurd c_39 (by decide)
  · subst c_4
    exfalso; (try simp only [lg_lt, lg_ge, lg_gt, lg_le] at *); simp only [Int32.lt_iff_toInt_lt, Int32.le_iff_toInt_le, Int64.lt_iff_toInt_lt, Int64.le_iff_toInt_le, ti_0, ti_1, ti_2, ti_3, ti_4, ti_5, ti_6, ti_10, ti_12, ti_200, ti_400, ti_500, ti_999, ti_2400, ti_9999, ti_m9999, ti_m20000, ti_m1, i64_toInt, li_0, li_1, li_2, li_3, li_4, li_5, li_10, li_12, li_15, li_48, li_57, li_200, li_500, li_999, li_2400, li_9999, li_m9999, li_11999] at *; omega
set_option maxRecDepth 100000 in
set_option maxHeartbeats 4000000 in
theorem mX11_hear_0 (d : Nat) (h : mm_H) : mm_M (d + 1) YX11_hear [.ref 165, .int (-20000)] h (some (.int 0)) (mm_up h.1 166 4 0, h.2.1, h.2.2) := by
  refine mm_M.of [some (.ref 165), some (.int (-20000)), none, none, none] rfl rfl (Nat.le_of_ble_eq_true rfl) ?_
  refine mm_iload_n dX11_hear_0 rfl rfl ?_
  refine mm_sipush (x := (-20000)) dX11_hear_1 (by decide) ?_
  refine mm_icmp_ne 16 dX11_hear_4 (by decide) (fun c_4 => ?_) (fun c_4 => ?_)
  · exact absurd rfl c_4
  · refine mm_aload_n dX11_hear_7 rfl rfl ?_
    refine mm_getS dX11_hear_8 fX11_9 sh_165 rfl gr_165_1 ?_
    refine mm_iconst (x := 4) dX11_hear_11 (by decide) ?_
    refine mm_iconst (x := 0) dX11_hear_12 (by decide) ?_
    refine mm_iast (4) dX11_hear_13 sh_166 rfl (by decide) ?_
    refine mm_iconst (x := 0) dX11_hear_14 (by decide) ?_
    exact mm_iretE dX11_hear_15 rfl rfl rfl
/-- may x be heard: the first i entries aren't it -/
def sp_mh (f : Nat → Int32) (x c0 : Int32) : Nat → Int32
  | 0 => c0
  | i + 1 => if sp_mh f x c0 i = 0 then 0 else if f i = x then 0 else 1
theorem sp_mh_0 (f : Nat → Int32) (x : Int32) (n : Nat) : sp_mh f x 0 n = 0 := by
  induction n with
  | zero => rfl
  | succ i ih => simp only [sp_mh, ih, if_true]
theorem sp_mh_1 (f : Nat → Int32) (x : Int32) (n : Nat) (h : ∀ j, j < n → ¬ f j = x) : sp_mh f x 1 n = 1 := by
  induction n with
  | zero => rfl
  | succ i ih => simp only [sp_mh, ih (fun j hj => h j (by omega)), if_neg (h i (by omega))]; rfl
theorem sp_mh_x (f : Nat → Int32) (x : Int32) (n p : Nat) (hp : p < n) (he : f p = x) : sp_mh f x 1 n = 0 := by
  induction n with
  | zero => omega
  | succ i ih =>
    rcases (show p < i ∨ p = i by omega) with z | z
    · simp only [sp_mh, ih z, if_true]
    · subst z; simp only [sp_mh, if_pos he]; split <;> rfl
set_option maxRecDepth 100000 in
set_option maxHeartbeats 4000000 in
theorem mX11_hear_f (d : Nat) (h : mm_H) (q : Nat) (hq : h.1 166 4 = nI q) (hq12 : q ≤ 12) (x : Int32) (h0 : ¬ x = -20000) (hz : sp_mh (h.1 182) x (bI (-9999 ≤ x.toInt ∧ x.toInt ≤ 9999 ∧ q < 12)) q = 0) : mm_M (d + 1) YX11_hear [.ref 165, .int x] h (some (.int (-2))) h := by
  refine mm_M.of [some (.ref 165), some (.int x), none, none, none] rfl rfl (Nat.le_of_ble_eq_true rfl) ?_
  have K52 : ∀ i, i ≤ q → mm_R (d + 1) YX11_hear 52 [some (.ref 165), some (.int x), some (.int (nI q)), some (.int (sp_mh (h.1 182) x (bI (-9999 ≤ x.toInt ∧ x.toInt ≤ 9999 ∧ q < 12)) i)), some (.int (nI i))] [] h (some (.int (-2))) h := by
    refine mm_down q ?_ (fun i hi ih => ?_)
    · refine mm_iload dX11_hear_52 rfl ?_
      refine mm_iload_n dX11_hear_54 rfl rfl ?_
      refine mm_icmp_ge 85 dX11_hear_55 (by decide) (fun c_55 => ?_) (fun c_55 => ?_)
      · refine mm_iload_n dX11_hear_85 rfl rfl ?_
        refine mm_if_ne 92 dX11_hear_86 (by decide) (fun c_86 => ?_) (fun c_86 => ?_)
        · exact absurd hz c_86
        · refine mm_bipush (x := (-2)) dX11_hear_89 (by decide) ?_
          exact mm_iretE dX11_hear_91 rfl rfl rfl
      · exact absurd (nI_le (Nat.le_refl _) (by omega)) c_55
    · refine mm_iload dX11_hear_52 rfl ?_
      refine mm_iload_n dX11_hear_54 rfl rfl ?_
      refine mm_icmp_ge 85 dX11_hear_55 (by decide) (fun c_55 => ?_) (fun c_55 => ?_)
      · exact absurd c_55 (nI_ge hi (by omega))
      · refine mm_iload_n dX11_hear_58 rfl rfl ?_
        refine mm_if_eq 77 dX11_hear_59 (by decide) (fun c_59 => ?_) (fun c_59 => ?_)
        · refine mm_iconst (x := 0) dX11_hear_77 (by decide) ?_
          refine mm_istore_n dX11_hear_78 rfl (by decide) rfl ?_
          refine mm_iinc dX11_hear_79 rfl rfl rfl ?_
          refine mm_goto 52 dX11_hear_82 (by decide) ?_
          exact mm_cast (by rw [nI_succ]; simp only [sp_mh]; first | (rw [if_pos c_59]; rfl) | (rw [if_neg c_59, if_pos c_70]; rfl) | (rw [if_neg c_59, if_neg c_70]; rfl)) rfl rfl ih
        · refine mm_aload_n dX11_hear_62 rfl rfl ?_
          refine mm_getS dX11_hear_63 fX11_58 sh_165 rfl gr_165_17 ?_
          refine mm_iload dX11_hear_66 rfl ?_
          refine mm_iald (i) dX11_hear_68 sh_182 rfl (by omega) ?_
          refine mm_iload_n dX11_hear_69 rfl rfl ?_
          refine mm_icmp_eq 77 dX11_hear_70 (by decide) (fun c_70 => ?_) (fun c_70 => ?_)
          · refine mm_iconst (x := 0) dX11_hear_77 (by decide) ?_
            refine mm_istore_n dX11_hear_78 rfl (by decide) rfl ?_
            refine mm_iinc dX11_hear_79 rfl rfl rfl ?_
            refine mm_goto 52 dX11_hear_82 (by decide) ?_
            exact mm_cast (by rw [nI_succ]; simp only [sp_mh]; first | (rw [if_pos c_59]; rfl) | (rw [if_neg c_59, if_pos c_70]; rfl) | (rw [if_neg c_59, if_neg c_70]; rfl)) rfl rfl ih
          · refine mm_iconst (x := 1) dX11_hear_73 (by decide) ?_
            refine mm_goto 78 dX11_hear_74 (by decide) ?_
            refine mm_istore_n dX11_hear_78 rfl (by decide) rfl ?_
            refine mm_iinc dX11_hear_79 rfl rfl rfl ?_
            refine mm_goto 52 dX11_hear_82 (by decide) ?_
            exact mm_cast (by rw [nI_succ]; simp only [sp_mh]; first | (rw [if_pos c_59]; rfl) | (rw [if_neg c_59, if_pos c_70]; rfl) | (rw [if_neg c_59, if_neg c_70]; rfl)) rfl rfl ih
  refine mm_iload_n dX11_hear_0 rfl rfl ?_
  refine mm_sipush (x := (-20000)) dX11_hear_1 (by decide) ?_
  refine mm_icmp_ne 16 dX11_hear_4 (by decide) (fun c_4 => ?_) (fun c_4 => ?_)
  · refine mm_aload_n dX11_hear_16 rfl rfl ?_
    refine mm_getS dX11_hear_17 fX11_9 sh_165 rfl gr_165_1 ?_
    refine mm_iconst (x := 4) dX11_hear_20 (by decide) ?_
    refine mm_iald (4) dX11_hear_21 sh_166 rfl (by decide) ?_
    refine mm_istore_n dX11_hear_22 rfl (by decide) rfl ?_
    refine mm_iload_n dX11_hear_23 rfl rfl ?_
    refine mm_i2l dX11_hear_24 rfl ?_
    refine mm_ldc2 dX11_hear_25 kX11_376 ?_
    refine mm_ldc2 dX11_hear_28 kX11_378 ?_
    refine mm_cS (Y1 := YX11_in) dX11_hear_31 lX11_171 sX11_in (mX11_in d h _ _ _) rfl rfl (by simp [Value.category]) ?_
    refine mm_if_eq 47 dX11_hear_34 (by decide) (fun c_34 => ?_) (fun c_34 => ?_)
    · refine mm_iconst (x := 0) dX11_hear_47 (by decide) ?_
      refine mm_istore_n dX11_hear_48 rfl (by decide) rfl ?_
      refine mm_iconst (x := 0) dX11_hear_49 (by decide) ?_
      refine mm_istore dX11_hear_50 (by decide) rfl ?_
      refine mm_cast ?_ rfl rfl (K52 0 (Nat.zero_le _))
      (first | have q34 := bI_e0.mp c_34 | have q34 := bI_n0.mp c_34)
      have e31 := nI_toInt (show q < 2 ^ 31 by omega)
      have e2 : h.1 166 4 = nI q := hq
      have e3 : sp_mh (h.1 182) x (bI (-9999 ≤ x.toInt ∧ x.toInt ≤ 9999 ∧ q < 12)) 0 = (bI (-9999 ≤ x.toInt ∧ x.toInt ≤ 9999 ∧ q < 12)) := rfl
      rw [e3, e2]
      (first | rw [bI_1 (by simp only [hq, Int32.lt_iff_toInt_lt, Int32.le_iff_toInt_le, Int64.lt_iff_toInt_lt, Int64.le_iff_toInt_le, ti_0, ti_1, ti_2, ti_3, ti_4, ti_5, ti_6, ti_10, ti_12, ti_200, ti_400, ti_500, ti_999, ti_2400, ti_9999, ti_m9999, ti_m20000, ti_m1, i64_toInt, li_0, li_1, li_2, li_3, li_4, li_5, li_10, li_12, li_15, li_48, li_57, li_200, li_500, li_999, li_2400, li_9999, li_m9999, li_11999] at *; omega)]; rfl | rw [bI_0 (by simp only [hq, Int32.lt_iff_toInt_lt, Int32.le_iff_toInt_le, Int64.lt_iff_toInt_lt, Int64.le_iff_toInt_le, ti_0, ti_1, ti_2, ti_3, ti_4, ti_5, ti_6, ti_10, ti_12, ti_200, ti_400, ti_500, ti_999, ti_2400, ti_9999, ti_m9999, ti_m20000, ti_m1, i64_toInt, li_0, li_1, li_2, li_3, li_4, li_5, li_10, li_12, li_15, li_48, li_57, li_200, li_500, li_999, li_2400, li_9999, li_m9999, li_11999] at *; omega)]; rfl)
    · refine mm_iload_n dX11_hear_37 rfl rfl ?_
      refine mm_bipush (x := 12) dX11_hear_38 (by decide) ?_
      refine mm_icmp_ge 47 dX11_hear_40 (by decide) (fun c_40 => ?_) (fun c_40 => ?_)
      · refine mm_iconst (x := 0) dX11_hear_47 (by decide) ?_
        refine mm_istore_n dX11_hear_48 rfl (by decide) rfl ?_
        refine mm_iconst (x := 0) dX11_hear_49 (by decide) ?_
        refine mm_istore dX11_hear_50 (by decide) rfl ?_
        refine mm_cast ?_ rfl rfl (K52 0 (Nat.zero_le _))
        (first | have q34 := bI_e0.mp c_34 | have q34 := bI_n0.mp c_34)
        have e31 := nI_toInt (show q < 2 ^ 31 by omega)
        have e2 : h.1 166 4 = nI q := hq
        have e3 : sp_mh (h.1 182) x (bI (-9999 ≤ x.toInt ∧ x.toInt ≤ 9999 ∧ q < 12)) 0 = (bI (-9999 ≤ x.toInt ∧ x.toInt ≤ 9999 ∧ q < 12)) := rfl
        rw [e3, e2]
        (first | rw [bI_1 (by simp only [hq, Int32.lt_iff_toInt_lt, Int32.le_iff_toInt_le, Int64.lt_iff_toInt_lt, Int64.le_iff_toInt_le, ti_0, ti_1, ti_2, ti_3, ti_4, ti_5, ti_6, ti_10, ti_12, ti_200, ti_400, ti_500, ti_999, ti_2400, ti_9999, ti_m9999, ti_m20000, ti_m1, i64_toInt, li_0, li_1, li_2, li_3, li_4, li_5, li_10, li_12, li_15, li_48, li_57, li_200, li_500, li_999, li_2400, li_9999, li_m9999, li_11999] at *; omega)]; rfl | rw [bI_0 (by simp only [hq, Int32.lt_iff_toInt_lt, Int32.le_iff_toInt_le, Int64.lt_iff_toInt_lt, Int64.le_iff_toInt_le, ti_0, ti_1, ti_2, ti_3, ti_4, ti_5, ti_6, ti_10, ti_12, ti_200, ti_400, ti_500, ti_999, ti_2400, ti_9999, ti_m9999, ti_m20000, ti_m1, i64_toInt, li_0, li_1, li_2, li_3, li_4, li_5, li_10, li_12, li_15, li_48, li_57, li_200, li_500, li_999, li_2400, li_9999, li_m9999, li_11999] at *; omega)]; rfl)
      · refine mm_iconst (x := 1) dX11_hear_43 (by decide) ?_
        refine mm_goto 48 dX11_hear_44 (by decide) ?_
        refine mm_istore_n dX11_hear_48 rfl (by decide) rfl ?_
        refine mm_iconst (x := 0) dX11_hear_49 (by decide) ?_
        refine mm_istore dX11_hear_50 (by decide) rfl ?_
        refine mm_cast ?_ rfl rfl (K52 0 (Nat.zero_le _))
        (first | have q34 := bI_e0.mp c_34 | have q34 := bI_n0.mp c_34)
        have e31 := nI_toInt (show q < 2 ^ 31 by omega)
        have e2 : h.1 166 4 = nI q := hq
        have e3 : sp_mh (h.1 182) x (bI (-9999 ≤ x.toInt ∧ x.toInt ≤ 9999 ∧ q < 12)) 0 = (bI (-9999 ≤ x.toInt ∧ x.toInt ≤ 9999 ∧ q < 12)) := rfl
        rw [e3, e2]
        (first | rw [bI_1 (by simp only [hq, Int32.lt_iff_toInt_lt, Int32.le_iff_toInt_le, Int64.lt_iff_toInt_lt, Int64.le_iff_toInt_le, ti_0, ti_1, ti_2, ti_3, ti_4, ti_5, ti_6, ti_10, ti_12, ti_200, ti_400, ti_500, ti_999, ti_2400, ti_9999, ti_m9999, ti_m20000, ti_m1, i64_toInt, li_0, li_1, li_2, li_3, li_4, li_5, li_10, li_12, li_15, li_48, li_57, li_200, li_500, li_999, li_2400, li_9999, li_m9999, li_11999] at *; omega)]; rfl | rw [bI_0 (by simp only [hq, Int32.lt_iff_toInt_lt, Int32.le_iff_toInt_le, Int64.lt_iff_toInt_lt, Int64.le_iff_toInt_le, ti_0, ti_1, ti_2, ti_3, ti_4, ti_5, ti_6, ti_10, ti_12, ti_200, ti_400, ti_500, ti_999, ti_2400, ti_9999, ti_m9999, ti_m20000, ti_m1, i64_toInt, li_0, li_1, li_2, li_3, li_4, li_5, li_10, li_12, li_15, li_48, li_57, li_200, li_500, li_999, li_2400, li_9999, li_m9999, li_11999] at *; omega)]; rfl)
  · exact absurd c_4 h0
set_option maxRecDepth 100000 in
set_option maxHeartbeats 4000000 in
theorem mX11_hear_t (d : Nat) (h : mm_H) (q : Nat) (hq : h.1 166 4 = nI q) (hq12 : q ≤ 12) (x : Int32) (h0 : ¬ x = -20000) (hz : ¬ sp_mh (h.1 182) x (bI (-9999 ≤ x.toInt ∧ x.toInt ≤ 9999 ∧ q < 12)) q = 0) (hc : q < 12) (p : Nat) (hp : p ≤ q) (hle : ∀ j, j < p → h.1 182 j < x) (hgt : ∀ j, p ≤ j → j < q → x < h.1 182 j) : mm_M (d + 1) YX11_hear [.ref 165, .int x] h (some (.int (nI (q + 1)))) (mm_up (mm_row h.1 182 (sp_ins (h.1 182) p x q)) 166 4 (nI (q + 1)), h.2.1, h.2.2) := by
  refine mm_M.of [some (.ref 165), some (.int x), none, none, none] rfl rfl (Nat.le_of_ble_eq_true rfl) ?_
  have K95 : ∀ k, k ≤ q - p → mm_R (d + 1) YX11_hear 95 [some (.ref 165), some (.int x), some (.int (nI q)), some (.int (sp_mh (h.1 182) x (bI (-9999 ≤ x.toInt ∧ x.toInt ≤ 9999 ∧ q < 12)) q)), some (.int (nI (q - k)))] [] (mm_row h.1 182 (sp_shf (h.1 182) (q - k) q), h.2.1, h.2.2) (some (.int (nI (q + 1)))) (mm_up (mm_row h.1 182 (sp_ins (h.1 182) p x q)) 166 4 (nI (q + 1)), h.2.1, h.2.2) := by
    refine mm_down (q - p) ?_ (fun k hk ih => ?_)
    · have e1 : q - (q - p) = p := by omega
      rw [e1]
      have K135 : mm_R (d + 1) YX11_hear 135 [some (.ref 165), some (.int x), some (.int (nI q)), some (.int (sp_mh (h.1 182) x (bI (-9999 ≤ x.toInt ∧ x.toInt ≤ 9999 ∧ q < 12)) q)), some (.int (nI p))] [] (mm_row h.1 182 (sp_shf (h.1 182) (p) q), h.2.1, h.2.2) (some (.int (nI (q + 1)))) (mm_up (mm_row h.1 182 (sp_ins (h.1 182) p x q)) 166 4 (nI (q + 1)), h.2.1, h.2.2) := by
        refine mm_aload_n dX11_hear_135 rfl rfl ?_
        refine mm_getS dX11_hear_136 fX11_58 sh_165 rfl gr_165_17 ?_
        refine mm_iload dX11_hear_139 rfl ?_
        refine mm_iload_n dX11_hear_141 rfl rfl ?_
        refine mm_iast (p) dX11_hear_142 sh_182 rfl (by omega) ?_
        refine mm_aload_n dX11_hear_143 rfl rfl ?_
        refine mm_getS dX11_hear_144 fX11_9 sh_165 rfl gr_165_1 ?_
        refine mm_iconst (x := 4) dX11_hear_147 (by decide) ?_
        refine mm_dup2 dX11_hear_148 rfl rfl ?_
        refine mm_iald (4) dX11_hear_149 sh_166 rfl (by decide) ?_
        refine mm_iconst (x := 1) dX11_hear_150 (by decide) ?_
        refine mm_iadd dX11_hear_151 ?_
        refine mm_iast (4) dX11_hear_152 sh_166 rfl (by decide) ?_
        refine mm_iload_n dX11_hear_153 rfl rfl ?_
        refine mm_iconst (x := 1) dX11_hear_154 (by decide) ?_
        refine mm_iadd dX11_hear_155 ?_
        exact mm_iretE dX11_hear_156 rfl (nI_succ q).symm (by dsimp only; rw [mm_up_row, mm_row_n (show 166 ≠ 182 by decide), hq, show nI q + 1 = nI (q + 1) from (nI_succ q).symm]; rfl)
      refine mm_iload dX11_hear_95 rfl ?_
      refine mm_if_le 135 dX11_hear_97 (by decide) (fun c_97 => ?_) (fun c_97 => ?_)
      · exact K135
      · obtain ⟨w, hw⟩ : ∃ w, p = w + 1 := by
          rcases Nat.eq_zero_or_pos p with z | z
          · subst z; exact absurd (by decide) c_97
          · exact ⟨p - 1, by omega⟩
        refine mm_aload_n dX11_hear_100 rfl rfl ?_
        refine mm_getS dX11_hear_101 fX11_58 sh_165 rfl gr_165_17 ?_
        refine mm_iload dX11_hear_104 rfl ?_
        refine mm_iconst (x := 1) dX11_hear_106 (by decide) ?_
        refine mm_isub dX11_hear_107 ?_
        refine mm_iald (w) dX11_hear_108 sh_182 (by rw [hw]; exact nI_pred w) (by omega) ?_
        refine mm_iload_n dX11_hear_109 rfl rfl ?_
        refine mm_icmp_le 135 dX11_hear_110 (by decide) (fun c_110 => ?_) (fun c_110 => ?_)
        · exact K135
        · have z := hle w (by omega)
          dsimp only at c_110
          rw [mm_row_s] at c_110
          have e9 : sp_shf (h.1 182) p q w = h.1 182 w := by
            have : ¬ (p < w ∧ w ≤ q) := by omega
            simp only [sp_shf, if_neg this]
          rw [e9] at c_110
          exfalso; (try simp only [lg_lt, lg_ge, lg_gt, lg_le] at *); simp only [Int32.lt_iff_toInt_lt, Int32.le_iff_toInt_le, Int64.lt_iff_toInt_lt, Int64.le_iff_toInt_le, ti_0, ti_1, ti_2, ti_3, ti_4, ti_5, ti_6, ti_10, ti_12, ti_200, ti_400, ti_500, ti_999, ti_2400, ti_9999, ti_m9999, ti_m20000, ti_m1, i64_toInt, li_0, li_1, li_2, li_3, li_4, li_5, li_10, li_12, li_15, li_48, li_57, li_200, li_500, li_999, li_2400, li_9999, li_m9999, li_11999] at *; omega
    · obtain ⟨w, hw⟩ : ∃ w, q - k = w + 1 := ⟨q - k - 1, by omega⟩
      have hw2 : q - (k + 1) = w := by omega
      rw [hw2] at ih
      rw [hw]
      have e9 : sp_shf (h.1 182) (w + 1) q w = h.1 182 w := by
        have : ¬ (w + 1 < w ∧ w ≤ q) := by omega
        simp only [sp_shf, if_neg this]
      have z := hgt w (by omega) (by omega)
      refine mm_iload dX11_hear_95 rfl ?_
      refine mm_if_le 135 dX11_hear_97 (by decide) (fun c_97 => ?_) (fun c_97 => ?_)
      · exact absurd c_97 (nI_nle (by omega) (by omega))
      · refine mm_aload_n dX11_hear_100 rfl rfl ?_
        refine mm_getS dX11_hear_101 fX11_58 sh_165 rfl gr_165_17 ?_
        refine mm_iload dX11_hear_104 rfl ?_
        refine mm_iconst (x := 1) dX11_hear_106 (by decide) ?_
        refine mm_isub dX11_hear_107 ?_
        refine mm_iald (w) dX11_hear_108 sh_182 (nI_pred w) (by omega) ?_
        refine mm_iload_n dX11_hear_109 rfl rfl ?_
        refine mm_icmp_le 135 dX11_hear_110 (by decide) (fun c_110 => ?_) (fun c_110 => ?_)
        · dsimp only at c_110
          rw [mm_row_s, e9] at c_110
          exfalso; (try simp only [lg_lt, lg_ge, lg_gt, lg_le] at *); simp only [Int32.lt_iff_toInt_lt, Int32.le_iff_toInt_le, Int64.lt_iff_toInt_lt, Int64.le_iff_toInt_le, ti_0, ti_1, ti_2, ti_3, ti_4, ti_5, ti_6, ti_10, ti_12, ti_200, ti_400, ti_500, ti_999, ti_2400, ti_9999, ti_m9999, ti_m20000, ti_m1, i64_toInt, li_0, li_1, li_2, li_3, li_4, li_5, li_10, li_12, li_15, li_48, li_57, li_200, li_500, li_999, li_2400, li_9999, li_m9999, li_11999] at *; omega
        · refine mm_aload_n dX11_hear_113 rfl rfl ?_
          refine mm_getS dX11_hear_114 fX11_58 sh_165 rfl gr_165_17 ?_
          refine mm_iload dX11_hear_117 rfl ?_
          refine mm_aload_n dX11_hear_119 rfl rfl ?_
          refine mm_getS dX11_hear_120 fX11_58 sh_165 rfl gr_165_17 ?_
          refine mm_iload dX11_hear_123 rfl ?_
          refine mm_iconst (x := 1) dX11_hear_125 (by decide) ?_
          refine mm_isub dX11_hear_126 ?_
          refine mm_iald (w) dX11_hear_127 sh_182 (nI_pred w) (by omega) ?_
          refine mm_iast (w + 1) dX11_hear_128 sh_182 rfl (by omega) ?_
          refine mm_iinc dX11_hear_129 rfl rfl rfl ?_
          refine mm_goto 95 dX11_hear_132 (by decide) ?_
          refine mm_cast (by rw [nI_m1]; rfl) rfl ?_ ih
          dsimp only
          rw [mm_up_row, mm_row_s, sp_shf_s _ _ _ (by omega)]
  have K52 : ∀ i, i ≤ q → mm_R (d + 1) YX11_hear 52 [some (.ref 165), some (.int x), some (.int (nI q)), some (.int (sp_mh (h.1 182) x (bI (-9999 ≤ x.toInt ∧ x.toInt ≤ 9999 ∧ q < 12)) i)), some (.int (nI i))] [] h (some (.int (nI (q + 1)))) (mm_up (mm_row h.1 182 (sp_ins (h.1 182) p x q)) 166 4 (nI (q + 1)), h.2.1, h.2.2) := by
    refine mm_down q ?_ (fun i hi ih => ?_)
    · refine mm_iload dX11_hear_52 rfl ?_
      refine mm_iload_n dX11_hear_54 rfl rfl ?_
      refine mm_icmp_ge 85 dX11_hear_55 (by decide) (fun c_55 => ?_) (fun c_55 => ?_)
      · refine mm_iload_n dX11_hear_85 rfl rfl ?_
        refine mm_if_ne 92 dX11_hear_86 (by decide) (fun c_86 => ?_) (fun c_86 => ?_)
        · refine mm_iload_n dX11_hear_92 rfl rfl ?_
          refine mm_istore dX11_hear_93 (by decide) rfl ?_
          exact mm_cast rfl rfl (by rw [Nat.sub_zero, sp_shf_q, mm_row_self]) (K95 0 (Nat.zero_le _))
        · exact absurd c_86 hz
      · exact absurd (nI_le (Nat.le_refl _) (by omega)) c_55
    · refine mm_iload dX11_hear_52 rfl ?_
      refine mm_iload_n dX11_hear_54 rfl rfl ?_
      refine mm_icmp_ge 85 dX11_hear_55 (by decide) (fun c_55 => ?_) (fun c_55 => ?_)
      · exact absurd c_55 (nI_ge hi (by omega))
      · refine mm_iload_n dX11_hear_58 rfl rfl ?_
        refine mm_if_eq 77 dX11_hear_59 (by decide) (fun c_59 => ?_) (fun c_59 => ?_)
        · refine mm_iconst (x := 0) dX11_hear_77 (by decide) ?_
          refine mm_istore_n dX11_hear_78 rfl (by decide) rfl ?_
          refine mm_iinc dX11_hear_79 rfl rfl rfl ?_
          refine mm_goto 52 dX11_hear_82 (by decide) ?_
          exact mm_cast (by rw [nI_succ]; simp only [sp_mh]; first | (rw [if_pos c_59]; rfl) | (rw [if_neg c_59, if_pos c_70]; rfl) | (rw [if_neg c_59, if_neg c_70]; rfl)) rfl rfl ih
        · refine mm_aload_n dX11_hear_62 rfl rfl ?_
          refine mm_getS dX11_hear_63 fX11_58 sh_165 rfl gr_165_17 ?_
          refine mm_iload dX11_hear_66 rfl ?_
          refine mm_iald (i) dX11_hear_68 sh_182 rfl (by omega) ?_
          refine mm_iload_n dX11_hear_69 rfl rfl ?_
          refine mm_icmp_eq 77 dX11_hear_70 (by decide) (fun c_70 => ?_) (fun c_70 => ?_)
          · refine mm_iconst (x := 0) dX11_hear_77 (by decide) ?_
            refine mm_istore_n dX11_hear_78 rfl (by decide) rfl ?_
            refine mm_iinc dX11_hear_79 rfl rfl rfl ?_
            refine mm_goto 52 dX11_hear_82 (by decide) ?_
            exact mm_cast (by rw [nI_succ]; simp only [sp_mh]; first | (rw [if_pos c_59]; rfl) | (rw [if_neg c_59, if_pos c_70]; rfl) | (rw [if_neg c_59, if_neg c_70]; rfl)) rfl rfl ih
          · refine mm_iconst (x := 1) dX11_hear_73 (by decide) ?_
            refine mm_goto 78 dX11_hear_74 (by decide) ?_
            refine mm_istore_n dX11_hear_78 rfl (by decide) rfl ?_
            refine mm_iinc dX11_hear_79 rfl rfl rfl ?_
            refine mm_goto 52 dX11_hear_82 (by decide) ?_
            exact mm_cast (by rw [nI_succ]; simp only [sp_mh]; first | (rw [if_pos c_59]; rfl) | (rw [if_neg c_59, if_pos c_70]; rfl) | (rw [if_neg c_59, if_neg c_70]; rfl)) rfl rfl ih
  refine mm_iload_n dX11_hear_0 rfl rfl ?_
  refine mm_sipush (x := (-20000)) dX11_hear_1 (by decide) ?_
  refine mm_icmp_ne 16 dX11_hear_4 (by decide) (fun c_4 => ?_) (fun c_4 => ?_)
  · refine mm_aload_n dX11_hear_16 rfl rfl ?_
    refine mm_getS dX11_hear_17 fX11_9 sh_165 rfl gr_165_1 ?_
    refine mm_iconst (x := 4) dX11_hear_20 (by decide) ?_
    refine mm_iald (4) dX11_hear_21 sh_166 rfl (by decide) ?_
    refine mm_istore_n dX11_hear_22 rfl (by decide) rfl ?_
    refine mm_iload_n dX11_hear_23 rfl rfl ?_
    refine mm_i2l dX11_hear_24 rfl ?_
    refine mm_ldc2 dX11_hear_25 kX11_376 ?_
    refine mm_ldc2 dX11_hear_28 kX11_378 ?_
    refine mm_cS (Y1 := YX11_in) dX11_hear_31 lX11_171 sX11_in (mX11_in d h _ _ _) rfl rfl (by simp [Value.category]) ?_
    refine mm_if_eq 47 dX11_hear_34 (by decide) (fun c_34 => ?_) (fun c_34 => ?_)
    · refine mm_iconst (x := 0) dX11_hear_47 (by decide) ?_
      refine mm_istore_n dX11_hear_48 rfl (by decide) rfl ?_
      refine mm_iconst (x := 0) dX11_hear_49 (by decide) ?_
      refine mm_istore dX11_hear_50 (by decide) rfl ?_
      refine mm_cast ?_ rfl rfl (K52 0 (Nat.zero_le _))
      (first | have q34 := bI_e0.mp c_34 | have q34 := bI_n0.mp c_34)
      have e31 := nI_toInt (show q < 2 ^ 31 by omega)
      have e2 : h.1 166 4 = nI q := hq
      have e3 : sp_mh (h.1 182) x (bI (-9999 ≤ x.toInt ∧ x.toInt ≤ 9999 ∧ q < 12)) 0 = (bI (-9999 ≤ x.toInt ∧ x.toInt ≤ 9999 ∧ q < 12)) := rfl
      rw [e3, e2]
      (first | rw [bI_1 (by simp only [hq, Int32.lt_iff_toInt_lt, Int32.le_iff_toInt_le, Int64.lt_iff_toInt_lt, Int64.le_iff_toInt_le, ti_0, ti_1, ti_2, ti_3, ti_4, ti_5, ti_6, ti_10, ti_12, ti_200, ti_400, ti_500, ti_999, ti_2400, ti_9999, ti_m9999, ti_m20000, ti_m1, i64_toInt, li_0, li_1, li_2, li_3, li_4, li_5, li_10, li_12, li_15, li_48, li_57, li_200, li_500, li_999, li_2400, li_9999, li_m9999, li_11999] at *; omega)]; rfl | rw [bI_0 (by simp only [hq, Int32.lt_iff_toInt_lt, Int32.le_iff_toInt_le, Int64.lt_iff_toInt_lt, Int64.le_iff_toInt_le, ti_0, ti_1, ti_2, ti_3, ti_4, ti_5, ti_6, ti_10, ti_12, ti_200, ti_400, ti_500, ti_999, ti_2400, ti_9999, ti_m9999, ti_m20000, ti_m1, i64_toInt, li_0, li_1, li_2, li_3, li_4, li_5, li_10, li_12, li_15, li_48, li_57, li_200, li_500, li_999, li_2400, li_9999, li_m9999, li_11999] at *; omega)]; rfl)
    · refine mm_iload_n dX11_hear_37 rfl rfl ?_
      refine mm_bipush (x := 12) dX11_hear_38 (by decide) ?_
      refine mm_icmp_ge 47 dX11_hear_40 (by decide) (fun c_40 => ?_) (fun c_40 => ?_)
      · refine mm_iconst (x := 0) dX11_hear_47 (by decide) ?_
        refine mm_istore_n dX11_hear_48 rfl (by decide) rfl ?_
        refine mm_iconst (x := 0) dX11_hear_49 (by decide) ?_
        refine mm_istore dX11_hear_50 (by decide) rfl ?_
        refine mm_cast ?_ rfl rfl (K52 0 (Nat.zero_le _))
        (first | have q34 := bI_e0.mp c_34 | have q34 := bI_n0.mp c_34)
        have e31 := nI_toInt (show q < 2 ^ 31 by omega)
        have e2 : h.1 166 4 = nI q := hq
        have e3 : sp_mh (h.1 182) x (bI (-9999 ≤ x.toInt ∧ x.toInt ≤ 9999 ∧ q < 12)) 0 = (bI (-9999 ≤ x.toInt ∧ x.toInt ≤ 9999 ∧ q < 12)) := rfl
        rw [e3, e2]
        (first | rw [bI_1 (by simp only [hq, Int32.lt_iff_toInt_lt, Int32.le_iff_toInt_le, Int64.lt_iff_toInt_lt, Int64.le_iff_toInt_le, ti_0, ti_1, ti_2, ti_3, ti_4, ti_5, ti_6, ti_10, ti_12, ti_200, ti_400, ti_500, ti_999, ti_2400, ti_9999, ti_m9999, ti_m20000, ti_m1, i64_toInt, li_0, li_1, li_2, li_3, li_4, li_5, li_10, li_12, li_15, li_48, li_57, li_200, li_500, li_999, li_2400, li_9999, li_m9999, li_11999] at *; omega)]; rfl | rw [bI_0 (by simp only [hq, Int32.lt_iff_toInt_lt, Int32.le_iff_toInt_le, Int64.lt_iff_toInt_lt, Int64.le_iff_toInt_le, ti_0, ti_1, ti_2, ti_3, ti_4, ti_5, ti_6, ti_10, ti_12, ti_200, ti_400, ti_500, ti_999, ti_2400, ti_9999, ti_m9999, ti_m20000, ti_m1, i64_toInt, li_0, li_1, li_2, li_3, li_4, li_5, li_10, li_12, li_15, li_48, li_57, li_200, li_500, li_999, li_2400, li_9999, li_m9999, li_11999] at *; omega)]; rfl)
      · refine mm_iconst (x := 1) dX11_hear_43 (by decide) ?_
        refine mm_goto 48 dX11_hear_44 (by decide) ?_
        refine mm_istore_n dX11_hear_48 rfl (by decide) rfl ?_
        refine mm_iconst (x := 0) dX11_hear_49 (by decide) ?_
        refine mm_istore dX11_hear_50 (by decide) rfl ?_
        refine mm_cast ?_ rfl rfl (K52 0 (Nat.zero_le _))
        (first | have q34 := bI_e0.mp c_34 | have q34 := bI_n0.mp c_34)
        have e31 := nI_toInt (show q < 2 ^ 31 by omega)
        have e2 : h.1 166 4 = nI q := hq
        have e3 : sp_mh (h.1 182) x (bI (-9999 ≤ x.toInt ∧ x.toInt ≤ 9999 ∧ q < 12)) 0 = (bI (-9999 ≤ x.toInt ∧ x.toInt ≤ 9999 ∧ q < 12)) := rfl
        rw [e3, e2]
        (first | rw [bI_1 (by simp only [hq, Int32.lt_iff_toInt_lt, Int32.le_iff_toInt_le, Int64.lt_iff_toInt_lt, Int64.le_iff_toInt_le, ti_0, ti_1, ti_2, ti_3, ti_4, ti_5, ti_6, ti_10, ti_12, ti_200, ti_400, ti_500, ti_999, ti_2400, ti_9999, ti_m9999, ti_m20000, ti_m1, i64_toInt, li_0, li_1, li_2, li_3, li_4, li_5, li_10, li_12, li_15, li_48, li_57, li_200, li_500, li_999, li_2400, li_9999, li_m9999, li_11999] at *; omega)]; rfl | rw [bI_0 (by simp only [hq, Int32.lt_iff_toInt_lt, Int32.le_iff_toInt_le, Int64.lt_iff_toInt_lt, Int64.le_iff_toInt_le, ti_0, ti_1, ti_2, ti_3, ti_4, ti_5, ti_6, ti_10, ti_12, ti_200, ti_400, ti_500, ti_999, ti_2400, ti_9999, ti_m9999, ti_m20000, ti_m1, i64_toInt, li_0, li_1, li_2, li_3, li_4, li_5, li_10, li_12, li_15, li_48, li_57, li_200, li_500, li_999, li_2400, li_9999, li_m9999, li_11999] at *; omega)]; rfl)
  · exact absurd c_4 h0
