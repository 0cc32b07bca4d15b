/-! A mint's text; the class reads it. -/
/-- a number stands there, within these bounds -/
abbrev okN (B : Nat → Int32) (n pos : Nat) (lo hi : Int32) : Prop := kd B n pos = 2 ∧ lo ≤ num B n pos ∧ num B n pos ≤ hi
def cdN (B : Nat → Int32) (n pos : Nat) : Nat := 1 + 8 * pos + (if kd B n pos = 2 then 1 else 0)
def rd (B : Nat → Int32) (n : Nat) (s : Nat × Nat) (lo hi : Int32) : Nat × Nat := if s.2 = 0 then (if okN B n s.1 lo hi then (nx B n s.1, 0) else (s.1, cdN B n s.1)) else s
def addC (A : MD) (v1 v2 v3 v4 : Int32) : MD := (fun i c => if c = mn A then (if i = 0 then v1 else if i = 1 then v2 else if i = 2 then v3 else if i = 3 then v4 else if i = 4 ∨ i = 5 then 0 else mr A i c) else mr A i c, mn A + 1, mk A, mb A, mf A)
def addK (A : MD) (v1 v2 : Int32) : MD := (fun i c => if c = mk A ∧ i = 6 then v1 else if c = mk A ∧ i = 7 then v2 else mr A i c, mn A, mk A + 1, mb A, mf A)
def setB (A : MD) (v : Int32) : MD := (mr A, mn A, mk A, v, mf A)
def setF (A : MD) (v : Int32) : MD := (mr A, mn A, mk A, mb A, v)
/-- one clause of a mint -/
def mcl (B : Nat → Int32) (n : Nat) (A : MD) (bt dt pos : Nat) : Except Nat (MD × Nat × Nat × Nat) :=
  if kd B n pos = 21 then (if 12 ≤ mn A then .error (1 + 8 * pos + 4) else
    if (rd B n (rd B n (rd B n (rd B n (nx B n pos, 0) 0 2400) 1 99) 0 999) 1 99).2 = 0 then .ok (addC A (num B n (nx B n pos)) (num B n (rd B n (nx B n pos, 0) 0 2400).1) (num B n (rd B n (rd B n (nx B n pos, 0) 0 2400) 1 99).1) (num B n (rd B n (rd B n (rd B n (nx B n pos, 0) 0 2400) 1 99) 0 999).1), bt, dt, (rd B n (rd B n (rd B n (rd B n (nx B n pos, 0) 0 2400) 1 99) 0 999) 1 99).1) else .error (rd B n (rd B n (rd B n (rd B n (nx B n pos, 0) 0 2400) 1 99) 0 999) 1 99).2)
  else if kd B n pos = 26 then (if 4 ≤ mk A then .error (1 + 8 * pos + 4) else
    if (rd B n (rd B n (nx B n pos, 0) 0 1200) 0 99).2 = 0 then .ok (addK A (num B n (nx B n pos)) (num B n (rd B n (nx B n pos, 0) 0 1200).1), bt, dt, (rd B n (rd B n (nx B n pos, 0) 0 1200) 0 99).1) else .error (rd B n (rd B n (nx B n pos, 0) 0 1200) 0 99).2)
  else if kd B n pos = 27 then (if ¬ bt = 0 then .error (1 + 8 * pos + 4) else
    if (rd B n (nx B n pos, 0) 0 999).2 = 0 then .ok (setB A (num B n (nx B n pos)), 1, dt, (rd B n (nx B n pos, 0) 0 999).1) else .error (rd B n (nx B n pos, 0) 0 999).2)
  else if kd B n pos = 28 then (if ¬ dt = 0 then .error (1 + 8 * pos + 4) else
    if (rd B n (nx B n pos, 0) 0 99).2 = 0 then .ok (setF A (num B n (nx B n pos)), bt, 1, (rd B n (nx B n pos, 0) 0 99).1) else .error (rd B n (nx B n pos, 0) 0 99).2)
  else .error (1 + 8 * pos)
def viewD (h : mm_H) (A : MD) : Prop := h.1 9 0 = nI (mn A) ∧ h.1 9 7 = nI (mk A) ∧ h.1 9 10 = mb A ∧ h.1 9 11 = mf A ∧ (∀ c, c < mn A → h.1 10 c = mr A 0 c ∧ h.1 11 c = mr A 1 c ∧ h.1 12 c = mr A 2 c ∧ h.1 13 c = mr A 3 c ∧ h.1 14 c = mr A 4 c ∧ h.1 15 c = mr A 5 c) ∧ ∀ c, c < mk A → h.1 16 c = mr A 6 c ∧ h.1 17 c = mr A 7 c
theorem viewD_f {p : Nat → Bool} {h g : mm_H} {A : MD} (hV : viewD h A) (e : frm p h g) (hp : ∀ c, 9 ≤ c ∧ c ≤ 17 → p c = false) : viewD g A := by
  unfold viewD at *
  rw [e.i (hp 9 (by decide)), e.i (hp 10 (by decide)), e.i (hp 11 (by decide)), e.i (hp 12 (by decide)), e.i (hp 13 (by decide)), e.i (hp 14 (by decide)), e.i (hp 15 (by decide)), e.i (hp 16 (by decide)), e.i (hp 17 (by decide))]
  exact hV
theorem TX_f {B : Nat → Int32} {n : Nat} {h g : mm_H} {pos ft : Nat} {p : Nat → Bool} (t : TX B n h pos ft) (e : frm p h g) (hp : p 4 = false ∧ p 5 = false ∧ p 6 = false ∧ p 7 = false) : TX B n g pos ft := TX_c t (fun j _ => by rw [e.i hp.1]) (e.i hp.2.1) (e.i hp.2.2.1) (e.i hp.2.2.2)
theorem kd_lt (B : Nat → Int32) (n p : Nat) : kd B n p < 100 := by
  unfold kd
  split
  · decide
  · split
    · decide
    · split
      · have := wk_bd B p (en B n p); omega
      · unfold sgn; repeat (first | decide | split)
theorem rd_lt {B : Nat → Int32} {n : Nat} (hn : n ≤ 400) {s : Nat × Nat} (h1 : s.1 ≤ n) (h2 : s.2 < 4000) (lo hi : Int32) : (rd B n s lo hi).1 ≤ n ∧ (rd B n s lo hi).2 < 4000 := by
  unfold rd
  split
  · split
    · refine ⟨?_, by show 0 < 4000; decide⟩
      show nx B n s.1 ≤ n
      by_cases z : s.1 < n
      · exact (nx_bd z).2
      · unfold nx; rw [if_pos (by omega)]; exact Nat.le_refl _
    · refine ⟨h1, ?_⟩
      show cdN B n s.1 < 4000
      unfold cdN; split <;> omega
  · exact ⟨h1, h2⟩
set_option maxRecDepth 100000 in
set_option maxHeartbeats 4000000 in
theorem mX6_readNumber (d : Nat) (h : mm_H) (B : Nat → Int32) (n : Nat) (hn : n ≤ 400) (pos ft : Nat) (hft : ft < 4000) (t : TX B n h pos ft) (lo hi : Int32) : ∃ g, mm_M (d + 1) YX6_readNumber [.ref 8, .int lo, .int hi] h (some (.int (num B n pos))) g ∧ TX B n g (rd B n (pos, ft) lo hi).1 (rd B n (pos, ft) lo hi).2 ∧ frm (onep 4) h g := by
  have M1 := mX8_number d h B n pos ft t
  have M2 := mX8_kind d h B n pos ft t
  obtain ⟨f0, F0m, F0t, F0f⟩ := mX8_fail d h B n pos ft t hn hft 0 (by decide)
  obtain ⟨f1, F1m, F1t, F1f⟩ := mX8_fail d h B n pos ft t hn hft 1 (by decide)
  obtain ⟨g1, S1m, S1t, S1f⟩ := mX8_step d h B n pos ft t
  have eft : h.1 4 5 = nI ft := by obtain ⟨N, j, a, b, c, e, e2, tb, g1, g2, g3⟩ := t; exact g3
  have kb : kd B n pos < 100 := kd_lt B n pos
  by_cases hk : kd B n pos = 2
  · by_cases hr : lo ≤ num B n pos ∧ num B n pos ≤ hi
    · by_cases hf : ft = 0
      · have e : rd B n (pos, ft) lo hi = (nx B n pos, 0) := by unfold rd; rw [if_pos hf, if_pos ⟨hk, hr⟩]
        rw [e]
        refine ⟨g1, ?_, by rw [← hf]; exact S1t, S1f⟩
        refine mm_M.of [some (.ref 8), some (.int lo), some (.int hi), none] rfl rfl (Nat.le_of_ble_eq_true rfl) ?_
        refine mm_aload_n dX6_readNumber_0 rfl rfl ?_
        refine mm_getS dX6_readNumber_1 fX6_18 sh_8 rfl gr_8_1 ?_
        refine mm_cV (Y1 := YX8_number) dX6_readNumber_4 lX6_83 vX8_number (M1) sh_4 rfl rfl (by simp [Value.category]) ?_
        refine mm_istore_n dX6_readNumber_7 rfl (by decide) rfl ?_
        refine mm_aload_n dX6_readNumber_8 rfl rfl ?_
        refine mm_getS dX6_readNumber_9 fX6_18 sh_8 rfl gr_8_1 ?_
        refine mm_cV (Y1 := YX8_kind) dX6_readNumber_12 lX6_41 vX8_kind (M2) sh_4 rfl rfl (by simp [Value.category]) ?_
        refine mm_iconst (x := 2) dX6_readNumber_15 (by decide) ?_
        refine mm_icmp_eq 30 dX6_readNumber_16 (by decide) (fun c_16 => ?_) (fun c_16 => ?_)
        · refine mm_iload_n dX6_readNumber_30 rfl rfl ?_
          refine mm_iload_n dX6_readNumber_31 rfl rfl ?_
          refine mm_icmp_lt 40 dX6_readNumber_32 (by decide) (fun c_32 => ?_) (fun c_32 => ?_)
          · exact absurd c_32 (Int32.not_lt.mpr hr.1)
          · refine mm_iload_n dX6_readNumber_35 rfl rfl ?_
            refine mm_iload_n dX6_readNumber_36 rfl rfl ?_
            refine mm_icmp_le 51 dX6_readNumber_37 (by decide) (fun c_37 => ?_) (fun c_37 => ?_)
            · refine mm_aload_n dX6_readNumber_51 rfl rfl ?_
              refine mm_getS dX6_readNumber_52 fX6_18 sh_8 rfl gr_8_1 ?_
              refine mm_getI dX6_readNumber_55 fX6_32 sh_4 rfl ?_
              refine mm_if_ne 68 dX6_readNumber_58 (by decide) (fun c_58 => ?_) (fun c_58 => ?_)
              · exact absurd (by rw [eft, hf]; rfl) c_58
              · refine mm_aload_n dX6_readNumber_61 rfl rfl ?_
                refine mm_getS dX6_readNumber_62 fX6_18 sh_8 rfl gr_8_1 ?_
                refine mm_cV (Y1 := YX8_step) dX6_readNumber_65 lX6_45 vX8_step (S1m) sh_4 rfl rfl (by simp [Value.category]) ?_
                refine mm_iload_n dX6_readNumber_68 rfl rfl ?_
                exact mm_iretE dX6_readNumber_69 rfl rfl rfl
            · exact absurd hr.2 c_37
        · exact absurd (by rw [hk]; rfl) c_16
      · have e : rd B n (pos, ft) lo hi = (pos, ft) := by unfold rd; rw [if_neg hf]
        rw [e]
        refine ⟨h, ?_, t, frm.refl _ h⟩
        refine mm_M.of [some (.ref 8), some (.int lo), some (.int hi), none] rfl rfl (Nat.le_of_ble_eq_true rfl) ?_
        refine mm_aload_n dX6_readNumber_0 rfl rfl ?_
        refine mm_getS dX6_readNumber_1 fX6_18 sh_8 rfl gr_8_1 ?_
        refine mm_cV (Y1 := YX8_number) dX6_readNumber_4 lX6_83 vX8_number (M1) sh_4 rfl rfl (by simp [Value.category]) ?_
        refine mm_istore_n dX6_readNumber_7 rfl (by decide) rfl ?_
        refine mm_aload_n dX6_readNumber_8 rfl rfl ?_
        refine mm_getS dX6_readNumber_9 fX6_18 sh_8 rfl gr_8_1 ?_
        refine mm_cV (Y1 := YX8_kind) dX6_readNumber_12 lX6_41 vX8_kind (M2) sh_4 rfl rfl (by simp [Value.category]) ?_
        refine mm_iconst (x := 2) dX6_readNumber_15 (by decide) ?_
        refine mm_icmp_eq 30 dX6_readNumber_16 (by decide) (fun c_16 => ?_) (fun c_16 => ?_)
        · refine mm_iload_n dX6_readNumber_30 rfl rfl ?_
          refine mm_iload_n dX6_readNumber_31 rfl rfl ?_
          refine mm_icmp_lt 40 dX6_readNumber_32 (by decide) (fun c_32 => ?_) (fun c_32 => ?_)
          · exact absurd c_32 (Int32.not_lt.mpr hr.1)
          · refine mm_iload_n dX6_readNumber_35 rfl rfl ?_
            refine mm_iload_n dX6_readNumber_36 rfl rfl ?_
            refine mm_icmp_le 51 dX6_readNumber_37 (by decide) (fun c_37 => ?_) (fun c_37 => ?_)
            · refine mm_aload_n dX6_readNumber_51 rfl rfl ?_
              refine mm_getS dX6_readNumber_52 fX6_18 sh_8 rfl gr_8_1 ?_
              refine mm_getI dX6_readNumber_55 fX6_32 sh_4 rfl ?_
              refine mm_if_ne 68 dX6_readNumber_58 (by decide) (fun c_58 => ?_) (fun c_58 => ?_)
              · refine mm_iload_n dX6_readNumber_68 rfl rfl ?_
                exact mm_iretE dX6_readNumber_69 rfl rfl rfl
              · exact absurd ((nI_eq (b := 0) (by omega) (by omega)).mp (eft.symm.trans c_58)) hf
            · exact absurd hr.2 c_37
        · exact absurd (by rw [hk]; rfl) c_16
    · have e : rd B n (pos, ft) lo hi = (pos, flt ft pos 1) := by
        unfold rd flt cdN
        by_cases hf : ft = 0
        · rw [if_pos hf, if_pos hf, if_neg (fun z => hr z.2), if_pos hk]
        · rw [if_neg hf, if_neg hf]
      rw [e]
      refine ⟨f1, ?_, F1t, F1f⟩
      refine mm_M.of [some (.ref 8), some (.int lo), some (.int hi), none] rfl rfl (Nat.le_of_ble_eq_true rfl) ?_
      refine mm_aload_n dX6_readNumber_0 rfl rfl ?_
      refine mm_getS dX6_readNumber_1 fX6_18 sh_8 rfl gr_8_1 ?_
      refine mm_cV (Y1 := YX8_number) dX6_readNumber_4 lX6_83 vX8_number (M1) sh_4 rfl rfl (by simp [Value.category]) ?_
      refine mm_istore_n dX6_readNumber_7 rfl (by decide) rfl ?_
      refine mm_aload_n dX6_readNumber_8 rfl rfl ?_
      refine mm_getS dX6_readNumber_9 fX6_18 sh_8 rfl gr_8_1 ?_
      refine mm_cV (Y1 := YX8_kind) dX6_readNumber_12 lX6_41 vX8_kind (M2) sh_4 rfl rfl (by simp [Value.category]) ?_
      refine mm_iconst (x := 2) dX6_readNumber_15 (by decide) ?_
      refine mm_icmp_eq 30 dX6_readNumber_16 (by decide) (fun c_16 => ?_) (fun c_16 => ?_)
      · refine mm_iload_n dX6_readNumber_30 rfl rfl ?_
        refine mm_iload_n dX6_readNumber_31 rfl rfl ?_
        refine mm_icmp_lt 40 dX6_readNumber_32 (by decide) (fun c_32 => ?_) (fun c_32 => ?_)
        · refine mm_aload_n dX6_readNumber_40 rfl rfl ?_
          refine mm_getS dX6_readNumber_41 fX6_18 sh_8 rfl gr_8_1 ?_
          refine mm_iconst (x := 1) dX6_readNumber_44 (by decide) ?_
          refine mm_cV (Y1 := YX8_fail) dX6_readNumber_45 lX6_51 vX8_fail (F1m) sh_4 rfl rfl (by simp [Value.category]) ?_
          refine mm_goto 68 dX6_readNumber_48 (by decide) ?_
          refine mm_iload_n dX6_readNumber_68 rfl rfl ?_
          exact mm_iretE dX6_readNumber_69 rfl rfl rfl
        · refine mm_iload_n dX6_readNumber_35 rfl rfl ?_
          refine mm_iload_n dX6_readNumber_36 rfl rfl ?_
          refine mm_icmp_le 51 dX6_readNumber_37 (by decide) (fun c_37 => ?_) (fun c_37 => ?_)
          · exact absurd ⟨Int32.not_lt.mp c_32, c_37⟩ hr
          · refine mm_aload_n dX6_readNumber_40 rfl rfl ?_
            refine mm_getS dX6_readNumber_41 fX6_18 sh_8 rfl gr_8_1 ?_
            refine mm_iconst (x := 1) dX6_readNumber_44 (by decide) ?_
            refine mm_cV (Y1 := YX8_fail) dX6_readNumber_45 lX6_51 vX8_fail (F1m) sh_4 rfl rfl (by simp [Value.category]) ?_
            refine mm_goto 68 dX6_readNumber_48 (by decide) ?_
            refine mm_iload_n dX6_readNumber_68 rfl rfl ?_
            exact mm_iretE dX6_readNumber_69 rfl rfl rfl
      · exact absurd (by rw [hk]; rfl) c_16
  · have e : rd B n (pos, ft) lo hi = (pos, flt ft pos 0) := by
      unfold rd flt cdN
      by_cases hf : ft = 0
      · rw [if_pos hf, if_pos hf, if_neg (fun z => hk z.1), if_neg hk]
      · rw [if_neg hf, if_neg hf]
    rw [e]
    refine ⟨f0, ?_, F0t, F0f⟩
    refine mm_M.of [some (.ref 8), some (.int lo), some (.int hi), none] rfl rfl (Nat.le_of_ble_eq_true rfl) ?_
    refine mm_aload_n dX6_readNumber_0 rfl rfl ?_
    refine mm_getS dX6_readNumber_1 fX6_18 sh_8 rfl gr_8_1 ?_
    refine mm_cV (Y1 := YX8_number) dX6_readNumber_4 lX6_83 vX8_number (M1) sh_4 rfl rfl (by simp [Value.category]) ?_
    refine mm_istore_n dX6_readNumber_7 rfl (by decide) rfl ?_
    refine mm_aload_n dX6_readNumber_8 rfl rfl ?_
    refine mm_getS dX6_readNumber_9 fX6_18 sh_8 rfl gr_8_1 ?_
    refine mm_cV (Y1 := YX8_kind) dX6_readNumber_12 lX6_41 vX8_kind (M2) sh_4 rfl rfl (by simp [Value.category]) ?_
    refine mm_iconst (x := 2) dX6_readNumber_15 (by decide) ?_
    refine mm_icmp_eq 30 dX6_readNumber_16 (by decide) (fun c_16 => ?_) (fun c_16 => ?_)
    · exact absurd ((nI_eq (b := 2) (by omega) (by omega)).mp c_16) hk
    · refine mm_aload_n dX6_readNumber_19 rfl rfl ?_
      refine mm_getS dX6_readNumber_20 fX6_18 sh_8 rfl gr_8_1 ?_
      refine mm_iconst (x := 0) dX6_readNumber_23 (by decide) ?_
      refine mm_cV (Y1 := YX8_fail) dX6_readNumber_24 lX6_51 vX8_fail (F0m) sh_4 rfl rfl (by simp [Value.category]) ?_
      refine mm_goto 68 dX6_readNumber_27 (by decide) ?_
      refine mm_iload_n dX6_readNumber_68 rfl rfl ?_
      exact mm_iretE dX6_readNumber_69 rfl rfl rfl
set_option maxRecDepth 100000 in
set_option maxHeartbeats 4000000 in
theorem mX5_addCoin (d : Nat) (h : mm_H) (c : Nat) (hc : h.1 9 0 = nI c) (hc2 : c < 12) (v1 v2 v3 v4 : Int32) : mm_M d YX5_addCoin [.ref 9, .int v1, .int v2, .int v3, .int v4] h none (mm_up (mm_up (mm_up (mm_up (mm_up (mm_up (mm_up h.1 10 c v1) 11 c v2) 12 c v3) 13 c v4) 14 c 0) 15 c 0) 9 0 (nI (c + 1)), h.2.1, h.2.2) := by
  refine mm_M.of [some (.ref 9), some (.int v1), some (.int v2), some (.int v3), some (.int v4)] rfl rfl (Nat.le_of_ble_eq_true rfl) ?_
  refine mm_aload_n dX5_addCoin_0 rfl rfl ?_
  refine mm_getI dX5_addCoin_1 fX5_36 sh_9 rfl ?_
  refine mm_bipush (x := 12) dX5_addCoin_4 (by decide) ?_
  refine mm_icmp_ge 80 dX5_addCoin_6 (by decide) (fun c_6 => ?_) (fun c_6 => ?_)
  · exact absurd c_6 (by rw [hc]; exact nI_ge (b := 12) hc2 (by omega))
  · refine mm_aload_n dX5_addCoin_9 rfl rfl ?_
    refine mm_getS dX5_addCoin_10 fX5_9 sh_9 rfl gr_9_1 ?_
    refine mm_aload_n dX5_addCoin_13 rfl rfl ?_
    refine mm_getI dX5_addCoin_14 fX5_36 sh_9 rfl ?_
    refine mm_iload_n dX5_addCoin_17 rfl rfl ?_
    refine mm_iast (c) dX5_addCoin_18 sh_10 hc (by omega) ?_
    refine mm_aload_n dX5_addCoin_19 rfl rfl ?_
    refine mm_getS dX5_addCoin_20 fX5_15 sh_9 rfl gr_9_2 ?_
    refine mm_aload_n dX5_addCoin_23 rfl rfl ?_
    refine mm_getI dX5_addCoin_24 fX5_36 sh_9 rfl ?_
    refine mm_iload_n dX5_addCoin_27 rfl rfl ?_
    refine mm_iast (c) dX5_addCoin_28 sh_11 (by dsimp only; (repeat rw [mm_up_n (by decide)]); exact hc) (by omega) ?_
    refine mm_aload_n dX5_addCoin_29 rfl rfl ?_
    refine mm_getS dX5_addCoin_30 fX5_18 sh_9 rfl gr_9_3 ?_
    refine mm_aload_n dX5_addCoin_33 rfl rfl ?_
    refine mm_getI dX5_addCoin_34 fX5_36 sh_9 rfl ?_
    refine mm_iload_n dX5_addCoin_37 rfl rfl ?_
    refine mm_iast (c) dX5_addCoin_38 sh_12 (by dsimp only; (repeat rw [mm_up_n (by decide)]); exact hc) (by omega) ?_
    refine mm_aload_n dX5_addCoin_39 rfl rfl ?_
    refine mm_getS dX5_addCoin_40 fX5_21 sh_9 rfl gr_9_4 ?_
    refine mm_aload_n dX5_addCoin_43 rfl rfl ?_
    refine mm_getI dX5_addCoin_44 fX5_36 sh_9 rfl ?_
    refine mm_iload dX5_addCoin_47 rfl ?_
    refine mm_iast (c) dX5_addCoin_49 sh_13 (by dsimp only; (repeat rw [mm_up_n (by decide)]); exact hc) (by omega) ?_
    refine mm_aload_n dX5_addCoin_50 rfl rfl ?_
    refine mm_getS dX5_addCoin_51 fX5_24 sh_9 rfl gr_9_5 ?_
    refine mm_aload_n dX5_addCoin_54 rfl rfl ?_
    refine mm_getI dX5_addCoin_55 fX5_36 sh_9 rfl ?_
    refine mm_iconst (x := 0) dX5_addCoin_58 (by decide) ?_
    refine mm_iast (c) dX5_addCoin_59 sh_14 (by dsimp only; (repeat rw [mm_up_n (by decide)]); exact hc) (by omega) ?_
    refine mm_aload_n dX5_addCoin_60 rfl rfl ?_
    refine mm_getS dX5_addCoin_61 fX5_27 sh_9 rfl gr_9_6 ?_
    refine mm_aload_n dX5_addCoin_64 rfl rfl ?_
    refine mm_getI dX5_addCoin_65 fX5_36 sh_9 rfl ?_
    refine mm_iconst (x := 0) dX5_addCoin_68 (by decide) ?_
    refine mm_iast (c) dX5_addCoin_69 sh_15 (by dsimp only; (repeat rw [mm_up_n (by decide)]); exact hc) (by omega) ?_
    refine mm_aload_n dX5_addCoin_70 rfl rfl ?_
    refine mm_dup dX5_addCoin_71 rfl ?_
    refine mm_getI dX5_addCoin_72 fX5_36 sh_9 rfl ?_
    refine mm_iconst (x := 1) dX5_addCoin_75 (by decide) ?_
    refine mm_iadd dX5_addCoin_76 ?_
    refine mm_putI dX5_addCoin_77 fX5_36 sh_9 rfl rfl rfl ?_
    exact mm_retE dX5_addCoin_80 rfl (by dsimp only; (repeat rw [mm_up_n (show (9 : Nat) ≠ 15 by decide)]); (repeat rw [mm_up_n (show (9 : Nat) ≠ 14 by decide)]); rw [mm_up_n (show (9 : Nat) ≠ 13 by decide), mm_up_n (show (9 : Nat) ≠ 12 by decide), mm_up_n (show (9 : Nat) ≠ 11 by decide), mm_up_n (show (9 : Nat) ≠ 10 by decide), hc, nI_succ])
set_option maxRecDepth 100000 in
set_option maxHeartbeats 4000000 in
theorem mX5_addCounter (d : Nat) (h : mm_H) (c : Nat) (hc : h.1 9 7 = nI c) (hc2 : c < 4) (v1 v2 : Int32) : mm_M d YX5_addCounter [.ref 9, .int v1, .int v2] h none (mm_up (mm_up (mm_up h.1 16 c v1) 17 c v2) 9 7 (nI (c + 1)), h.2.1, h.2.2) := by
  refine mm_M.of [some (.ref 9), some (.int v1), some (.int v2)] rfl rfl (Nat.le_of_ble_eq_true rfl) ?_
  refine mm_aload_n dX5_addCounter_0 rfl rfl ?_
  refine mm_getI dX5_addCounter_1 fX5_40 sh_9 rfl ?_
  refine mm_iconst (x := 4) dX5_addCounter_4 (by decide) ?_
  refine mm_icmp_ge 38 dX5_addCounter_5 (by decide) (fun c_5 => ?_) (fun c_5 => ?_)
  · exact absurd c_5 (by rw [hc]; exact nI_ge (b := 4) hc2 (by omega))
  · refine mm_aload_n dX5_addCounter_8 rfl rfl ?_
    refine mm_getS dX5_addCounter_9 fX5_30 sh_9 rfl gr_9_8 ?_
    refine mm_aload_n dX5_addCounter_12 rfl rfl ?_
    refine mm_getI dX5_addCounter_13 fX5_40 sh_9 rfl ?_
    refine mm_iload_n dX5_addCounter_16 rfl rfl ?_
    refine mm_iast (c) dX5_addCounter_17 sh_16 hc (by omega) ?_
    refine mm_aload_n dX5_addCounter_18 rfl rfl ?_
    refine mm_getS dX5_addCounter_19 fX5_33 sh_9 rfl gr_9_9 ?_
    refine mm_aload_n dX5_addCounter_22 rfl rfl ?_
    refine mm_getI dX5_addCounter_23 fX5_40 sh_9 rfl ?_
    refine mm_iload_n dX5_addCounter_26 rfl rfl ?_
    refine mm_iast (c) dX5_addCounter_27 sh_17 (by dsimp only; (repeat rw [mm_up_n (by decide)]); exact hc) (by omega) ?_
    refine mm_aload_n dX5_addCounter_28 rfl rfl ?_
    refine mm_dup dX5_addCounter_29 rfl ?_
    refine mm_getI dX5_addCounter_30 fX5_40 sh_9 rfl ?_
    refine mm_iconst (x := 1) dX5_addCounter_33 (by decide) ?_
    refine mm_iadd dX5_addCounter_34 ?_
    refine mm_putI dX5_addCounter_35 fX5_40 sh_9 rfl rfl rfl ?_
    exact mm_retE dX5_addCounter_38 rfl (by dsimp only; rw [mm_up_n (show (9 : Nat) ≠ 17 by decide), mm_up_n (show (9 : Nat) ≠ 16 by decide), hc, nI_succ])
theorem viewD_C {h : mm_H} {A : MD} (hV : viewD h A) (v1 v2 v3 v4 : Int32) : viewD (mm_up (mm_up (mm_up (mm_up (mm_up (mm_up (mm_up h.1 10 (mn A) v1) 11 (mn A) v2) 12 (mn A) v3) 13 (mn A) v4) 14 (mn A) 0) 15 (mn A) 0) 9 0 (nI (mn A + 1)), h.2.1, h.2.2) (addC A v1 v2 v3 v4) := by
  obtain ⟨a1, a2, a3, a4, a5, a6⟩ := hV
  unfold viewD
  dsimp only
  refine ⟨by rw [mm_up_e]; rfl, ?_, ?_, ?_, fun c hc => ?_, fun c hc => ?_⟩
  · rw [mm_up_k (by decide)]; (repeat rw [mm_up_n (by decide)]); exact a2
  · rw [mm_up_k (by decide)]; (repeat rw [mm_up_n (by decide)]); exact a3
  · rw [mm_up_k (by decide)]; (repeat rw [mm_up_n (by decide)]); exact a4
  · have hc2 : c < mn A + 1 := hc
    (repeat rw [mm_up_n (show (10 : Nat) ≠ 9 by decide)])
    rw [mm_up_n (show (11 : Nat) ≠ 9 by decide), mm_up_n (show (12 : Nat) ≠ 9 by decide), mm_up_n (show (13 : Nat) ≠ 9 by decide), mm_up_n (show (14 : Nat) ≠ 9 by decide), mm_up_n (show (15 : Nat) ≠ 9 by decide)]
    simp only [mm_up, upd, addC, mr]
    by_cases z : c = mn A
    · simp [z, upd]
    · simp [z, upd]
      exact a5 c (by omega)
  · have hc2 : c < mk A := hc
    simp only [mm_up, upd, addC, mr]
    have := a6 c hc2
    simp
    exact this
theorem viewD_K {h : mm_H} {A : MD} (hV : viewD h A) (v1 v2 : Int32) : viewD (mm_up (mm_up (mm_up h.1 16 (mk A) v1) 17 (mk A) v2) 9 7 (nI (mk A + 1)), h.2.1, h.2.2) (addK A v1 v2) := by
  obtain ⟨a1, a2, a3, a4, a5, a6⟩ := hV
  unfold viewD
  dsimp only
  refine ⟨?_, by rw [mm_up_e]; rfl, ?_, ?_, fun c hc => ?_, fun c hc => ?_⟩
  · rw [mm_up_k (by decide)]; (repeat rw [mm_up_n (by decide)]); exact a1
  · rw [mm_up_k (by decide)]; (repeat rw [mm_up_n (by decide)]); exact a3
  · rw [mm_up_k (by decide)]; (repeat rw [mm_up_n (by decide)]); exact a4
  · have hc2 : c < mn A := hc
    simp only [mm_up, upd, addK, mr]
    simp
    exact a5 c hc2
  · have hc2 : c < mk A + 1 := hc
    simp only [mm_up, upd, addK, mr]
    by_cases z : c = mk A
    · simp [z, upd]
    · simp [z, upd]
      exact a6 c (by omega)
