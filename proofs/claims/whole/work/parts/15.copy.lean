/-! Copies: Mint.copyFrom, State.copyFrom, takeMint; the reference's carry. -/
theorem tn_0 : (0 : Int32).toNatClampNeg = 0 := by decide
theorem tn_4 : (4 : Int32).toNatClampNeg = 4 := by decide
theorem tn_10 : (10 : Int32).toNatClampNeg = 10 := by decide
theorem tn_12 : (12 : Int32).toNatClampNeg = 12 := by decide
theorem cpy_at {f g : Nat → Int32} {n j : Nat} (h : j < n) : va_cpy f g 0 0 n j = f j := by simp [va_cpy, h]
/-- a Mint at b has become that of o -/
def mm_cp (I J : Nat → Nat → Int32) (b o : Nat) : Prop := J b 0 = I o 0 ∧ J b 7 = I o 7 ∧ J b 10 = I o 10 ∧ J b 11 = I o 11 ∧ (∀ f j, 1 ≤ f → f ≤ 6 → j < 12 → J (b + f) j = I (o + f) j) ∧ (∀ f j, 7 ≤ f → f ≤ 8 → j < 4 → J (b + f) j = I (o + f) j)
set_option maxRecDepth 100000 in
set_option maxHeartbeats 4000000 in
theorem mX5_copyFrom (d : Nat) (h : mm_H) (b o : Nat) (hb : mm_mint b) (ho : mm_mint o) (hd : b + 8 < o ∨ o + 8 < b) : ∃ g : mm_H, mm_M (d + 1) YX5_copyFrom [.ref b, .ref o] h none g ∧ g.2 = h.2 ∧ mm_cp h.1 g.1 b o ∧ (∀ a, (a < b ∨ b + 8 < a) → g.1 a = h.1 a) := by
  obtain ⟨J1, eJ1⟩ : ∃ J : Nat → Nat → Int32, J = mm_up h.1 b 0 (h.1 o 0) := ⟨_, rfl⟩
  obtain ⟨J2, eJ2⟩ : ∃ J : Nat → Nat → Int32, J = mm_row J1 (b + 1) (va_cpy (J1 (o + 1)) (J1 (b + 1)) (Int32.toNatClampNeg 0) (Int32.toNatClampNeg 0) (Int32.toNatClampNeg 12)) := ⟨_, rfl⟩
  obtain ⟨J3, eJ3⟩ : ∃ J : Nat → Nat → Int32, J = mm_row J2 (b + 2) (va_cpy (J2 (o + 2)) (J2 (b + 2)) (Int32.toNatClampNeg 0) (Int32.toNatClampNeg 0) (Int32.toNatClampNeg 12)) := ⟨_, rfl⟩
  obtain ⟨J4, eJ4⟩ : ∃ J : Nat → Nat → Int32, J = mm_row J3 (b + 3) (va_cpy (J3 (o + 3)) (J3 (b + 3)) (Int32.toNatClampNeg 0) (Int32.toNatClampNeg 0) (Int32.toNatClampNeg 12)) := ⟨_, rfl⟩
  obtain ⟨J5, eJ5⟩ : ∃ J : Nat → Nat → Int32, J = mm_row J4 (b + 4) (va_cpy (J4 (o + 4)) (J4 (b + 4)) (Int32.toNatClampNeg 0) (Int32.toNatClampNeg 0) (Int32.toNatClampNeg 12)) := ⟨_, rfl⟩
  obtain ⟨J6, eJ6⟩ : ∃ J : Nat → Nat → Int32, J = mm_row J5 (b + 5) (va_cpy (J5 (o + 5)) (J5 (b + 5)) (Int32.toNatClampNeg 0) (Int32.toNatClampNeg 0) (Int32.toNatClampNeg 12)) := ⟨_, rfl⟩
  obtain ⟨J7, eJ7⟩ : ∃ J : Nat → Nat → Int32, J = mm_row J6 (b + 6) (va_cpy (J6 (o + 6)) (J6 (b + 6)) (Int32.toNatClampNeg 0) (Int32.toNatClampNeg 0) (Int32.toNatClampNeg 12)) := ⟨_, rfl⟩
  obtain ⟨J8, eJ8⟩ : ∃ J : Nat → Nat → Int32, J = mm_up J7 b 7 (J7 o 7) := ⟨_, rfl⟩
  obtain ⟨J9, eJ9⟩ : ∃ J : Nat → Nat → Int32, J = mm_row J8 (b + 7) (va_cpy (J8 (o + 7)) (J8 (b + 7)) (Int32.toNatClampNeg 0) (Int32.toNatClampNeg 0) (Int32.toNatClampNeg 4)) := ⟨_, rfl⟩
  obtain ⟨J10, eJ10⟩ : ∃ J : Nat → Nat → Int32, J = mm_row J9 (b + 8) (va_cpy (J9 (o + 8)) (J9 (b + 8)) (Int32.toNatClampNeg 0) (Int32.toNatClampNeg 0) (Int32.toNatClampNeg 4)) := ⟨_, rfl⟩
  obtain ⟨J11, eJ11⟩ : ∃ J : Nat → Nat → Int32, J = mm_up J10 b 10 (J10 o 10) := ⟨_, rfl⟩
  obtain ⟨J12, eJ12⟩ : ∃ J : Nat → Nat → Int32, J = mm_up J11 b 11 (J11 o 11) := ⟨_, rfl⟩
  refine ⟨(J12, h.2.1, h.2.2), ?_, rfl, ?_⟩
  · refine mm_M.of [some (.ref b), some (.ref o)] rfl rfl (Nat.le_of_ble_eq_true rfl) ?_
    refine mm_aload_n dX5_copyFrom_0 rfl rfl ?_
    refine mm_aload_n dX5_copyFrom_1 rfl rfl ?_
    refine mm_getI dX5_copyFrom_2 fX5_36 ho.1 rfl ?_
    refine mm_putI dX5_copyFrom_5 fX5_36 hb.1 rfl rfl rfl ?_
    refine mm_cast rfl rfl (congrArg (fun J : Nat → Nat → Int32 => ((J, h.2.1, h.2.2) : mm_H)) eJ1.symm) ?_
    refine mm_aload_n dX5_copyFrom_8 rfl rfl ?_
    refine mm_getS dX5_copyFrom_9 fX5_9 ho.1 rfl ho.2.2.1 ?_
    refine mm_iconst (x := 0) dX5_copyFrom_12 (by decide) ?_
    refine mm_aload_n dX5_copyFrom_13 rfl rfl ?_
    refine mm_getS dX5_copyFrom_14 fX5_9 hb.1 rfl hb.2.2.1 ?_
    refine mm_iconst (x := 0) dX5_copyFrom_17 (by decide) ?_
    refine mm_bipush (x := 12) dX5_copyFrom_18 (by decide) ?_
    refine mm_copyi dX5_copyFrom_20 lX5_49 ho.2.1.1 hb.2.1.1 (by decide) (by decide) (by decide) (by decide) (by decide) (by simp [Value.category]) ?_
    refine mm_cast rfl rfl (congrArg (fun J : Nat → Nat → Int32 => ((J, h.2.1, h.2.2) : mm_H)) eJ2.symm) ?_
    refine mm_aload_n dX5_copyFrom_23 rfl rfl ?_
    refine mm_getS dX5_copyFrom_24 fX5_15 ho.1 rfl ho.2.2.2.1 ?_
    refine mm_iconst (x := 0) dX5_copyFrom_27 (by decide) ?_
    refine mm_aload_n dX5_copyFrom_28 rfl rfl ?_
    refine mm_getS dX5_copyFrom_29 fX5_15 hb.1 rfl hb.2.2.2.1 ?_
    refine mm_iconst (x := 0) dX5_copyFrom_32 (by decide) ?_
    refine mm_bipush (x := 12) dX5_copyFrom_33 (by decide) ?_
    refine mm_copyi dX5_copyFrom_35 lX5_49 ho.2.1.2.1 hb.2.1.2.1 (by decide) (by decide) (by decide) (by decide) (by decide) (by simp [Value.category]) ?_
    refine mm_cast rfl rfl (congrArg (fun J : Nat → Nat → Int32 => ((J, h.2.1, h.2.2) : mm_H)) eJ3.symm) ?_
    refine mm_aload_n dX5_copyFrom_38 rfl rfl ?_
    refine mm_getS dX5_copyFrom_39 fX5_18 ho.1 rfl ho.2.2.2.2.1 ?_
    refine mm_iconst (x := 0) dX5_copyFrom_42 (by decide) ?_
    refine mm_aload_n dX5_copyFrom_43 rfl rfl ?_
    refine mm_getS dX5_copyFrom_44 fX5_18 hb.1 rfl hb.2.2.2.2.1 ?_
    refine mm_iconst (x := 0) dX5_copyFrom_47 (by decide) ?_
    refine mm_bipush (x := 12) dX5_copyFrom_48 (by decide) ?_
    refine mm_copyi dX5_copyFrom_50 lX5_49 ho.2.1.2.2.1 hb.2.1.2.2.1 (by decide) (by decide) (by decide) (by decide) (by decide) (by simp [Value.category]) ?_
    refine mm_cast rfl rfl (congrArg (fun J : Nat → Nat → Int32 => ((J, h.2.1, h.2.2) : mm_H)) eJ4.symm) ?_
    refine mm_aload_n dX5_copyFrom_53 rfl rfl ?_
    refine mm_getS dX5_copyFrom_54 fX5_21 ho.1 rfl ho.2.2.2.2.2.1 ?_
    refine mm_iconst (x := 0) dX5_copyFrom_57 (by decide) ?_
    refine mm_aload_n dX5_copyFrom_58 rfl rfl ?_
    refine mm_getS dX5_copyFrom_59 fX5_21 hb.1 rfl hb.2.2.2.2.2.1 ?_
    refine mm_iconst (x := 0) dX5_copyFrom_62 (by decide) ?_
    refine mm_bipush (x := 12) dX5_copyFrom_63 (by decide) ?_
    refine mm_copyi dX5_copyFrom_65 lX5_49 ho.2.1.2.2.2.1 hb.2.1.2.2.2.1 (by decide) (by decide) (by decide) (by decide) (by decide) (by simp [Value.category]) ?_
    refine mm_cast rfl rfl (congrArg (fun J : Nat → Nat → Int32 => ((J, h.2.1, h.2.2) : mm_H)) eJ5.symm) ?_
    refine mm_aload_n dX5_copyFrom_68 rfl rfl ?_
    refine mm_getS dX5_copyFrom_69 fX5_24 ho.1 rfl ho.2.2.2.2.2.2.1 ?_
    refine mm_iconst (x := 0) dX5_copyFrom_72 (by decide) ?_
    refine mm_aload_n dX5_copyFrom_73 rfl rfl ?_
    refine mm_getS dX5_copyFrom_74 fX5_24 hb.1 rfl hb.2.2.2.2.2.2.1 ?_
    refine mm_iconst (x := 0) dX5_copyFrom_77 (by decide) ?_
    refine mm_bipush (x := 12) dX5_copyFrom_78 (by decide) ?_
    refine mm_copyi dX5_copyFrom_80 lX5_49 ho.2.1.2.2.2.2.1 hb.2.1.2.2.2.2.1 (by decide) (by decide) (by decide) (by decide) (by decide) (by simp [Value.category]) ?_
    refine mm_cast rfl rfl (congrArg (fun J : Nat → Nat → Int32 => ((J, h.2.1, h.2.2) : mm_H)) eJ6.symm) ?_
    refine mm_aload_n dX5_copyFrom_83 rfl rfl ?_
    refine mm_getS dX5_copyFrom_84 fX5_27 ho.1 rfl ho.2.2.2.2.2.2.2.1 ?_
    refine mm_iconst (x := 0) dX5_copyFrom_87 (by decide) ?_
    refine mm_aload_n dX5_copyFrom_88 rfl rfl ?_
    refine mm_getS dX5_copyFrom_89 fX5_27 hb.1 rfl hb.2.2.2.2.2.2.2.1 ?_
    refine mm_iconst (x := 0) dX5_copyFrom_92 (by decide) ?_
    refine mm_bipush (x := 12) dX5_copyFrom_93 (by decide) ?_
    refine mm_copyi dX5_copyFrom_95 lX5_49 ho.2.1.2.2.2.2.2.1 hb.2.1.2.2.2.2.2.1 (by decide) (by decide) (by decide) (by decide) (by decide) (by simp [Value.category]) ?_
    refine mm_cast rfl rfl (congrArg (fun J : Nat → Nat → Int32 => ((J, h.2.1, h.2.2) : mm_H)) eJ7.symm) ?_
    refine mm_aload_n dX5_copyFrom_98 rfl rfl ?_
    refine mm_aload_n dX5_copyFrom_99 rfl rfl ?_
    refine mm_getI dX5_copyFrom_100 fX5_40 ho.1 rfl ?_
    refine mm_putI dX5_copyFrom_103 fX5_40 hb.1 rfl rfl rfl ?_
    refine mm_cast rfl rfl (congrArg (fun J : Nat → Nat → Int32 => ((J, h.2.1, h.2.2) : mm_H)) eJ8.symm) ?_
    refine mm_aload_n dX5_copyFrom_106 rfl rfl ?_
    refine mm_getS dX5_copyFrom_107 fX5_30 ho.1 rfl ho.2.2.2.2.2.2.2.2.1 ?_
    refine mm_iconst (x := 0) dX5_copyFrom_110 (by decide) ?_
    refine mm_aload_n dX5_copyFrom_111 rfl rfl ?_
    refine mm_getS dX5_copyFrom_112 fX5_30 hb.1 rfl hb.2.2.2.2.2.2.2.2.1 ?_
    refine mm_iconst (x := 0) dX5_copyFrom_115 (by decide) ?_
    refine mm_iconst (x := 4) dX5_copyFrom_116 (by decide) ?_
    refine mm_copyi dX5_copyFrom_117 lX5_49 ho.2.1.2.2.2.2.2.2.1 hb.2.1.2.2.2.2.2.2.1 (by decide) (by decide) (by decide) (by decide) (by decide) (by simp [Value.category]) ?_
    refine mm_cast rfl rfl (congrArg (fun J : Nat → Nat → Int32 => ((J, h.2.1, h.2.2) : mm_H)) eJ9.symm) ?_
    refine mm_aload_n dX5_copyFrom_120 rfl rfl ?_
    refine mm_getS dX5_copyFrom_121 fX5_33 ho.1 rfl ho.2.2.2.2.2.2.2.2.2 ?_
    refine mm_iconst (x := 0) dX5_copyFrom_124 (by decide) ?_
    refine mm_aload_n dX5_copyFrom_125 rfl rfl ?_
    refine mm_getS dX5_copyFrom_126 fX5_33 hb.1 rfl hb.2.2.2.2.2.2.2.2.2 ?_
    refine mm_iconst (x := 0) dX5_copyFrom_129 (by decide) ?_
    refine mm_iconst (x := 4) dX5_copyFrom_130 (by decide) ?_
    refine mm_copyi dX5_copyFrom_131 lX5_49 ho.2.1.2.2.2.2.2.2.2 hb.2.1.2.2.2.2.2.2.2 (by decide) (by decide) (by decide) (by decide) (by decide) (by simp [Value.category]) ?_
    refine mm_cast rfl rfl (congrArg (fun J : Nat → Nat → Int32 => ((J, h.2.1, h.2.2) : mm_H)) eJ10.symm) ?_
    refine mm_aload_n dX5_copyFrom_134 rfl rfl ?_
    refine mm_aload_n dX5_copyFrom_135 rfl rfl ?_
    refine mm_getI dX5_copyFrom_136 fX5_43 ho.1 rfl ?_
    refine mm_putI dX5_copyFrom_139 fX5_43 hb.1 rfl rfl rfl ?_
    refine mm_cast rfl rfl (congrArg (fun J : Nat → Nat → Int32 => ((J, h.2.1, h.2.2) : mm_H)) eJ11.symm) ?_
    refine mm_aload_n dX5_copyFrom_142 rfl rfl ?_
    refine mm_aload_n dX5_copyFrom_143 rfl rfl ?_
    refine mm_getI dX5_copyFrom_144 fX5_46 ho.1 rfl ?_
    refine mm_putI dX5_copyFrom_147 fX5_46 hb.1 rfl rfl rfl ?_
    refine mm_cast rfl rfl (congrArg (fun J : Nat → Nat → Int32 => ((J, h.2.1, h.2.2) : mm_H)) eJ12.symm) ?_
    exact mm_retE dX5_copyFrom_150 rfl rfl
  · refine ⟨⟨?_, ?_, ?_, ?_, fun f j h1 h2 hj => ?_, fun f j h1 h2 hj => ?_⟩, fun a ha => ?_⟩
    · simp (disch := omega) only [eJ1, eJ2, eJ3, eJ4, eJ5, eJ6, eJ7, eJ8, eJ9, eJ10, eJ11, eJ12, mm_up_n, mm_row_n, mm_row_s, mm_up_e, mm_up_k, tn_0, tn_4, tn_10, tn_12, cpy_at]
    · simp (disch := omega) only [eJ1, eJ2, eJ3, eJ4, eJ5, eJ6, eJ7, eJ8, eJ9, eJ10, eJ11, eJ12, mm_up_n, mm_row_n, mm_row_s, mm_up_e, mm_up_k, tn_0, tn_4, tn_10, tn_12, cpy_at]
    · simp (disch := omega) only [eJ1, eJ2, eJ3, eJ4, eJ5, eJ6, eJ7, eJ8, eJ9, eJ10, eJ11, eJ12, mm_up_n, mm_row_n, mm_row_s, mm_up_e, mm_up_k, tn_0, tn_4, tn_10, tn_12, cpy_at]
    · simp (disch := omega) only [eJ1, eJ2, eJ3, eJ4, eJ5, eJ6, eJ7, eJ8, eJ9, eJ10, eJ11, eJ12, mm_up_n, mm_row_n, mm_row_s, mm_up_e, mm_up_k, tn_0, tn_4, tn_10, tn_12, cpy_at]
    · rcases (show f = 1 ∨ f = 2 ∨ f = 3 ∨ f = 4 ∨ f = 5 ∨ f = 6 by omega) with rfl | rfl | rfl | rfl | rfl | rfl <;> simp (disch := omega) only [eJ1, eJ2, eJ3, eJ4, eJ5, eJ6, eJ7, eJ8, eJ9, eJ10, eJ11, eJ12, mm_up_n, mm_row_n, mm_row_s, mm_up_e, mm_up_k, tn_0, tn_4, tn_10, tn_12, cpy_at]
    · rcases (show f = 7 ∨ f = 8 by omega) with rfl | rfl <;> simp (disch := omega) only [eJ1, eJ2, eJ3, eJ4, eJ5, eJ6, eJ7, eJ8, eJ9, eJ10, eJ11, eJ12, mm_up_n, mm_row_n, mm_row_s, mm_up_e, mm_up_k, tn_0, tn_4, tn_10, tn_12, cpy_at]
    · simp (disch := omega) only [eJ1, eJ2, eJ3, eJ4, eJ5, eJ6, eJ7, eJ8, eJ9, eJ10, eJ11, eJ12, mm_up_n, mm_row_n, mm_row_s, mm_up_e, mm_up_k, tn_0, tn_4, tn_10, tn_12, cpy_at]
/-- a State at b has become that of o (its mark 'made' apart) -/
def mm_cpS (I J : Nat → Nat → Int32) (b o : Nat) : Prop := mm_cp I J (b + 4) (o + 4) ∧ J b 2 = I o 2 ∧ J b 5 = I o 5 ∧ J b 6 = I o 6 ∧ J b 7 = I b 7 ∧ (∀ j, j < 12 → J (b + 1) j = I (o + 1) j) ∧ (∀ j, j < 10 → J (b + 2) j = I (o + 2) j) ∧ (∀ j, j < 10 → J (b + 3) j = I (o + 3) j)
set_option maxRecDepth 100000 in
set_option maxHeartbeats 4000000 in
theorem mX7_copyFrom (d : Nat) (h : mm_H) (b o : Nat) (hb : mm_state b) (ho : mm_state o) (hd : b + 12 < o ∨ o + 12 < b) : ∃ g : mm_H, mm_M (d + 2) YX7_copyFrom [.ref b, .ref o] h none g ∧ g.2 = h.2 ∧ mm_cpS h.1 g.1 b o ∧ (∀ a, (a < b ∨ b + 12 < a) → g.1 a = h.1 a) := by
  obtain ⟨g1, hM, hg2, hcp, hfr⟩ := mX5_copyFrom d h (b + 4) (o + 4) hb.2.2.2.2.2.2.2.2 ho.2.2.2.2.2.2.2.2 (by omega)
  have e0 : g1.1 b = h.1 b := hfr b (by omega)
  have e1 : g1.1 (b + 1) = h.1 (b + 1) := hfr (b + 1) (by omega)
  have e2 : g1.1 (b + 2) = h.1 (b + 2) := hfr (b + 2) (by omega)
  have e3 : g1.1 (b + 3) = h.1 (b + 3) := hfr (b + 3) (by omega)
  have f0 : g1.1 o = h.1 o := hfr o (by omega)
  have f1 : g1.1 (o + 1) = h.1 (o + 1) := hfr (o + 1) (by omega)
  have f2 : g1.1 (o + 2) = h.1 (o + 2) := hfr (o + 2) (by omega)
  have f3 : g1.1 (o + 3) = h.1 (o + 3) := hfr (o + 3) (by omega)
  obtain ⟨J1, eJ1⟩ : ∃ J : Nat → Nat → Int32, J = mm_row g1.1 (b + 1) (va_cpy (g1.1 (o + 1)) (g1.1 (b + 1)) (Int32.toNatClampNeg 0) (Int32.toNatClampNeg 0) (Int32.toNatClampNeg 12)) := ⟨_, rfl⟩
  obtain ⟨J2, eJ2⟩ : ∃ J : Nat → Nat → Int32, J = mm_up J1 b 2 (J1 o 2) := ⟨_, rfl⟩
  obtain ⟨J3, eJ3⟩ : ∃ J : Nat → Nat → Int32, J = mm_row J2 (b + 2) (va_cpy (J2 (o + 2)) (J2 (b + 2)) (Int32.toNatClampNeg 0) (Int32.toNatClampNeg 0) (Int32.toNatClampNeg 10)) := ⟨_, rfl⟩
  obtain ⟨J4, eJ4⟩ : ∃ J : Nat → Nat → Int32, J = mm_row J3 (b + 3) (va_cpy (J3 (o + 3)) (J3 (b + 3)) (Int32.toNatClampNeg 0) (Int32.toNatClampNeg 0) (Int32.toNatClampNeg 10)) := ⟨_, rfl⟩
  obtain ⟨J5, eJ5⟩ : ∃ J : Nat → Nat → Int32, J = mm_up J4 b 5 (J4 o 5) := ⟨_, rfl⟩
  obtain ⟨J6, eJ6⟩ : ∃ J : Nat → Nat → Int32, J = mm_up J5 b 6 (J5 o 6) := ⟨_, rfl⟩
  refine ⟨(J6, g1.2.1, g1.2.2), ?_, hg2, ?_⟩
  · refine mm_M.of [some (.ref b), some (.ref o)] rfl rfl (Nat.le_of_ble_eq_true rfl) ?_
    refine mm_aload_n dX7_copyFrom_0 rfl rfl ?_
    refine mm_getS dX7_copyFrom_1 fX7_12 hb.1 rfl hb.2.2.2.2.2.2.2.1 ?_
    refine mm_aload_n dX7_copyFrom_4 rfl rfl ?_
    refine mm_getS dX7_copyFrom_5 fX7_12 ho.1 rfl ho.2.2.2.2.2.2.2.1 ?_
    refine mm_cV (Y1 := YX5_copyFrom) dX7_copyFrom_8 lX7_28 vX5_copyFrom (hM) hb.2.2.2.2.2.2.2.2.1 rfl rfl (by simp [Value.category]) ?_
    refine mm_aload_n dX7_copyFrom_11 rfl rfl ?_
    refine mm_getS dX7_copyFrom_12 fX7_18 ho.1 rfl ho.2.2.2.2.1 ?_
    refine mm_iconst (x := 0) dX7_copyFrom_15 (by decide) ?_
    refine mm_aload_n dX7_copyFrom_16 rfl rfl ?_
    refine mm_getS dX7_copyFrom_17 fX7_18 hb.1 rfl hb.2.2.2.2.1 ?_
    refine mm_iconst (x := 0) dX7_copyFrom_20 (by decide) ?_
    refine mm_bipush (x := 12) dX7_copyFrom_21 (by decide) ?_
    refine mm_copyi dX7_copyFrom_23 lX7_39 ho.2.1 hb.2.1 (by decide) (by decide) (by decide) (by decide) (by decide) (by simp [Value.category]) ?_
    refine mm_cast rfl rfl (congrArg (fun J : Nat → Nat → Int32 => ((J, g1.2.1, g1.2.2) : mm_H)) eJ1.symm) ?_
    refine mm_aload_n dX7_copyFrom_26 rfl rfl ?_
    refine mm_aload_n dX7_copyFrom_27 rfl rfl ?_
    refine mm_getI dX7_copyFrom_28 fX7_32 ho.1 rfl ?_
    refine mm_putI dX7_copyFrom_31 fX7_32 hb.1 rfl rfl rfl ?_
    refine mm_cast rfl rfl (congrArg (fun J : Nat → Nat → Int32 => ((J, g1.2.1, g1.2.2) : mm_H)) eJ2.symm) ?_
    refine mm_aload_n dX7_copyFrom_34 rfl rfl ?_
    refine mm_getS dX7_copyFrom_35 fX7_22 ho.1 rfl ho.2.2.2.2.2.1 ?_
    refine mm_iconst (x := 0) dX7_copyFrom_38 (by decide) ?_
    refine mm_aload_n dX7_copyFrom_39 rfl rfl ?_
    refine mm_getS dX7_copyFrom_40 fX7_22 hb.1 rfl hb.2.2.2.2.2.1 ?_
    refine mm_iconst (x := 0) dX7_copyFrom_43 (by decide) ?_
    refine mm_bipush (x := 10) dX7_copyFrom_44 (by decide) ?_
    refine mm_copyi dX7_copyFrom_46 lX7_39 ho.2.2.1 hb.2.2.1 (by decide) (by decide) (by decide) (by decide) (by decide) (by simp [Value.category]) ?_
    refine mm_cast rfl rfl (congrArg (fun J : Nat → Nat → Int32 => ((J, g1.2.1, g1.2.2) : mm_H)) eJ3.symm) ?_
    refine mm_aload_n dX7_copyFrom_49 rfl rfl ?_
    refine mm_getS dX7_copyFrom_50 fX7_25 ho.1 rfl ho.2.2.2.2.2.2.1 ?_
    refine mm_iconst (x := 0) dX7_copyFrom_53 (by decide) ?_
    refine mm_aload_n dX7_copyFrom_54 rfl rfl ?_
    refine mm_getS dX7_copyFrom_55 fX7_25 hb.1 rfl hb.2.2.2.2.2.2.1 ?_
    refine mm_iconst (x := 0) dX7_copyFrom_58 (by decide) ?_
    refine mm_bipush (x := 10) dX7_copyFrom_59 (by decide) ?_
    refine mm_copyi dX7_copyFrom_61 lX7_39 ho.2.2.2.1 hb.2.2.2.1 (by decide) (by decide) (by decide) (by decide) (by decide) (by simp [Value.category]) ?_
    refine mm_cast rfl rfl (congrArg (fun J : Nat → Nat → Int32 => ((J, g1.2.1, g1.2.2) : mm_H)) eJ4.symm) ?_
    refine mm_aload_n dX7_copyFrom_64 rfl rfl ?_
    refine mm_aload_n dX7_copyFrom_65 rfl rfl ?_
    refine mm_getI dX7_copyFrom_66 fX7_36 ho.1 rfl ?_
    refine mm_putI dX7_copyFrom_69 fX7_36 hb.1 rfl rfl rfl ?_
    refine mm_cast rfl rfl (congrArg (fun J : Nat → Nat → Int32 => ((J, g1.2.1, g1.2.2) : mm_H)) eJ5.symm) ?_
    refine mm_aload_n dX7_copyFrom_72 rfl rfl ?_
    refine mm_aload_n dX7_copyFrom_73 rfl rfl ?_
    refine mm_getI dX7_copyFrom_74 fX7_45 ho.1 rfl ?_
    refine mm_putI dX7_copyFrom_77 fX7_45 hb.1 rfl rfl rfl ?_
    refine mm_cast rfl rfl (congrArg (fun J : Nat → Nat → Int32 => ((J, g1.2.1, g1.2.2) : mm_H)) eJ6.symm) ?_
    exact mm_retE dX7_copyFrom_80 rfl rfl
  · refine ⟨⟨⟨?_, ?_, ?_, ?_, fun f j h1 h2 hj => ?_, fun f j h1 h2 hj => ?_⟩, ?_, ?_, ?_, ?_, fun j hj => ?_, fun j hj => ?_, fun j hj => ?_⟩, fun a ha => ?_⟩
    · simp (disch := omega) only [eJ1, eJ2, eJ3, eJ4, eJ5, eJ6, mm_up_n, mm_row_n, mm_row_s, mm_up_e, mm_up_k, tn_0, tn_4, tn_10, tn_12, cpy_at]; exact hcp.1
    · simp (disch := omega) only [eJ1, eJ2, eJ3, eJ4, eJ5, eJ6, mm_up_n, mm_row_n, mm_row_s, mm_up_e, mm_up_k, tn_0, tn_4, tn_10, tn_12, cpy_at]; exact hcp.2.1
    · simp (disch := omega) only [eJ1, eJ2, eJ3, eJ4, eJ5, eJ6, mm_up_n, mm_row_n, mm_row_s, mm_up_e, mm_up_k, tn_0, tn_4, tn_10, tn_12, cpy_at]; exact hcp.2.2.1
    · simp (disch := omega) only [eJ1, eJ2, eJ3, eJ4, eJ5, eJ6, mm_up_n, mm_row_n, mm_row_s, mm_up_e, mm_up_k, tn_0, tn_4, tn_10, tn_12, cpy_at]; exact hcp.2.2.2.1
    · simp (disch := omega) only [eJ1, eJ2, eJ3, eJ4, eJ5, eJ6, mm_up_n, mm_row_n, mm_row_s, mm_up_e, mm_up_k, tn_0, tn_4, tn_10, tn_12, cpy_at]; exact hcp.2.2.2.2.1 f j h1 h2 hj
    · simp (disch := omega) only [eJ1, eJ2, eJ3, eJ4, eJ5, eJ6, mm_up_n, mm_row_n, mm_row_s, mm_up_e, mm_up_k, tn_0, tn_4, tn_10, tn_12, cpy_at]; exact hcp.2.2.2.2.2 f j h1 h2 hj
    · simp (disch := omega) only [eJ1, eJ2, eJ3, eJ4, eJ5, eJ6, mm_up_n, mm_row_n, mm_row_s, mm_up_e, mm_up_k, tn_0, tn_4, tn_10, tn_12, cpy_at]; rw [f0]
    · simp (disch := omega) only [eJ1, eJ2, eJ3, eJ4, eJ5, eJ6, mm_up_n, mm_row_n, mm_row_s, mm_up_e, mm_up_k, tn_0, tn_4, tn_10, tn_12, cpy_at]; rw [f0]
    · simp (disch := omega) only [eJ1, eJ2, eJ3, eJ4, eJ5, eJ6, mm_up_n, mm_row_n, mm_row_s, mm_up_e, mm_up_k, tn_0, tn_4, tn_10, tn_12, cpy_at]; rw [f0]
    · simp (disch := omega) only [eJ1, eJ2, eJ3, eJ4, eJ5, eJ6, mm_up_n, mm_row_n, mm_row_s, mm_up_e, mm_up_k, tn_0, tn_4, tn_10, tn_12, cpy_at]; rw [e0]
    · simp (disch := omega) only [eJ1, eJ2, eJ3, eJ4, eJ5, eJ6, mm_up_n, mm_row_n, mm_row_s, mm_up_e, mm_up_k, tn_0, tn_4, tn_10, tn_12, cpy_at]; rw [f1]
    · simp (disch := omega) only [eJ1, eJ2, eJ3, eJ4, eJ5, eJ6, mm_up_n, mm_row_n, mm_row_s, mm_up_e, mm_up_k, tn_0, tn_4, tn_10, tn_12, cpy_at]; rw [f2]
    · simp (disch := omega) only [eJ1, eJ2, eJ3, eJ4, eJ5, eJ6, mm_up_n, mm_row_n, mm_row_s, mm_up_e, mm_up_k, tn_0, tn_4, tn_10, tn_12, cpy_at]; rw [f3]
    · simp (disch := omega) only [eJ1, eJ2, eJ3, eJ4, eJ5, eJ6, mm_up_n, mm_row_n, mm_row_s, mm_up_e, mm_up_k, tn_0, tn_4, tn_10, tn_12, cpy_at]; exact hfr a (by omega)
set_option maxRecDepth 100000 in
set_option maxHeartbeats 4000000 in
theorem mX7_takeMint (d : Nat) (h : mm_H) : ∃ g : mm_H, mm_M (d + 2) YX7_takeMint [.ref 61, .ref 9] h none g ∧ g.2 = h.2 ∧ mm_cp h.1 g.1 65 9 ∧ g.1 61 2 = 0 ∧ g.1 61 5 = 0 ∧ g.1 61 6 = h.1 61 6 ∧ (∀ a, (a < 65 ∨ 73 < a) → a ≠ 61 → g.1 a = h.1 a) := by
  obtain ⟨g1, hM, hg2, hcp, hfr⟩ := mX5_copyFrom d h 65 9 mint65 mint9 (by omega)
  have e0 : g1.1 61 = h.1 61 := hfr 61 (by omega)
  obtain ⟨J1, eJ1⟩ : ∃ J : Nat → Nat → Int32, J = mm_up g1.1 61 2 0 := ⟨_, rfl⟩
  obtain ⟨J2, eJ2⟩ : ∃ J : Nat → Nat → Int32, J = mm_up J1 61 5 0 := ⟨_, rfl⟩
  refine ⟨(J2, g1.2.1, g1.2.2), ?_, hg2, ?_⟩
  · refine mm_M.of [some (.ref 61), some (.ref 9)] rfl rfl (Nat.le_of_ble_eq_true rfl) ?_
    refine mm_aload_n dX7_takeMint_0 rfl rfl ?_
    refine mm_getS dX7_takeMint_1 fX7_12 sh_61 rfl gr_61_0 ?_
    refine mm_aload_n dX7_takeMint_4 rfl rfl ?_
    refine mm_cV (Y1 := YX5_copyFrom) dX7_takeMint_5 lX7_28 vX5_copyFrom (hM) sh_65 rfl rfl (by simp [Value.category]) ?_
    refine mm_aload_n dX7_takeMint_8 rfl rfl ?_
    refine mm_iconst (x := 0) dX7_takeMint_9 (by decide) ?_
    refine mm_putI dX7_takeMint_10 fX7_32 sh_61 rfl rfl rfl ?_
    refine mm_cast rfl rfl (congrArg (fun J : Nat → Nat → Int32 => ((J, g1.2.1, g1.2.2) : mm_H)) eJ1.symm) ?_
    refine mm_aload_n dX7_takeMint_13 rfl rfl ?_
    refine mm_iconst (x := 0) dX7_takeMint_14 (by decide) ?_
    refine mm_putI dX7_takeMint_15 fX7_36 sh_61 rfl rfl rfl ?_
    refine mm_cast rfl rfl (congrArg (fun J : Nat → Nat → Int32 => ((J, g1.2.1, g1.2.2) : mm_H)) eJ2.symm) ?_
    exact mm_retE dX7_takeMint_18 rfl rfl
  · refine ⟨⟨?_, ?_, ?_, ?_, fun f j h1 h2 hj => ?_, fun f j h1 h2 hj => ?_⟩, ?_, ?_, ?_, fun a ha h61 => ?_⟩
    · simp (disch := omega) only [eJ1, eJ2, mm_up_n, mm_row_n, mm_row_s, mm_up_e, mm_up_k, tn_0, tn_4, tn_10, tn_12, cpy_at]; exact hcp.1
    · simp (disch := omega) only [eJ1, eJ2, mm_up_n, mm_row_n, mm_row_s, mm_up_e, mm_up_k, tn_0, tn_4, tn_10, tn_12, cpy_at]; exact hcp.2.1
    · simp (disch := omega) only [eJ1, eJ2, mm_up_n, mm_row_n, mm_row_s, mm_up_e, mm_up_k, tn_0, tn_4, tn_10, tn_12, cpy_at]; exact hcp.2.2.1
    · simp (disch := omega) only [eJ1, eJ2, mm_up_n, mm_row_n, mm_row_s, mm_up_e, mm_up_k, tn_0, tn_4, tn_10, tn_12, cpy_at]; exact hcp.2.2.2.1
    · simp (disch := omega) only [eJ1, eJ2, mm_up_n, mm_row_n, mm_row_s, mm_up_e, mm_up_k, tn_0, tn_4, tn_10, tn_12, cpy_at]; exact hcp.2.2.2.2.1 f j h1 h2 hj
    · simp (disch := omega) only [eJ1, eJ2, mm_up_n, mm_row_n, mm_row_s, mm_up_e, mm_up_k, tn_0, tn_4, tn_10, tn_12, cpy_at]; exact hcp.2.2.2.2.2 f j h1 h2 hj
    · simp (disch := omega) only [eJ1, eJ2, mm_up_n, mm_row_n, mm_row_s, mm_up_e, mm_up_k, tn_0, tn_4, tn_10, tn_12, cpy_at]
    · simp (disch := omega) only [eJ1, eJ2, mm_up_n, mm_row_n, mm_row_s, mm_up_e, mm_up_k, tn_0, tn_4, tn_10, tn_12, cpy_at]
    · simp (disch := omega) only [eJ1, eJ2, mm_up_n, mm_row_n, mm_row_s, mm_up_e, mm_up_k, tn_0, tn_4, tn_10, tn_12, cpy_at]; rw [e0]
    · simp (disch := omega) only [eJ1, eJ2, mm_up_n, mm_row_n, mm_row_s, mm_up_e, mm_up_k, tn_0, tn_4, tn_10, tn_12, cpy_at]; exact hfr a (by omega)
def sp_car (f g : Nat → Int32) (at_ n : Nat) : Nat → Int32 := fun j => if at_ ≤ j ∧ j < at_ + n then f (j - at_) else g j
theorem sp_car_0 (f g : Nat → Int32) (at_ : Nat) : sp_car f g at_ 0 = g := by
  funext j
  have : ¬ (at_ ≤ j ∧ j < at_ + 0) := by omega
  simp only [sp_car, if_neg this]
theorem sp_car_s (f g : Nat → Int32) (at_ i : Nat) : upd (sp_car f g at_ i) (at_ + i) (f i) = sp_car f g at_ (i + 1) := by
  funext j
  by_cases e : j = at_ + i
  · subst e
    have h1 : at_ ≤ at_ + i ∧ at_ + i < at_ + (i + 1) := by omega
    have h2 : at_ + i - at_ = i := by omega
    simp only [upd, sp_car, if_pos h1, h2, if_true]
  · have h1 : (at_ ≤ j ∧ j < at_ + (i + 1)) ↔ (at_ ≤ j ∧ j < at_ + i) := by omega
    simp only [upd, sp_car, if_neg e, h1]
theorem mm_up_up {I : Nat → Nat → Int32} {a k : Nat} {x y : Int32} : mm_up (mm_up I a k x) a k y = mm_up I a k y := by
  funext b
  by_cases h : b = a
  · subst h
    funext j
    by_cases e : j = k
    · subst e; simp [mm_up, upd]
    · simp [mm_up, upd, e]
  · simp [mm_up, h]
theorem mm_up_row_c {I : Nat → Nat → Int32} {a b k : Nat} {f : Nat → Int32} {x : Int32} (h : a ≠ b) : mm_row (mm_up I a k x) b f = mm_up (mm_row I b f) a k x := by
  funext c
  by_cases h1 : c = a
  · subst h1; simp [mm_up, mm_row, h]
  · by_cases h2 : c = b
    · subst h2; simp [mm_up, mm_row, h1]
    · simp [mm_up, mm_row, h1, h2]
theorem mm_up_eqrow {I : Nat → Nat → Int32} {a k : Nat} {x : Int32} : mm_up I a k x = mm_row I a (upd (I a) k x) := rfl
theorem mm_up_self {I : Nat → Nat → Int32} {a k : Nat} {x : Int32} (h : I a k = x) : mm_up I a k x = I := by
  funext b
  by_cases e : b = a
  · subst e
    funext j
    by_cases e2 : j = k
    · subst e2; simp [mm_up, upd, h]
    · simp [mm_up, upd, e2]
  · simp [mm_up, e]
set_option maxRecDepth 100000 in
set_option maxHeartbeats 4000000 in
theorem mX11_carry_f (d : Nat) (h : mm_H) (a n t : Nat) (ha : mm_sh a = (1, n)) (hn : n ≤ 12) (h1 : a ≠ 214) (h2 : a ≠ 165) (hat : h.1 165 66 = nI t) (ht : t + n ≤ 520) (hg : h.1 165 67 = 0) : mm_M d YX11_carry [.ref 165, .ref a] h none (mm_up (mm_row h.1 214 (sp_car (h.1 a) (h.1 214) t n)) 165 66 (nI (t + n)), h.2.1, h.2.2) := by
  refine mm_M.of [some (.ref 165), some (.ref a), none] rfl rfl (Nat.le_of_ble_eq_true rfl) ?_
  have K2 : ∀ i, i ≤ n → mm_R d YX11_carry 2 [some (.ref 165), some (.ref a), some (.int (nI i))] [] (mm_up (mm_row h.1 214 (sp_car (h.1 a) (h.1 214) t i)) 165 66 (nI (t + i)), h.2.1, h.2.2) none (mm_up (mm_row h.1 214 (sp_car (h.1 a) (h.1 214) t n)) 165 66 (nI (t + n)), h.2.1, h.2.2) := by
    refine mm_down n ?_ (fun i hi ih => ?_)
    · refine mm_iload_n dX11_carry_2 rfl rfl ?_
      refine mm_aload_n dX11_carry_3 rfl rfl ?_
      refine mm_alen dX11_carry_4 (Or.inl rfl) ha ?_
      refine mm_icmp_ge 58 dX11_carry_5 (by decide) (fun c_5 => ?_) (fun c_5 => ?_)
      · exact mm_retE dX11_carry_58 rfl rfl
      · exact absurd (nI_le (Nat.le_refl _) (by omega)) c_5
    · refine mm_iload_n dX11_carry_2 rfl rfl ?_
      refine mm_aload_n dX11_carry_3 rfl rfl ?_
      refine mm_alen dX11_carry_4 (Or.inl rfl) ha ?_
      refine mm_icmp_ge 58 dX11_carry_5 (by decide) (fun c_5 => ?_) (fun c_5 => ?_)
      · exact absurd c_5 (nI_ge hi (by omega))
      · refine mm_aload_n dX11_carry_8 rfl rfl ?_
        refine mm_getI dX11_carry_9 fX11_516 sh_165 rfl ?_
        refine mm_if_eq 30 dX11_carry_12 (by decide) (fun c_12 => ?_) (fun c_12 => ?_)
        · refine mm_aload_n dX11_carry_30 rfl rfl ?_
          refine mm_getS dX11_carry_31 fX11_162 sh_165 rfl gr_165_64 ?_
          refine mm_aload_n dX11_carry_34 rfl rfl ?_
          refine mm_getI dX11_carry_35 fX11_519 sh_165 rfl ?_
          refine mm_aload_n dX11_carry_38 rfl rfl ?_
          refine mm_iload_n dX11_carry_39 rfl rfl ?_
          refine mm_iald (i) dX11_carry_40 ha rfl hi ?_
          refine mm_iast (t + i) dX11_carry_41 sh_214 (by dsimp only; rw [mm_up_e]) (by omega) ?_
          refine mm_aload_n dX11_carry_42 rfl rfl ?_
          refine mm_dup dX11_carry_43 rfl ?_
          refine mm_getI dX11_carry_44 fX11_519 sh_165 rfl ?_
          refine mm_iconst (x := 1) dX11_carry_47 (by decide) ?_
          refine mm_iadd dX11_carry_48 ?_
          refine mm_putI dX11_carry_49 fX11_519 sh_165 rfl rfl rfl ?_
          refine mm_iinc dX11_carry_52 rfl rfl rfl ?_
          refine mm_goto 2 dX11_carry_55 (by decide) ?_
          refine mm_cast (by rw [nI_succ]; rfl) rfl ?_ ih
          dsimp only
          rw [mm_up_n (show a ≠ 165 by omega), mm_row_n (show a ≠ 214 by omega), mm_up_n (show 165 ≠ 214 by decide), mm_up_e]
          rw [mm_up_eqrow (a := 214), mm_up_n (show 214 ≠ 165 by decide), mm_row_s, mm_up_row_c (show 165 ≠ 214 by decide), mm_up_up, mm_row_row, sp_car_s]
          rw [show nI (t + i) + 1 = nI (t + (i + 1)) by rw [← nI_succ]; rfl]
        · exact absurd (by dsimp only; rw [mm_up_k (by decide), mm_row_n (by decide)]; exact hg) c_12
  refine mm_iconst (x := 0) dX11_carry_0 (by decide) ?_
  refine mm_istore_n dX11_carry_1 rfl (by decide) rfl ?_
  exact mm_cast rfl rfl (by rw [sp_car_0, mm_row_self, Nat.add_zero, mm_up_self hat]) (K2 0 (Nat.zero_le _))
set_option maxRecDepth 100000 in
set_option maxHeartbeats 4000000 in
theorem mX11_carry_b (d : Nat) (h : mm_H) (a n t : Nat) (ha : mm_sh a = (1, n)) (hn : n ≤ 12) (h1 : a ≠ 214) (h2 : a ≠ 165) (hat : h.1 165 66 = nI t) (ht : t + n ≤ 520) (hg : ¬ h.1 165 67 = 0) : mm_M d YX11_carry [.ref 165, .ref a] h none (mm_up (mm_row h.1 a (sp_lay (fun j => h.1 214 (t + j)) (h.1 a) n)) 165 66 (nI (t + n)), h.2.1, h.2.2) := by
  refine mm_M.of [some (.ref 165), some (.ref a), none] rfl rfl (Nat.le_of_ble_eq_true rfl) ?_
  have K2 : ∀ i, i ≤ n → mm_R d YX11_carry 2 [some (.ref 165), some (.ref a), some (.int (nI i))] [] (mm_up (mm_row h.1 a (sp_lay (fun j => h.1 214 (t + j)) (h.1 a) i)) 165 66 (nI (t + i)), h.2.1, h.2.2) none (mm_up (mm_row h.1 a (sp_lay (fun j => h.1 214 (t + j)) (h.1 a) n)) 165 66 (nI (t + n)), h.2.1, h.2.2) := by
    refine mm_down n ?_ (fun i hi ih => ?_)
    · refine mm_iload_n dX11_carry_2 rfl rfl ?_
      refine mm_aload_n dX11_carry_3 rfl rfl ?_
      refine mm_alen dX11_carry_4 (Or.inl rfl) ha ?_
      refine mm_icmp_ge 58 dX11_carry_5 (by decide) (fun c_5 => ?_) (fun c_5 => ?_)
      · exact mm_retE dX11_carry_58 rfl rfl
      · exact absurd (nI_le (Nat.le_refl _) (by omega)) c_5
    · refine mm_iload_n dX11_carry_2 rfl rfl ?_
      refine mm_aload_n dX11_carry_3 rfl rfl ?_
      refine mm_alen dX11_carry_4 (Or.inl rfl) ha ?_
      refine mm_icmp_ge 58 dX11_carry_5 (by decide) (fun c_5 => ?_) (fun c_5 => ?_)
      · exact absurd c_5 (nI_ge hi (by omega))
      · refine mm_aload_n dX11_carry_8 rfl rfl ?_
        refine mm_getI dX11_carry_9 fX11_516 sh_165 rfl ?_
        refine mm_if_eq 30 dX11_carry_12 (by decide) (fun c_12 => ?_) (fun c_12 => ?_)
        · exact absurd (by dsimp only at c_12; rw [mm_up_k (by decide), mm_row_n (by omega)] at c_12; exact c_12) hg
        · refine mm_aload_n dX11_carry_15 rfl rfl ?_
          refine mm_iload_n dX11_carry_16 rfl rfl ?_
          refine mm_aload_n dX11_carry_17 rfl rfl ?_
          refine mm_getS dX11_carry_18 fX11_162 sh_165 rfl gr_165_64 ?_
          refine mm_aload_n dX11_carry_21 rfl rfl ?_
          refine mm_getI dX11_carry_22 fX11_519 sh_165 rfl ?_
          refine mm_iald (t + i) dX11_carry_25 sh_214 (by dsimp only; rw [mm_up_e]) (by omega) ?_
          refine mm_iast (i) dX11_carry_26 ha rfl hi ?_
          refine mm_goto 42 dX11_carry_27 (by decide) ?_
          refine mm_aload_n dX11_carry_42 rfl rfl ?_
          refine mm_dup dX11_carry_43 rfl ?_
          refine mm_getI dX11_carry_44 fX11_519 sh_165 rfl ?_
          refine mm_iconst (x := 1) dX11_carry_47 (by decide) ?_
          refine mm_iadd dX11_carry_48 ?_
          refine mm_putI dX11_carry_49 fX11_519 sh_165 rfl rfl rfl ?_
          refine mm_iinc dX11_carry_52 rfl rfl rfl ?_
          refine mm_goto 2 dX11_carry_55 (by decide) ?_
          refine mm_cast (by rw [nI_succ]; rfl) rfl ?_ ih
          dsimp only
          rw [mm_up_n (show 214 ≠ 165 by decide), mm_row_n (show 214 ≠ a by omega), mm_up_n (show 165 ≠ a by omega), mm_up_e]
          rw [mm_up_eqrow (a := a), mm_up_n (show a ≠ 165 by omega), mm_row_s, mm_up_row_c (show 165 ≠ a by omega), mm_up_up, mm_row_row]
          rw [show upd (sp_lay (fun j => h.1 214 (t + j)) (h.1 a) i) i (h.1 214 (t + i)) = sp_lay (fun j => h.1 214 (t + j)) (h.1 a) (i + 1) from sp_lay_s (fun j => h.1 214 (t + j)) (h.1 a) i]
          rw [show nI (t + i) + 1 = nI (t + (i + 1)) by rw [← nI_succ]; rfl]
  refine mm_iconst (x := 0) dX11_carry_0 (by decide) ?_
  refine mm_istore_n dX11_carry_1 rfl (by decide) rfl ?_
  exact mm_cast rfl rfl (by rw [sp_lay_0, mm_row_self, Nat.add_zero, mm_up_self hat]) (K2 0 (Nat.zero_le _))
