/-! The class reads a law: the sign of a comparison. -/
set_option maxRecDepth 100000 in
set_option maxHeartbeats 4000000 in
theorem mX4_takeSign (d : Nat) (h : mm_H) (B : Nat → Int32) (n : Nat) (hn : n ≤ 400) (r : Nat) (hr : r < 6) (s : zl_S) (S : CS B n h r s) (hl : s.2.2.length ≤ 400) : ∃ g k, mm_M (d + 1) YX4_takeSign [.ref 18] h (some (.int (nI k))) g ∧ lw_fr r h g ∧ CR B n g r (zl_g B n s) ∧ k = (match zl_g B n s with | .ok _ => kd B n s.1 | .error _ => 0) := by
  have S0 := S
  obtain ⟨t, a2, a3, a4, a5, a6⟩ := S
  have hle := t.le
  have kb := kd_lt B n s.1
  have e5 := S0.f5
  have M1 := mX8_kind d h B n s.1 0 t
  have fl : ∀ w, w < 8 → ∃ g, mm_M d YX8_fail [.ref 4, .int (nI w)] h none g ∧ lw_fr r h g ∧ ER B n g r (1 + 8 * s.1 + w) := fun w hw => by
    obtain ⟨g, Fm, Ft, Ff⟩ := mX8_fail d h B n s.1 0 t hn (by decide) w hw
    unfold flt at Ft
    rw [if_pos rfl] at Ft
    exact ⟨g, Fm, lw_4 Ff, ER_4 S0 hl Ff Ft (by omega) (by omega)⟩
  obtain ⟨f0, F0m, F0f, F0e⟩ := fl 0 (by decide)
  obtain ⟨f3, F3m, F3f, F3e⟩ := fl 3 (by decide)
  have e50 := F0e.f5
  have e53 := F3e.f5
  have ENT : ∀ {v g}, mm_R (d + 1) YX4_takeSign 0 [some (.ref 18), none] [] h v g → mm_M (d + 1) YX4_takeSign [.ref 18] h v g := fun k => mm_M.of _ rfl rfl (Nat.le_of_ble_eq_true rfl) k
  by_cases c1 : ¬ (11 ≤ kd B n s.1 ∧ kd B n s.1 ≤ 15)
  · have e : zl_g B n s = .error (1 + 8 * s.1) := by unfold zl_g; rw [if_pos c1]
    rw [e]
    refine ⟨f0, 0, ENT ?_, F0f, F0e, rfl⟩
    refine mm_aload_n dX4_takeSign_0 rfl rfl ?_
    refine mm_getS dX4_takeSign_1 fX4_9 sh_18 rfl gr_18_0 ?_
    refine mm_cV (Y1 := YX8_kind) dX4_takeSign_4 lX4_37 vX8_kind (M1) sh_4 rfl rfl (by simp [Value.category]) ?_
    refine mm_istore_n dX4_takeSign_7 rfl (by decide) rfl ?_
    refine mm_iload_n dX4_takeSign_8 rfl rfl ?_
    refine mm_bipush (x := 11) dX4_takeSign_9 (by decide) ?_
    refine mm_icmp_lt 20 dX4_takeSign_11 (by decide) (fun c_11 => ?_) (fun c_11 => ?_)
    · refine mm_aload_n dX4_takeSign_20 rfl rfl ?_
      refine mm_getS dX4_takeSign_21 fX4_9 sh_18 rfl gr_18_0 ?_
      refine mm_iconst (x := 0) dX4_takeSign_24 (by decide) ?_
      refine mm_cV (Y1 := YX8_fail) dX4_takeSign_25 lX4_44 vX8_fail (F0m) sh_4 rfl rfl (by simp [Value.category]) ?_
      refine mm_goto 48 dX4_takeSign_28 (by decide) ?_
      refine mm_aload_n dX4_takeSign_48 rfl rfl ?_
      refine mm_getS dX4_takeSign_49 fX4_9 sh_18 rfl gr_18_0 ?_
      refine mm_getI dX4_takeSign_52 fX4_29 sh_4 rfl ?_
      refine mm_if_eq 60 dX4_takeSign_55 (by decide) (fun c_55 => ?_) (fun c_55 => ?_)
      · exact absurd ((nI_eq (b := 0) (by omega) (by omega)).mp (e50.symm.trans c_55)) (by omega)
      · refine mm_iconst (x := 0) dX4_takeSign_58 (by decide) ?_
        exact mm_iretE dX4_takeSign_59 rfl rfl rfl
    · refine mm_iload_n dX4_takeSign_14 rfl rfl ?_
      refine mm_bipush (x := 15) dX4_takeSign_15 (by decide) ?_
      refine mm_icmp_le 31 dX4_takeSign_17 (by decide) (fun c_17 => ?_) (fun c_17 => ?_)
      · exact absurd ⟨Nat.le_of_not_lt (fun z => c_11 (nI_lt (b := 11) z (by omega))), Nat.le_of_not_lt (fun z => absurd c_17 (nI_ge (a := 15) z (by omega)))⟩ c1
      · refine mm_aload_n dX4_takeSign_20 rfl rfl ?_
        refine mm_getS dX4_takeSign_21 fX4_9 sh_18 rfl gr_18_0 ?_
        refine mm_iconst (x := 0) dX4_takeSign_24 (by decide) ?_
        refine mm_cV (Y1 := YX8_fail) dX4_takeSign_25 lX4_44 vX8_fail (F0m) sh_4 rfl rfl (by simp [Value.category]) ?_
        refine mm_goto 48 dX4_takeSign_28 (by decide) ?_
        refine mm_aload_n dX4_takeSign_48 rfl rfl ?_
        refine mm_getS dX4_takeSign_49 fX4_9 sh_18 rfl gr_18_0 ?_
        refine mm_getI dX4_takeSign_52 fX4_29 sh_4 rfl ?_
        refine mm_if_eq 60 dX4_takeSign_55 (by decide) (fun c_55 => ?_) (fun c_55 => ?_)
        · exact absurd ((nI_eq (b := 0) (by omega) (by omega)).mp (e50.symm.trans c_55)) (by omega)
        · refine mm_iconst (x := 0) dX4_takeSign_58 (by decide) ?_
          exact mm_iretE dX4_takeSign_59 rfl rfl rfl
  · have q := Decidable.not_not.mp c1
    by_cases c3 : 60 ≤ s.2.1
    · have e : zl_g B n s = .error (1 + 8 * s.1 + 3) := by unfold zl_g; rw [if_neg c1, if_pos c3]
      rw [e]
      refine ⟨f3, 0, ENT ?_, F3f, F3e, rfl⟩
      refine mm_aload_n dX4_takeSign_0 rfl rfl ?_
      refine mm_getS dX4_takeSign_1 fX4_9 sh_18 rfl gr_18_0 ?_
      refine mm_cV (Y1 := YX8_kind) dX4_takeSign_4 lX4_37 vX8_kind (M1) sh_4 rfl rfl (by simp [Value.category]) ?_
      refine mm_istore_n dX4_takeSign_7 rfl (by decide) rfl ?_
      refine mm_iload_n dX4_takeSign_8 rfl rfl ?_
      refine mm_bipush (x := 11) dX4_takeSign_9 (by decide) ?_
      refine mm_icmp_lt 20 dX4_takeSign_11 (by decide) (fun c_11 => ?_) (fun c_11 => ?_)
      · exact absurd c_11 (nI_nlt (b := 11) q.1 (by omega))
      · refine mm_iload_n dX4_takeSign_14 rfl rfl ?_
        refine mm_bipush (x := 15) dX4_takeSign_15 (by decide) ?_
        refine mm_icmp_le 31 dX4_takeSign_17 (by decide) (fun c_17 => ?_) (fun c_17 => ?_)
        · refine mm_aload_n dX4_takeSign_31 rfl rfl ?_
          refine mm_getI dX4_takeSign_32 fX4_25 sh_18 rfl ?_
          refine mm_bipush (x := 60) dX4_takeSign_35 (by decide) ?_
          refine mm_icmp_lt 48 dX4_takeSign_37 (by decide) (fun c_37 => ?_) (fun c_37 => ?_)
          · exact absurd (by rw [a2] at c_37; exact c_37) (nI_nlt (b := 60) c3 (by omega))
          · refine mm_aload_n dX4_takeSign_40 rfl rfl ?_
            refine mm_getS dX4_takeSign_41 fX4_9 sh_18 rfl gr_18_0 ?_
            refine mm_iconst (x := 3) dX4_takeSign_44 (by decide) ?_
            refine mm_cV (Y1 := YX8_fail) dX4_takeSign_45 lX4_44 vX8_fail (F3m) sh_4 rfl rfl (by simp [Value.category]) ?_
            refine mm_aload_n dX4_takeSign_48 rfl rfl ?_
            refine mm_getS dX4_takeSign_49 fX4_9 sh_18 rfl gr_18_0 ?_
            refine mm_getI dX4_takeSign_52 fX4_29 sh_4 rfl ?_
            refine mm_if_eq 60 dX4_takeSign_55 (by decide) (fun c_55 => ?_) (fun c_55 => ?_)
            · exact absurd ((nI_eq (b := 0) (by omega) (by omega)).mp (e53.symm.trans c_55)) (by omega)
            · refine mm_iconst (x := 0) dX4_takeSign_58 (by decide) ?_
              exact mm_iretE dX4_takeSign_59 rfl rfl rfl
        · exact absurd (nI_le (b := 15) q.2 (by omega)) c_17
    · have e : zl_g B n s = .ok (nx B n s.1, s.2.1 + 1, s.2.2) := by unfold zl_g; rw [if_neg c1, if_neg c3]
      rw [e]
      obtain ⟨g1, eg1⟩ : ∃ g : mm_H, g = (mm_up h.1 18 2 (nI (s.2.1 + 1)), h.2.1, h.2.2) := ⟨_, rfl⟩
      obtain ⟨S1, f1⟩ := CS_v hr S0 (by omega)
      rw [← eg1] at S1 f1
      obtain ⟨g3, M3, t3, f3⟩ := mX8_step d g1 B n s.1 0 S1.1
      refine ⟨g3, kd B n s.1, ENT ?_, f1.trans (lw_4 f3), CS_4 S1 f3 t3, rfl⟩
      refine mm_aload_n dX4_takeSign_0 rfl rfl ?_
      refine mm_getS dX4_takeSign_1 fX4_9 sh_18 rfl gr_18_0 ?_
      refine mm_cV (Y1 := YX8_kind) dX4_takeSign_4 lX4_37 vX8_kind (M1) sh_4 rfl rfl (by simp [Value.category]) ?_
      refine mm_istore_n dX4_takeSign_7 rfl (by decide) rfl ?_
      refine mm_iload_n dX4_takeSign_8 rfl rfl ?_
      refine mm_bipush (x := 11) dX4_takeSign_9 (by decide) ?_
      refine mm_icmp_lt 20 dX4_takeSign_11 (by decide) (fun c_11 => ?_) (fun c_11 => ?_)
      · exact absurd c_11 (nI_nlt (b := 11) q.1 (by omega))
      · refine mm_iload_n dX4_takeSign_14 rfl rfl ?_
        refine mm_bipush (x := 15) dX4_takeSign_15 (by decide) ?_
        refine mm_icmp_le 31 dX4_takeSign_17 (by decide) (fun c_17 => ?_) (fun c_17 => ?_)
        · refine mm_aload_n dX4_takeSign_31 rfl rfl ?_
          refine mm_getI dX4_takeSign_32 fX4_25 sh_18 rfl ?_
          refine mm_bipush (x := 60) dX4_takeSign_35 (by decide) ?_
          refine mm_icmp_lt 48 dX4_takeSign_37 (by decide) (fun c_37 => ?_) (fun c_37 => ?_)
          · refine mm_aload_n dX4_takeSign_48 rfl rfl ?_
            refine mm_getS dX4_takeSign_49 fX4_9 sh_18 rfl gr_18_0 ?_
            refine mm_getI dX4_takeSign_52 fX4_29 sh_4 rfl ?_
            refine mm_if_eq 60 dX4_takeSign_55 (by decide) (fun c_55 => ?_) (fun c_55 => ?_)
            · refine mm_aload_n dX4_takeSign_60 rfl rfl ?_
              refine mm_dup dX4_takeSign_61 rfl ?_
              refine mm_getI dX4_takeSign_62 fX4_25 sh_18 rfl ?_
              refine mm_iconst (x := 1) dX4_takeSign_65 (by decide) ?_
              refine mm_iadd dX4_takeSign_66 ?_
              refine mm_putI dX4_takeSign_67 fX4_25 sh_18 rfl rfl rfl ?_
              refine mm_cast rfl rfl (show _ = g1 by rw [eg1, a2, nI_succ]) ?_
              refine mm_aload_n dX4_takeSign_70 rfl rfl ?_
              refine mm_getS dX4_takeSign_71 fX4_9 sh_18 rfl gr_18_0 ?_
              refine mm_cV (Y1 := YX8_step) dX4_takeSign_74 lX4_41 vX8_step (M3) sh_4 rfl rfl (by simp [Value.category]) ?_
              refine mm_iload_n dX4_takeSign_77 rfl rfl ?_
              exact mm_iretE dX4_takeSign_78 rfl rfl rfl
            · exact absurd e5 c_55
          · exact absurd (by rw [a2]; exact nI_lt (b := 60) (by omega) (by omega)) c_37
        · exact absurd (nI_le (b := 15) q.2 (by omega)) c_17
/-- a fault met before stays -/
theorem mX8_fail_x (d : Nat) (h : mm_H) (B : Nat → Int32) (n r c : Nat) (hn : n ≤ 400) (S : ER B n h r c) (w : Nat) (hw : w < 8) : ∃ g, mm_M d YX8_fail [.ref 4, .int (nI w)] h none g ∧ lw_fr r h g ∧ ER B n g r c := by
  obtain ⟨⟨pos, t⟩, c0, c4, a3, l, a4, a5⟩ := S
  obtain ⟨g, Fm, Ft, Ff⟩ := mX8_fail d h B n pos c t hn (by omega) w hw
  unfold flt at Ft
  rw [if_neg c0] at Ft
  exact ⟨g, Fm, lw_4 Ff, ⟨pos, Ft⟩, c0, c4, by rw [Ff.2]; exact a3, l, by rw [Ff.i (by simp only [onep, beq_eq_false_iff_ne]; omega)]; exact a4, a5⟩
