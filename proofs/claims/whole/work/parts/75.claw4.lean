/-! The class reads a law: behind a fault. -/
set_option maxRecDepth 100000 in
set_option maxHeartbeats 4000000 in
theorem mX4_takeSign_x (d : Nat) (h : mm_H) (B : Nat → Int32) (n r c : Nat) (hn : n ≤ 400) (S : ER B n h r c) : ∃ g, mm_M (d + 1) YX4_takeSign [.ref 18] h (some (.int 0)) g ∧ lw_fr r h g ∧ ER B n g r c := by
  have c0 := S.2.1
  have c4 := S.2.2.1
  have e5 := S.f5
  obtain ⟨pos, t⟩ := S.1
  have M1 := mX8_kind d h B n pos c t
  obtain ⟨f0, F0m, F0f, F0e⟩ := mX8_fail_x d h B n r c hn S 0 (by decide)
  obtain ⟨f3, F3m, F3f, F3e⟩ := mX8_fail_x d h B n r c hn S 3 (by decide)
  have e50 := F0e.f5
  have e53 := F3e.f5
  suffices hE : mm_E (d + 1) YX4_takeSign 0 [some (.ref 18), none] [] h (fun v g => v = some (.int 0) ∧ lw_fr r h g ∧ ER B n g r c) by
    obtain ⟨v, g, hR, rfl, h1⟩ := hE
    exact ⟨g, mm_M.of _ rfl rfl (Nat.le_of_ble_eq_true rfl) hR, h1⟩
  have K0 : mm_E (d + 1) YX4_takeSign 48 [some (.ref 18), some (.int (nI (kd B n pos)))] [] f0 (fun v g => v = some (.int 0) ∧ lw_fr r h g ∧ ER B n g r c) := by
    refine mm_Es (fun _ _ => mm_aload_n dX4_takeSign_48 rfl rfl) ?_
    refine mm_Es (fun _ _ => mm_getS dX4_takeSign_49 fX4_9 sh_18 rfl gr_18_0) ?_
    refine mm_Es (fun _ _ => mm_getI dX4_takeSign_52 fX4_29 sh_4 rfl) ?_
    refine mm_Eb (fun _ _ => mm_if_eq 60 dX4_takeSign_55 (by decide)) (fun c_55 => ?_) (fun c_55 => ?_)
    · exact absurd ((nI_eq (b := 0) (by omega) (by omega)).mp (e50.symm.trans c_55)) c0
    · refine mm_Es (fun _ _ => mm_iconst (x := 0) dX4_takeSign_58 (by decide)) ?_
      refine mm_Er (mm_ireturn dX4_takeSign_59 rfl) ?_
      exact ⟨rfl, F0f, F0e⟩
  have K3 : mm_E (d + 1) YX4_takeSign 48 [some (.ref 18), some (.int (nI (kd B n pos)))] [] f3 (fun v g => v = some (.int 0) ∧ lw_fr r h g ∧ ER B n g r c) := by
    refine mm_Es (fun _ _ => mm_aload_n dX4_takeSign_48 rfl rfl) ?_
    refine mm_Es (fun _ _ => mm_getS dX4_takeSign_49 fX4_9 sh_18 rfl gr_18_0) ?_
    refine mm_Es (fun _ _ => mm_getI dX4_takeSign_52 fX4_29 sh_4 rfl) ?_
    refine mm_Eb (fun _ _ => mm_if_eq 60 dX4_takeSign_55 (by decide)) (fun c_55 => ?_) (fun c_55 => ?_)
    · exact absurd ((nI_eq (b := 0) (by omega) (by omega)).mp (e53.symm.trans c_55)) c0
    · refine mm_Es (fun _ _ => mm_iconst (x := 0) dX4_takeSign_58 (by decide)) ?_
      refine mm_Er (mm_ireturn dX4_takeSign_59 rfl) ?_
      exact ⟨rfl, F3f, F3e⟩
  have K : mm_E (d + 1) YX4_takeSign 48 [some (.ref 18), some (.int (nI (kd B n pos)))] [] h (fun v g => v = some (.int 0) ∧ lw_fr r h g ∧ ER B n g r c) := by
    refine mm_Es (fun _ _ => mm_aload_n dX4_takeSign_48 rfl rfl) ?_
    refine mm_Es (fun _ _ => mm_getS dX4_takeSign_49 fX4_9 sh_18 rfl gr_18_0) ?_
    refine mm_Es (fun _ _ => mm_getI dX4_takeSign_52 fX4_29 sh_4 rfl) ?_
    refine mm_Eb (fun _ _ => mm_if_eq 60 dX4_takeSign_55 (by decide)) (fun c_55 => ?_) (fun c_55 => ?_)
    · exact absurd ((nI_eq (b := 0) (by omega) (by omega)).mp (e5.symm.trans c_55)) c0
    · refine mm_Es (fun _ _ => mm_iconst (x := 0) dX4_takeSign_58 (by decide)) ?_
      refine mm_Er (mm_ireturn dX4_takeSign_59 rfl) ?_
      exact ⟨rfl, lw_fr.refl r h, S⟩
  refine mm_Es (fun _ _ => mm_aload_n dX4_takeSign_0 rfl rfl) ?_
  refine mm_Es (fun _ _ => mm_getS dX4_takeSign_1 fX4_9 sh_18 rfl gr_18_0) ?_
  refine mm_Es (fun _ _ => mm_cV (Y1 := YX8_kind) dX4_takeSign_4 lX4_37 vX8_kind (M1) sh_4 rfl rfl (by simp [Value.category])) ?_
  refine mm_Es (fun _ _ => mm_istore_n dX4_takeSign_7 rfl (by decide) rfl) ?_
  refine mm_Es (fun _ _ => mm_iload_n dX4_takeSign_8 rfl rfl) ?_
  refine mm_Es (fun _ _ => mm_bipush (x := 11) dX4_takeSign_9 (by decide)) ?_
  refine mm_Eb (fun _ _ => mm_icmp_lt 20 dX4_takeSign_11 (by decide)) (fun c_11 => ?_) (fun c_11 => ?_)
  · refine mm_Es (fun _ _ => mm_aload_n dX4_takeSign_20 rfl rfl) ?_
    refine mm_Es (fun _ _ => mm_getS dX4_takeSign_21 fX4_9 sh_18 rfl gr_18_0) ?_
    refine mm_Es (fun _ _ => mm_iconst (x := 0) dX4_takeSign_24 (by decide)) ?_
    refine mm_Es (fun _ _ => mm_cV (Y1 := YX8_fail) dX4_takeSign_25 lX4_44 vX8_fail (F0m) sh_4 rfl rfl (by simp [Value.category])) ?_
    refine mm_Es (fun _ _ => mm_goto 48 dX4_takeSign_28 (by decide)) ?_
    first | exact K0 | exact K3 | exact K
  · refine mm_Es (fun _ _ => mm_iload_n dX4_takeSign_14 rfl rfl) ?_
    refine mm_Es (fun _ _ => mm_bipush (x := 15) dX4_takeSign_15 (by decide)) ?_
    refine mm_Eb (fun _ _ => mm_icmp_le 31 dX4_takeSign_17 (by decide)) (fun c_17 => ?_) (fun c_17 => ?_)
    · refine mm_Es (fun _ _ => mm_aload_n dX4_takeSign_31 rfl rfl) ?_
      refine mm_Es (fun _ _ => mm_getI dX4_takeSign_32 fX4_25 sh_18 rfl) ?_
      refine mm_Es (fun _ _ => mm_bipush (x := 60) dX4_takeSign_35 (by decide)) ?_
      refine mm_Eb (fun _ _ => mm_icmp_lt 48 dX4_takeSign_37 (by decide)) (fun c_37 => ?_) (fun c_37 => ?_)
      · first | exact K0 | exact K3 | exact K
      · refine mm_Es (fun _ _ => mm_aload_n dX4_takeSign_40 rfl rfl) ?_
        refine mm_Es (fun _ _ => mm_getS dX4_takeSign_41 fX4_9 sh_18 rfl gr_18_0) ?_
        refine mm_Es (fun _ _ => mm_iconst (x := 3) dX4_takeSign_44 (by decide)) ?_
        refine mm_Es (fun _ _ => mm_cV (Y1 := YX8_fail) dX4_takeSign_45 lX4_44 vX8_fail (F3m) sh_4 rfl rfl (by simp [Value.category])) ?_
        first | exact K0 | exact K3 | exact K
    · refine mm_Es (fun _ _ => mm_aload_n dX4_takeSign_20 rfl rfl) ?_
      refine mm_Es (fun _ _ => mm_getS dX4_takeSign_21 fX4_9 sh_18 rfl gr_18_0) ?_
      refine mm_Es (fun _ _ => mm_iconst (x := 0) dX4_takeSign_24 (by decide)) ?_
      refine mm_Es (fun _ _ => mm_cV (Y1 := YX8_fail) dX4_takeSign_25 lX4_44 vX8_fail (F0m) sh_4 rfl rfl (by simp [Value.category])) ?_
      refine mm_Es (fun _ _ => mm_goto 48 dX4_takeSign_28 (by decide)) ?_
      first | exact K0 | exact K3 | exact K
