/-! The class reads a law: a fact, if deeper facts and tests are read well. -/
def zl_FA (B : Nat → Int32) (n r d dep : Nat) : Prop := ∀ h s, CS B n h r s → zl_J 0 s → ∀ fu, n + 3 * (n - s.1) + 4 ≤ fu → ∃ g, mm_M d YX4_readFact [.ref 18, .int (nI dep)] h none g ∧ lw_fr r h g ∧ CR B n g r (zl_x B n fu 0 dep s)
def zl_TE (B : Nat → Int32) (n r d dep : Nat) : Prop := ∀ h s, CS B n h r s → zl_J 0 s → ∀ fu, n + 3 * (n - s.1) + 5 ≤ fu → ∃ g, mm_M d YX4_readTest [.ref 18, .int (nI dep)] h none g ∧ lw_fr r h g ∧ CR B n g r (zl_x B n fu 1 dep s)
set_option maxRecDepth 100000 in
set_option maxHeartbeats 4000000 in
theorem mX4_readFact_of (B : Nat → Int32) (n : Nat) (hn : n ≤ 400) (r : Nat) (hr : r < 6) (d dep : Nat) (hdep : dep ≤ 10) (hF : dep < 10 → zl_FA B n r (d + 2) (dep + 1)) (hT : dep < 10 → zl_TE B n r (d + 2) (dep + 1)) : zl_FA B n r (d + 3) dep := by
  intro h s S hJ fu hfu
  have hle := S.1.le
  have hv := S.2.2.2.2.2
  have hl := zl_J_len hn hle hv hJ
  have kb := kd_lt B n s.1
  have M1 := mX8_kind (d + 2) h B n s.1 0 S.1
  obtain ⟨fu, rfl⟩ : ∃ k, fu = k + 1 := ⟨fu - 1, by omega⟩
  have ENT : ∀ {v g}, mm_R (d + 3) YX4_readFact 0 [some (.ref 18), some (.int (nI dep)), none, none] [] h v g → mm_M (d + 3) YX4_readFact [.ref 18, .int (nI dep)] h v g := fun k => mm_M.of _ rfl rfl (Nat.le_of_ble_eq_true rfl) k
  by_cases c1 : ¬ kd B n s.1 = 30 ∧ ¬ kd B n s.1 = 4
  · have e : zl_x B n (fu + 1) 0 dep s = zl_b (zl_m B n fu s) (fun s1 => zl_b (zl_g B n s1) (fun s2 => zl_b (zl_m B n fu s2) (fun s3 => .ok (zl_e (kd B n s1.1) s3)))) := by simp only [zl_x]; rw [if_pos c1]
    rw [e]
    obtain ⟨g1, M2, f1, R1⟩ := mX4_readSum d h B n hn r hr s S hJ fu (by omega)
    cases e1 : zl_m B n fu s with
    | error c =>
      rw [e1] at R1
      rw [zl_b_e]
      obtain ⟨g2, M3, f2, E2⟩ := mX4_takeSign_x (d + 1) g1 B n r c hn R1
      refine ⟨g2, ENT ?_, f1.trans f2, E2⟩
      refine mm_aload_n dX4_readFact_0 rfl rfl ?_
      refine mm_getS dX4_readFact_1 fX4_9 sh_18 rfl gr_18_0 ?_
      refine mm_cV (Y1 := YX8_kind) dX4_readFact_4 lX4_37 vX8_kind (M1) sh_4 rfl rfl (by simp [Value.category]) ?_
      refine mm_istore_n dX4_readFact_7 rfl (by decide) rfl ?_
      refine mm_iload_n dX4_readFact_8 rfl rfl ?_
      refine mm_bipush (x := 30) dX4_readFact_9 (by decide) ?_
      refine mm_icmp_eq 47 dX4_readFact_11 (by decide) (fun c_11 => ?_) (fun c_11 => ?_)
      · exact absurd ((nI_eq (b := 30) (by omega) (by omega)).mp c_11) c1.1
      · refine mm_iload_n dX4_readFact_14 rfl rfl ?_
        refine mm_iconst (x := 4) dX4_readFact_15 (by decide) ?_
        refine mm_icmp_eq 47 dX4_readFact_16 (by decide) (fun c_16 => ?_) (fun c_16 => ?_)
        · exact absurd ((nI_eq (b := 4) (by omega) (by omega)).mp c_16) c1.2
        · refine mm_aload_n dX4_readFact_19 rfl rfl ?_
          refine mm_cV (Y1 := YX4_readSum) dX4_readFact_20 lX4_55 vX4_readSum (M2) sh_18 rfl rfl (by simp [Value.category]) ?_
          refine mm_aload_n dX4_readFact_23 rfl rfl ?_
          refine mm_cV (Y1 := YX4_takeSign) dX4_readFact_24 lX4_80 vX4_takeSign (M3) sh_18 rfl rfl (by simp [Value.category]) ?_
          refine mm_istore_n dX4_readFact_27 rfl (by decide) rfl ?_
          refine mm_iload_n dX4_readFact_28 rfl rfl ?_
          refine mm_if_eq 44 dX4_readFact_29 (by decide) (fun c_29 => ?_) (fun c_29 => ?_)
          · refine mm_goto 136 dX4_readFact_44 (by decide) ?_
            exact mm_retE dX4_readFact_136 rfl rfl
          · exact absurd rfl c_29
    | ok s1 =>
      rw [e1] at R1
      rw [zl_b_k]
      obtain ⟨p1, p2, p3, p4⟩ := zl_m_fwd hle e1
      have J1 := p4 _ hJ
      have l1 := zl_J_len hn p1 p3 J1
      have kb1 := kd_lt B n s1.1
      obtain ⟨g2, k, M3, f2, R2, ek⟩ := mX4_takeSign (d + 1) g1 B n hn r hr s1 R1 (by omega)
      cases e2 : zl_g B n s1 with
      | error c =>
        rw [e2] at R2 ek
        rw [zl_b_e]
        replace ek : k = 0 := ek
        subst ek
        refine ⟨g2, ENT ?_, f1.trans f2, R2⟩
        refine mm_aload_n dX4_readFact_0 rfl rfl ?_
        refine mm_getS dX4_readFact_1 fX4_9 sh_18 rfl gr_18_0 ?_
        refine mm_cV (Y1 := YX8_kind) dX4_readFact_4 lX4_37 vX8_kind (M1) sh_4 rfl rfl (by simp [Value.category]) ?_
        refine mm_istore_n dX4_readFact_7 rfl (by decide) rfl ?_
        refine mm_iload_n dX4_readFact_8 rfl rfl ?_
        refine mm_bipush (x := 30) dX4_readFact_9 (by decide) ?_
        refine mm_icmp_eq 47 dX4_readFact_11 (by decide) (fun c_11 => ?_) (fun c_11 => ?_)
        · exact absurd ((nI_eq (b := 30) (by omega) (by omega)).mp c_11) c1.1
        · refine mm_iload_n dX4_readFact_14 rfl rfl ?_
          refine mm_iconst (x := 4) dX4_readFact_15 (by decide) ?_
          refine mm_icmp_eq 47 dX4_readFact_16 (by decide) (fun c_16 => ?_) (fun c_16 => ?_)
          · exact absurd ((nI_eq (b := 4) (by omega) (by omega)).mp c_16) c1.2
          · refine mm_aload_n dX4_readFact_19 rfl rfl ?_
            refine mm_cV (Y1 := YX4_readSum) dX4_readFact_20 lX4_55 vX4_readSum (M2) sh_18 rfl rfl (by simp [Value.category]) ?_
            refine mm_aload_n dX4_readFact_23 rfl rfl ?_
            refine mm_cV (Y1 := YX4_takeSign) dX4_readFact_24 lX4_80 vX4_takeSign (M3) sh_18 rfl rfl (by simp [Value.category]) ?_
            refine mm_istore_n dX4_readFact_27 rfl (by decide) rfl ?_
            refine mm_iload_n dX4_readFact_28 rfl rfl ?_
            refine mm_if_eq 44 dX4_readFact_29 (by decide) (fun c_29 => ?_) (fun c_29 => ?_)
            · refine mm_goto 136 dX4_readFact_44 (by decide) ?_
              exact mm_retE dX4_readFact_136 rfl rfl
            · exact absurd rfl c_29
      | ok s2 =>
        rw [e2] at R2 ek
        rw [zl_b_k]
        replace ek : k = kd B n s1.1 := ek
        subst ek
        have k0 := (zl_g_ok e2).1
        obtain ⟨q1, q2, q3, q4⟩ := zl_g_fwd p1 e2
        have J2 := q4 _ J1
        obtain ⟨g3, M4, f3, R3⟩ := mX4_readSum d g2 B n hn r hr s2 R2 (zl_J_le J2 (by omega)) fu (by omega)
        cases e3 : zl_m B n fu s2 with
        | error c =>
          rw [e3] at R3
          rw [zl_b_e]
          obtain ⟨g4, M5, f4, E4⟩ := mX3_addSign_x (d + 2) g3 B n r c hr R3 (kd B n s1.1) kb1
          have a3 := R3.2.2.2.1
          refine ⟨g4, ENT ?_, (f1.trans f2).trans (f3.trans f4), E4⟩
          refine mm_aload_n dX4_readFact_0 rfl rfl ?_
          refine mm_getS dX4_readFact_1 fX4_9 sh_18 rfl gr_18_0 ?_
          refine mm_cV (Y1 := YX8_kind) dX4_readFact_4 lX4_37 vX8_kind (M1) sh_4 rfl rfl (by simp [Value.category]) ?_
          refine mm_istore_n dX4_readFact_7 rfl (by decide) rfl ?_
          refine mm_iload_n dX4_readFact_8 rfl rfl ?_
          refine mm_bipush (x := 30) dX4_readFact_9 (by decide) ?_
          refine mm_icmp_eq 47 dX4_readFact_11 (by decide) (fun c_11 => ?_) (fun c_11 => ?_)
          · exact absurd ((nI_eq (b := 30) (by omega) (by omega)).mp c_11) c1.1
          · refine mm_iload_n dX4_readFact_14 rfl rfl ?_
            refine mm_iconst (x := 4) dX4_readFact_15 (by decide) ?_
            refine mm_icmp_eq 47 dX4_readFact_16 (by decide) (fun c_16 => ?_) (fun c_16 => ?_)
            · exact absurd ((nI_eq (b := 4) (by omega) (by omega)).mp c_16) c1.2
            · refine mm_aload_n dX4_readFact_19 rfl rfl ?_
              refine mm_cV (Y1 := YX4_readSum) dX4_readFact_20 lX4_55 vX4_readSum (M2) sh_18 rfl rfl (by simp [Value.category]) ?_
              refine mm_aload_n dX4_readFact_23 rfl rfl ?_
              refine mm_cV (Y1 := YX4_takeSign) dX4_readFact_24 lX4_80 vX4_takeSign (M3) sh_18 rfl rfl (by simp [Value.category]) ?_
              refine mm_istore_n dX4_readFact_27 rfl (by decide) rfl ?_
              refine mm_iload_n dX4_readFact_28 rfl rfl ?_
              refine mm_if_eq 44 dX4_readFact_29 (by decide) (fun c_29 => ?_) (fun c_29 => ?_)
              · exact absurd ((nI_eq (b := 0) (by omega) (by omega)).mp c_29) (by omega)
              · refine mm_aload_n dX4_readFact_32 rfl rfl ?_
                refine mm_cV (Y1 := YX4_readSum) dX4_readFact_33 lX4_55 vX4_readSum (M4) sh_18 rfl rfl (by simp [Value.category]) ?_
                refine mm_aload_n dX4_readFact_36 rfl rfl ?_
                refine mm_getR dX4_readFact_37 fX4_18 sh_18 rfl a3 ?_
                refine mm_iload_n dX4_readFact_40 rfl rfl ?_
                refine mm_cV (Y1 := YX3_addSign) dX4_readFact_41 lX4_68 vX3_addSign (M5) (law_i r hr).1 rfl rfl (by simp [Value.category]) ?_
                refine mm_goto 136 dX4_readFact_44 (by decide) ?_
                exact mm_retE dX4_readFact_136 rfl rfl
        | ok s3 =>
          rw [e3] at R3
          rw [zl_b_k]
          obtain ⟨u1, u2, u3, u4⟩ := zl_m_fwd q1 e3
          have l3 := zl_J_len hn u1 u3 (u4 _ J2)
          obtain ⟨g4, M5, f4, E4⟩ := mX3_addSign_w (d + 2) g3 B n r hr s3 R3 (by omega) (kd B n s1.1) kb1
          have ez : zl_e0 (kd B n s1.1) s3 = zl_e (kd B n s1.1) s3 := by unfold zl_e0; rw [if_neg (by omega)]
          rw [ez] at E4
          have a3 := R3.2.2.1
          refine ⟨g4, ENT ?_, (f1.trans f2).trans (f3.trans f4), E4⟩
          refine mm_aload_n dX4_readFact_0 rfl rfl ?_
          refine mm_getS dX4_readFact_1 fX4_9 sh_18 rfl gr_18_0 ?_
          refine mm_cV (Y1 := YX8_kind) dX4_readFact_4 lX4_37 vX8_kind (M1) sh_4 rfl rfl (by simp [Value.category]) ?_
          refine mm_istore_n dX4_readFact_7 rfl (by decide) rfl ?_
          refine mm_iload_n dX4_readFact_8 rfl rfl ?_
          refine mm_bipush (x := 30) dX4_readFact_9 (by decide) ?_
          refine mm_icmp_eq 47 dX4_readFact_11 (by decide) (fun c_11 => ?_) (fun c_11 => ?_)
          · exact absurd ((nI_eq (b := 30) (by omega) (by omega)).mp c_11) c1.1
          · refine mm_iload_n dX4_readFact_14 rfl rfl ?_
            refine mm_iconst (x := 4) dX4_readFact_15 (by decide) ?_
            refine mm_icmp_eq 47 dX4_readFact_16 (by decide) (fun c_16 => ?_) (fun c_16 => ?_)
            · exact absurd ((nI_eq (b := 4) (by omega) (by omega)).mp c_16) c1.2
            · refine mm_aload_n dX4_readFact_19 rfl rfl ?_
              refine mm_cV (Y1 := YX4_readSum) dX4_readFact_20 lX4_55 vX4_readSum (M2) sh_18 rfl rfl (by simp [Value.category]) ?_
              refine mm_aload_n dX4_readFact_23 rfl rfl ?_
              refine mm_cV (Y1 := YX4_takeSign) dX4_readFact_24 lX4_80 vX4_takeSign (M3) sh_18 rfl rfl (by simp [Value.category]) ?_
              refine mm_istore_n dX4_readFact_27 rfl (by decide) rfl ?_
              refine mm_iload_n dX4_readFact_28 rfl rfl ?_
              refine mm_if_eq 44 dX4_readFact_29 (by decide) (fun c_29 => ?_) (fun c_29 => ?_)
              · exact absurd ((nI_eq (b := 0) (by omega) (by omega)).mp c_29) (by omega)
              · refine mm_aload_n dX4_readFact_32 rfl rfl ?_
                refine mm_cV (Y1 := YX4_readSum) dX4_readFact_33 lX4_55 vX4_readSum (M4) sh_18 rfl rfl (by simp [Value.category]) ?_
                refine mm_aload_n dX4_readFact_36 rfl rfl ?_
                refine mm_getR dX4_readFact_37 fX4_18 sh_18 rfl a3 ?_
                refine mm_iload_n dX4_readFact_40 rfl rfl ?_
                refine mm_cV (Y1 := YX3_addSign) dX4_readFact_41 lX4_68 vX3_addSign (M5) (law_i r hr).1 rfl rfl (by simp [Value.category]) ?_
                refine mm_goto 136 dX4_readFact_44 (by decide) ?_
                exact mm_retE dX4_readFact_136 rfl rfl
  · by_cases c2 : 10 ≤ dep
    · have e : zl_x B n (fu + 1) 0 dep s = .error (1 + 8 * s.1 + 2) := by simp only [zl_x]; rw [if_neg c1, if_pos c2]
      rw [e]
      obtain ⟨g, Fm, Ft, Ff⟩ := mX8_fail (d + 2) h B n s.1 0 S.1 hn (by decide) 2 (by decide)
      unfold flt at Ft
      rw [if_pos rfl] at Ft
      refine ⟨g, ENT ?_, lw_4 Ff, ER_4 S (by omega) Ff Ft (by omega) (by omega)⟩
      refine mm_aload_n dX4_readFact_0 rfl rfl ?_
      refine mm_getS dX4_readFact_1 fX4_9 sh_18 rfl gr_18_0 ?_
      refine mm_cV (Y1 := YX8_kind) dX4_readFact_4 lX4_37 vX8_kind (M1) sh_4 rfl rfl (by simp [Value.category]) ?_
      refine mm_istore_n dX4_readFact_7 rfl (by decide) rfl ?_
      refine mm_iload_n dX4_readFact_8 rfl rfl ?_
      refine mm_bipush (x := 30) dX4_readFact_9 (by decide) ?_
      refine mm_icmp_eq 47 dX4_readFact_11 (by decide) (fun c_11 => ?_) (fun c_11 => ?_)
      · refine mm_iload_n dX4_readFact_47 rfl rfl ?_
        refine mm_bipush (x := 10) dX4_readFact_48 (by decide) ?_
        refine mm_icmp_lt 64 dX4_readFact_50 (by decide) (fun c_50 => ?_) (fun c_50 => ?_)
        · exact absurd c_50 (nI_nlt (b := 10) c2 (by omega))
        · refine mm_aload_n dX4_readFact_53 rfl rfl ?_
          refine mm_getS dX4_readFact_54 fX4_9 sh_18 rfl gr_18_0 ?_
          refine mm_iconst (x := 2) dX4_readFact_57 (by decide) ?_
          refine mm_cV (Y1 := YX8_fail) dX4_readFact_58 lX4_44 vX8_fail (Fm) sh_4 rfl rfl (by simp [Value.category]) ?_
          refine mm_goto 136 dX4_readFact_61 (by decide) ?_
          exact mm_retE dX4_readFact_136 rfl rfl
      · refine mm_iload_n dX4_readFact_14 rfl rfl ?_
        refine mm_iconst (x := 4) dX4_readFact_15 (by decide) ?_
        refine mm_icmp_eq 47 dX4_readFact_16 (by decide) (fun c_16 => ?_) (fun c_16 => ?_)
        · refine mm_iload_n dX4_readFact_47 rfl rfl ?_
          refine mm_bipush (x := 10) dX4_readFact_48 (by decide) ?_
          refine mm_icmp_lt 64 dX4_readFact_50 (by decide) (fun c_50 => ?_) (fun c_50 => ?_)
          · exact absurd c_50 (nI_nlt (b := 10) c2 (by omega))
          · refine mm_aload_n dX4_readFact_53 rfl rfl ?_
            refine mm_getS dX4_readFact_54 fX4_9 sh_18 rfl gr_18_0 ?_
            refine mm_iconst (x := 2) dX4_readFact_57 (by decide) ?_
            refine mm_cV (Y1 := YX8_fail) dX4_readFact_58 lX4_44 vX8_fail (Fm) sh_4 rfl rfl (by simp [Value.category]) ?_
            refine mm_goto 136 dX4_readFact_61 (by decide) ?_
            exact mm_retE dX4_readFact_136 rfl rfl
        · exact absurd ⟨fun z => absurd (by rw [z]; rfl) c_11, fun z => absurd (by rw [z]; rfl) c_16⟩ c1
    · have hpn := kd_pos (B := B) hle (by omega)
      obtain ⟨b1, b2, b3⟩ := zl_a_bd (B := B) (s := s) hle (by omega)
      obtain ⟨g1, M2, t1, f1⟩ := mX8_step (d + 2) h B n s.1 0 S.1
      have S1 : CS B n g1 r (zl_a B n s) := CS_4 S f1 t1
      have J1 := b3 _ hJ
      by_cases c3 : kd B n s.1 = 30
      · have e : zl_x B n (fu + 1) 0 dep s = zl_b (zl_x B n fu 0 (dep + 1) (zl_a B n s)) (fun s1 => .ok (zl_e 30 s1)) := by simp only [zl_x]; rw [if_neg c1, if_neg c2, if_pos c3]
        rw [e]
        obtain ⟨g2, M3, f2, R2⟩ := hF (by omega) g1 (zl_a B n s) S1 (zl_J_le J1 (by omega)) fu (by omega)
        cases e1 : zl_x B n fu 0 (dep + 1) (zl_a B n s) with
        | error c =>
          rw [e1] at R2
          rw [zl_b_e]
          obtain ⟨g3, M4, f3, E3⟩ := mX3_addSign_x (d + 2) g2 B n r c hr R2 30 (by decide)
          have a3 := R2.2.2.2.1
          refine ⟨g3, ENT ?_, ((lw_4 f1).trans f2).trans f3, E3⟩
          refine mm_aload_n dX4_readFact_0 rfl rfl ?_
          refine mm_getS dX4_readFact_1 fX4_9 sh_18 rfl gr_18_0 ?_
          refine mm_cV (Y1 := YX8_kind) dX4_readFact_4 lX4_37 vX8_kind (M1) sh_4 rfl rfl (by simp [Value.category]) ?_
          refine mm_istore_n dX4_readFact_7 rfl (by decide) rfl ?_
          refine mm_iload_n dX4_readFact_8 rfl rfl ?_
          refine mm_bipush (x := 30) dX4_readFact_9 (by decide) ?_
          refine mm_icmp_eq 47 dX4_readFact_11 (by decide) (fun c_11 => ?_) (fun c_11 => ?_)
          · refine mm_iload_n dX4_readFact_47 rfl rfl ?_
            refine mm_bipush (x := 10) dX4_readFact_48 (by decide) ?_
            refine mm_icmp_lt 64 dX4_readFact_50 (by decide) (fun c_50 => ?_) (fun c_50 => ?_)
            · refine mm_iload_n dX4_readFact_64 rfl rfl ?_
              refine mm_bipush (x := 30) dX4_readFact_65 (by decide) ?_
              refine mm_icmp_ne 96 dX4_readFact_67 (by decide) (fun c_67 => ?_) (fun c_67 => ?_)
              · exact absurd (by rw [c3]; rfl) c_67
              · refine mm_aload_n dX4_readFact_70 rfl rfl ?_
                refine mm_getS dX4_readFact_71 fX4_9 sh_18 rfl gr_18_0 ?_
                refine mm_cV (Y1 := YX8_step) dX4_readFact_74 lX4_41 vX8_step (M2) sh_4 rfl rfl (by simp [Value.category]) ?_
                refine mm_aload_n dX4_readFact_77 rfl rfl ?_
                refine mm_iload_n dX4_readFact_78 rfl rfl ?_
                refine mm_iconst (x := 1) dX4_readFact_79 (by decide) ?_
                refine mm_iadd dX4_readFact_80 ?_
                refine mm_cV (Y1 := YX4_readFact) dX4_readFact_81 lX4_77 vX4_readFact ((nI_succ dep ▸ M3)) sh_18 rfl rfl (by simp [Value.category]) ?_
                refine mm_aload_n dX4_readFact_84 rfl rfl ?_
                refine mm_getR dX4_readFact_85 fX4_18 sh_18 rfl a3 ?_
                refine mm_bipush (x := 30) dX4_readFact_88 (by decide) ?_
                refine mm_cV (Y1 := YX3_addSign) dX4_readFact_90 lX4_68 vX3_addSign (M4) (law_i r hr).1 rfl rfl (by simp [Value.category]) ?_
                refine mm_goto 136 dX4_readFact_93 (by decide) ?_
                exact mm_retE dX4_readFact_136 rfl rfl
            · exact absurd (nI_lt (b := 10) (by omega) (by omega)) c_50
          · refine mm_iload_n dX4_readFact_14 rfl rfl ?_
            refine mm_iconst (x := 4) dX4_readFact_15 (by decide) ?_
            refine mm_icmp_eq 47 dX4_readFact_16 (by decide) (fun c_16 => ?_) (fun c_16 => ?_)
            · refine mm_iload_n dX4_readFact_47 rfl rfl ?_
              refine mm_bipush (x := 10) dX4_readFact_48 (by decide) ?_
              refine mm_icmp_lt 64 dX4_readFact_50 (by decide) (fun c_50 => ?_) (fun c_50 => ?_)
              · refine mm_iload_n dX4_readFact_64 rfl rfl ?_
                refine mm_bipush (x := 30) dX4_readFact_65 (by decide) ?_
                refine mm_icmp_ne 96 dX4_readFact_67 (by decide) (fun c_67 => ?_) (fun c_67 => ?_)
                · exact absurd (by rw [c3]; rfl) c_67
                · refine mm_aload_n dX4_readFact_70 rfl rfl ?_
                  refine mm_getS dX4_readFact_71 fX4_9 sh_18 rfl gr_18_0 ?_
                  refine mm_cV (Y1 := YX8_step) dX4_readFact_74 lX4_41 vX8_step (M2) sh_4 rfl rfl (by simp [Value.category]) ?_
                  refine mm_aload_n dX4_readFact_77 rfl rfl ?_
                  refine mm_iload_n dX4_readFact_78 rfl rfl ?_
                  refine mm_iconst (x := 1) dX4_readFact_79 (by decide) ?_
                  refine mm_iadd dX4_readFact_80 ?_
                  refine mm_cV (Y1 := YX4_readFact) dX4_readFact_81 lX4_77 vX4_readFact ((nI_succ dep ▸ M3)) sh_18 rfl rfl (by simp [Value.category]) ?_
                  refine mm_aload_n dX4_readFact_84 rfl rfl ?_
                  refine mm_getR dX4_readFact_85 fX4_18 sh_18 rfl a3 ?_
                  refine mm_bipush (x := 30) dX4_readFact_88 (by decide) ?_
                  refine mm_cV (Y1 := YX3_addSign) dX4_readFact_90 lX4_68 vX3_addSign (M4) (law_i r hr).1 rfl rfl (by simp [Value.category]) ?_
                  refine mm_goto 136 dX4_readFact_93 (by decide) ?_
                  exact mm_retE dX4_readFact_136 rfl rfl
              · exact absurd (nI_lt (b := 10) (by omega) (by omega)) c_50
            · exact absurd ⟨fun z => absurd (by rw [z]; rfl) c_11, fun z => absurd (by rw [z]; rfl) c_16⟩ c1
        | ok s1 =>
          rw [e1] at R2
          rw [zl_b_k]
          obtain ⟨u1, u2, u3, u4⟩ := (zl_x_fwd fu).1 _ _ _ b1 hv e1
          have l3 := zl_J_len hn u1 u3 (u4 _ J1)
          obtain ⟨g3, M4, f3, E3⟩ := mX3_addSign_w (d + 2) g2 B n r hr s1 R2 (by omega) 30 (by decide)
          have a3 := R2.2.2.1
          refine ⟨g3, ENT ?_, ((lw_4 f1).trans f2).trans f3, E3⟩
          refine mm_aload_n dX4_readFact_0 rfl rfl ?_
          refine mm_getS dX4_readFact_1 fX4_9 sh_18 rfl gr_18_0 ?_
          refine mm_cV (Y1 := YX8_kind) dX4_readFact_4 lX4_37 vX8_kind (M1) sh_4 rfl rfl (by simp [Value.category]) ?_
          refine mm_istore_n dX4_readFact_7 rfl (by decide) rfl ?_
          refine mm_iload_n dX4_readFact_8 rfl rfl ?_
          refine mm_bipush (x := 30) dX4_readFact_9 (by decide) ?_
          refine mm_icmp_eq 47 dX4_readFact_11 (by decide) (fun c_11 => ?_) (fun c_11 => ?_)
          · refine mm_iload_n dX4_readFact_47 rfl rfl ?_
            refine mm_bipush (x := 10) dX4_readFact_48 (by decide) ?_
            refine mm_icmp_lt 64 dX4_readFact_50 (by decide) (fun c_50 => ?_) (fun c_50 => ?_)
            · refine mm_iload_n dX4_readFact_64 rfl rfl ?_
              refine mm_bipush (x := 30) dX4_readFact_65 (by decide) ?_
              refine mm_icmp_ne 96 dX4_readFact_67 (by decide) (fun c_67 => ?_) (fun c_67 => ?_)
              · exact absurd (by rw [c3]; rfl) c_67
              · refine mm_aload_n dX4_readFact_70 rfl rfl ?_
                refine mm_getS dX4_readFact_71 fX4_9 sh_18 rfl gr_18_0 ?_
                refine mm_cV (Y1 := YX8_step) dX4_readFact_74 lX4_41 vX8_step (M2) sh_4 rfl rfl (by simp [Value.category]) ?_
                refine mm_aload_n dX4_readFact_77 rfl rfl ?_
                refine mm_iload_n dX4_readFact_78 rfl rfl ?_
                refine mm_iconst (x := 1) dX4_readFact_79 (by decide) ?_
                refine mm_iadd dX4_readFact_80 ?_
                refine mm_cV (Y1 := YX4_readFact) dX4_readFact_81 lX4_77 vX4_readFact ((nI_succ dep ▸ M3)) sh_18 rfl rfl (by simp [Value.category]) ?_
                refine mm_aload_n dX4_readFact_84 rfl rfl ?_
                refine mm_getR dX4_readFact_85 fX4_18 sh_18 rfl a3 ?_
                refine mm_bipush (x := 30) dX4_readFact_88 (by decide) ?_
                refine mm_cV (Y1 := YX3_addSign) dX4_readFact_90 lX4_68 vX3_addSign (M4) (law_i r hr).1 rfl rfl (by simp [Value.category]) ?_
                refine mm_goto 136 dX4_readFact_93 (by decide) ?_
                exact mm_retE dX4_readFact_136 rfl rfl
            · exact absurd (nI_lt (b := 10) (by omega) (by omega)) c_50
          · refine mm_iload_n dX4_readFact_14 rfl rfl ?_
            refine mm_iconst (x := 4) dX4_readFact_15 (by decide) ?_
            refine mm_icmp_eq 47 dX4_readFact_16 (by decide) (fun c_16 => ?_) (fun c_16 => ?_)
            · refine mm_iload_n dX4_readFact_47 rfl rfl ?_
              refine mm_bipush (x := 10) dX4_readFact_48 (by decide) ?_
              refine mm_icmp_lt 64 dX4_readFact_50 (by decide) (fun c_50 => ?_) (fun c_50 => ?_)
              · refine mm_iload_n dX4_readFact_64 rfl rfl ?_
                refine mm_bipush (x := 30) dX4_readFact_65 (by decide) ?_
                refine mm_icmp_ne 96 dX4_readFact_67 (by decide) (fun c_67 => ?_) (fun c_67 => ?_)
                · exact absurd (by rw [c3]; rfl) c_67
                · refine mm_aload_n dX4_readFact_70 rfl rfl ?_
                  refine mm_getS dX4_readFact_71 fX4_9 sh_18 rfl gr_18_0 ?_
                  refine mm_cV (Y1 := YX8_step) dX4_readFact_74 lX4_41 vX8_step (M2) sh_4 rfl rfl (by simp [Value.category]) ?_
                  refine mm_aload_n dX4_readFact_77 rfl rfl ?_
                  refine mm_iload_n dX4_readFact_78 rfl rfl ?_
                  refine mm_iconst (x := 1) dX4_readFact_79 (by decide) ?_
                  refine mm_iadd dX4_readFact_80 ?_
                  refine mm_cV (Y1 := YX4_readFact) dX4_readFact_81 lX4_77 vX4_readFact ((nI_succ dep ▸ M3)) sh_18 rfl rfl (by simp [Value.category]) ?_
                  refine mm_aload_n dX4_readFact_84 rfl rfl ?_
                  refine mm_getR dX4_readFact_85 fX4_18 sh_18 rfl a3 ?_
                  refine mm_bipush (x := 30) dX4_readFact_88 (by decide) ?_
                  refine mm_cV (Y1 := YX3_addSign) dX4_readFact_90 lX4_68 vX3_addSign (M4) (law_i r hr).1 rfl rfl (by simp [Value.category]) ?_
                  refine mm_goto 136 dX4_readFact_93 (by decide) ?_
                  exact mm_retE dX4_readFact_136 rfl rfl
              · exact absurd (nI_lt (b := 10) (by omega) (by omega)) c_50
            · exact absurd ⟨fun z => absurd (by rw [z]; rfl) c_11, fun z => absurd (by rw [z]; rfl) c_16⟩ c1
      · have k4 : kd B n s.1 = 4 := by omega
        have e : zl_x B n (fu + 1) 0 dep s = zl_b (zl_x B n fu 1 (dep + 1) (zl_a B n s)) (fun s1 => if kd B n s1.1 = 5 then .ok (zl_a B n s1) else .error (1 + 8 * s1.1)) := by simp only [zl_x]; rw [if_neg c1, if_neg c2, if_neg c3]
        rw [e]
        obtain ⟨g2, M3, f2, R2⟩ := hT (by omega) g1 (zl_a B n s) S1 (zl_J_le J1 (by omega)) fu (by have : s.1 < (zl_a B n s).1 := b2; omega)
        cases e1 : zl_x B n fu 1 (dep + 1) (zl_a B n s) with
        | error c =>
          rw [e1] at R2
          rw [zl_b_e]
          obtain ⟨pos, t2⟩ := R2.1
          have M4 := mX8_kind (d + 2) g2 B n pos c t2
          have kb2 := kd_lt B n pos
          by_cases c5 : kd B n pos = 5
          · obtain ⟨g3, M5, f3, E3⟩ := mX8_step_x (d + 2) g2 B n r c R2
            refine ⟨g3, ENT ?_, ((lw_4 f1).trans f2).trans f3, E3⟩
            refine mm_aload_n dX4_readFact_0 rfl rfl ?_
            refine mm_getS dX4_readFact_1 fX4_9 sh_18 rfl gr_18_0 ?_
            refine mm_cV (Y1 := YX8_kind) dX4_readFact_4 lX4_37 vX8_kind (M1) sh_4 rfl rfl (by simp [Value.category]) ?_
            refine mm_istore_n dX4_readFact_7 rfl (by decide) rfl ?_
            refine mm_iload_n dX4_readFact_8 rfl rfl ?_
            refine mm_bipush (x := 30) dX4_readFact_9 (by decide) ?_
            refine mm_icmp_eq 47 dX4_readFact_11 (by decide) (fun c_11 => ?_) (fun c_11 => ?_)
            · refine mm_iload_n dX4_readFact_47 rfl rfl ?_
              refine mm_bipush (x := 10) dX4_readFact_48 (by decide) ?_
              refine mm_icmp_lt 64 dX4_readFact_50 (by decide) (fun c_50 => ?_) (fun c_50 => ?_)
              · refine mm_iload_n dX4_readFact_64 rfl rfl ?_
                refine mm_bipush (x := 30) dX4_readFact_65 (by decide) ?_
                refine mm_icmp_ne 96 dX4_readFact_67 (by decide) (fun c_67 => ?_) (fun c_67 => ?_)
                · refine mm_aload_n dX4_readFact_96 rfl rfl ?_
                  refine mm_getS dX4_readFact_97 fX4_9 sh_18 rfl gr_18_0 ?_
                  refine mm_cV (Y1 := YX8_step) dX4_readFact_100 lX4_41 vX8_step (M2) sh_4 rfl rfl (by simp [Value.category]) ?_
                  refine mm_aload_n dX4_readFact_103 rfl rfl ?_
                  refine mm_iload_n dX4_readFact_104 rfl rfl ?_
                  refine mm_iconst (x := 1) dX4_readFact_105 (by decide) ?_
                  refine mm_iadd dX4_readFact_106 ?_
                  refine mm_cV (Y1 := YX4_readTest) dX4_readFact_107 lX4_58 vX4_readTest ((nI_succ dep ▸ M3)) sh_18 rfl rfl (by simp [Value.category]) ?_
                  refine mm_aload_n dX4_readFact_110 rfl rfl ?_
                  refine mm_getS dX4_readFact_111 fX4_9 sh_18 rfl gr_18_0 ?_
                  refine mm_cV (Y1 := YX8_kind) dX4_readFact_114 lX4_37 vX8_kind (M4) sh_4 rfl rfl (by simp [Value.category]) ?_
                  refine mm_iconst (x := 5) dX4_readFact_117 (by decide) ?_
                  refine mm_icmp_eq 129 dX4_readFact_118 (by decide) (fun c_118 => ?_) (fun c_118 => ?_)
                  · refine mm_aload_n dX4_readFact_129 rfl rfl ?_
                    refine mm_getS dX4_readFact_130 fX4_9 sh_18 rfl gr_18_0 ?_
                    refine mm_cV (Y1 := YX8_step) dX4_readFact_133 lX4_41 vX8_step (M5) sh_4 rfl rfl (by simp [Value.category]) ?_
                    exact mm_retE dX4_readFact_136 rfl rfl
                  · exact absurd (by rw [c5]; rfl) c_118
                · exact absurd ((nI_eq (b := 30) (by omega) (by omega)).mp c_67) c3
              · exact absurd (nI_lt (b := 10) (by omega) (by omega)) c_50
            · refine mm_iload_n dX4_readFact_14 rfl rfl ?_
              refine mm_iconst (x := 4) dX4_readFact_15 (by decide) ?_
              refine mm_icmp_eq 47 dX4_readFact_16 (by decide) (fun c_16 => ?_) (fun c_16 => ?_)
              · refine mm_iload_n dX4_readFact_47 rfl rfl ?_
                refine mm_bipush (x := 10) dX4_readFact_48 (by decide) ?_
                refine mm_icmp_lt 64 dX4_readFact_50 (by decide) (fun c_50 => ?_) (fun c_50 => ?_)
                · refine mm_iload_n dX4_readFact_64 rfl rfl ?_
                  refine mm_bipush (x := 30) dX4_readFact_65 (by decide) ?_
                  refine mm_icmp_ne 96 dX4_readFact_67 (by decide) (fun c_67 => ?_) (fun c_67 => ?_)
                  · refine mm_aload_n dX4_readFact_96 rfl rfl ?_
                    refine mm_getS dX4_readFact_97 fX4_9 sh_18 rfl gr_18_0 ?_
                    refine mm_cV (Y1 := YX8_step) dX4_readFact_100 lX4_41 vX8_step (M2) sh_4 rfl rfl (by simp [Value.category]) ?_
                    refine mm_aload_n dX4_readFact_103 rfl rfl ?_
                    refine mm_iload_n dX4_readFact_104 rfl rfl ?_
                    refine mm_iconst (x := 1) dX4_readFact_105 (by decide) ?_
                    refine mm_iadd dX4_readFact_106 ?_
                    refine mm_cV (Y1 := YX4_readTest) dX4_readFact_107 lX4_58 vX4_readTest ((nI_succ dep ▸ M3)) sh_18 rfl rfl (by simp [Value.category]) ?_
                    refine mm_aload_n dX4_readFact_110 rfl rfl ?_
                    refine mm_getS dX4_readFact_111 fX4_9 sh_18 rfl gr_18_0 ?_
                    refine mm_cV (Y1 := YX8_kind) dX4_readFact_114 lX4_37 vX8_kind (M4) sh_4 rfl rfl (by simp [Value.category]) ?_
                    refine mm_iconst (x := 5) dX4_readFact_117 (by decide) ?_
                    refine mm_icmp_eq 129 dX4_readFact_118 (by decide) (fun c_118 => ?_) (fun c_118 => ?_)
                    · refine mm_aload_n dX4_readFact_129 rfl rfl ?_
                      refine mm_getS dX4_readFact_130 fX4_9 sh_18 rfl gr_18_0 ?_
                      refine mm_cV (Y1 := YX8_step) dX4_readFact_133 lX4_41 vX8_step (M5) sh_4 rfl rfl (by simp [Value.category]) ?_
                      exact mm_retE dX4_readFact_136 rfl rfl
                    · exact absurd (by rw [c5]; rfl) c_118
                  · exact absurd ((nI_eq (b := 30) (by omega) (by omega)).mp c_67) c3
                · exact absurd (nI_lt (b := 10) (by omega) (by omega)) c_50
              · exact absurd ⟨fun z => absurd (by rw [z]; rfl) c_11, fun z => absurd (by rw [z]; rfl) c_16⟩ c1
          · obtain ⟨g3, M5, f3, E3⟩ := mX8_fail_x (d + 2) g2 B n r c hn R2 0 (by decide)
            obtain ⟨g4, M6, f4, E4⟩ := mX8_step_x (d + 2) g3 B n r c E3
            refine ⟨g4, ENT ?_, ((lw_4 f1).trans f2).trans (f3.trans f4), E4⟩
            refine mm_aload_n dX4_readFact_0 rfl rfl ?_
            refine mm_getS dX4_readFact_1 fX4_9 sh_18 rfl gr_18_0 ?_
            refine mm_cV (Y1 := YX8_kind) dX4_readFact_4 lX4_37 vX8_kind (M1) sh_4 rfl rfl (by simp [Value.category]) ?_
            refine mm_istore_n dX4_readFact_7 rfl (by decide) rfl ?_
            refine mm_iload_n dX4_readFact_8 rfl rfl ?_
            refine mm_bipush (x := 30) dX4_readFact_9 (by decide) ?_
            refine mm_icmp_eq 47 dX4_readFact_11 (by decide) (fun c_11 => ?_) (fun c_11 => ?_)
            · refine mm_iload_n dX4_readFact_47 rfl rfl ?_
              refine mm_bipush (x := 10) dX4_readFact_48 (by decide) ?_
              refine mm_icmp_lt 64 dX4_readFact_50 (by decide) (fun c_50 => ?_) (fun c_50 => ?_)
              · refine mm_iload_n dX4_readFact_64 rfl rfl ?_
                refine mm_bipush (x := 30) dX4_readFact_65 (by decide) ?_
                refine mm_icmp_ne 96 dX4_readFact_67 (by decide) (fun c_67 => ?_) (fun c_67 => ?_)
                · refine mm_aload_n dX4_readFact_96 rfl rfl ?_
                  refine mm_getS dX4_readFact_97 fX4_9 sh_18 rfl gr_18_0 ?_
                  refine mm_cV (Y1 := YX8_step) dX4_readFact_100 lX4_41 vX8_step (M2) sh_4 rfl rfl (by simp [Value.category]) ?_
                  refine mm_aload_n dX4_readFact_103 rfl rfl ?_
                  refine mm_iload_n dX4_readFact_104 rfl rfl ?_
                  refine mm_iconst (x := 1) dX4_readFact_105 (by decide) ?_
                  refine mm_iadd dX4_readFact_106 ?_
                  refine mm_cV (Y1 := YX4_readTest) dX4_readFact_107 lX4_58 vX4_readTest ((nI_succ dep ▸ M3)) sh_18 rfl rfl (by simp [Value.category]) ?_
                  refine mm_aload_n dX4_readFact_110 rfl rfl ?_
                  refine mm_getS dX4_readFact_111 fX4_9 sh_18 rfl gr_18_0 ?_
                  refine mm_cV (Y1 := YX8_kind) dX4_readFact_114 lX4_37 vX8_kind (M4) sh_4 rfl rfl (by simp [Value.category]) ?_
                  refine mm_iconst (x := 5) dX4_readFact_117 (by decide) ?_
                  refine mm_icmp_eq 129 dX4_readFact_118 (by decide) (fun c_118 => ?_) (fun c_118 => ?_)
                  · exact absurd ((nI_eq (b := 5) (by omega) (by omega)).mp c_118) c5
                  · refine mm_aload_n dX4_readFact_121 rfl rfl ?_
                    refine mm_getS dX4_readFact_122 fX4_9 sh_18 rfl gr_18_0 ?_
                    refine mm_iconst (x := 0) dX4_readFact_125 (by decide) ?_
                    refine mm_cV (Y1 := YX8_fail) dX4_readFact_126 lX4_44 vX8_fail (M5) sh_4 rfl rfl (by simp [Value.category]) ?_
                    refine mm_aload_n dX4_readFact_129 rfl rfl ?_
                    refine mm_getS dX4_readFact_130 fX4_9 sh_18 rfl gr_18_0 ?_
                    refine mm_cV (Y1 := YX8_step) dX4_readFact_133 lX4_41 vX8_step (M6) sh_4 rfl rfl (by simp [Value.category]) ?_
                    exact mm_retE dX4_readFact_136 rfl rfl
                · exact absurd ((nI_eq (b := 30) (by omega) (by omega)).mp c_67) c3
              · exact absurd (nI_lt (b := 10) (by omega) (by omega)) c_50
            · refine mm_iload_n dX4_readFact_14 rfl rfl ?_
              refine mm_iconst (x := 4) dX4_readFact_15 (by decide) ?_
              refine mm_icmp_eq 47 dX4_readFact_16 (by decide) (fun c_16 => ?_) (fun c_16 => ?_)
              · refine mm_iload_n dX4_readFact_47 rfl rfl ?_
                refine mm_bipush (x := 10) dX4_readFact_48 (by decide) ?_
                refine mm_icmp_lt 64 dX4_readFact_50 (by decide) (fun c_50 => ?_) (fun c_50 => ?_)
                · refine mm_iload_n dX4_readFact_64 rfl rfl ?_
                  refine mm_bipush (x := 30) dX4_readFact_65 (by decide) ?_
                  refine mm_icmp_ne 96 dX4_readFact_67 (by decide) (fun c_67 => ?_) (fun c_67 => ?_)
                  · refine mm_aload_n dX4_readFact_96 rfl rfl ?_
                    refine mm_getS dX4_readFact_97 fX4_9 sh_18 rfl gr_18_0 ?_
                    refine mm_cV (Y1 := YX8_step) dX4_readFact_100 lX4_41 vX8_step (M2) sh_4 rfl rfl (by simp [Value.category]) ?_
                    refine mm_aload_n dX4_readFact_103 rfl rfl ?_
                    refine mm_iload_n dX4_readFact_104 rfl rfl ?_
                    refine mm_iconst (x := 1) dX4_readFact_105 (by decide) ?_
                    refine mm_iadd dX4_readFact_106 ?_
                    refine mm_cV (Y1 := YX4_readTest) dX4_readFact_107 lX4_58 vX4_readTest ((nI_succ dep ▸ M3)) sh_18 rfl rfl (by simp [Value.category]) ?_
                    refine mm_aload_n dX4_readFact_110 rfl rfl ?_
                    refine mm_getS dX4_readFact_111 fX4_9 sh_18 rfl gr_18_0 ?_
                    refine mm_cV (Y1 := YX8_kind) dX4_readFact_114 lX4_37 vX8_kind (M4) sh_4 rfl rfl (by simp [Value.category]) ?_
                    refine mm_iconst (x := 5) dX4_readFact_117 (by decide) ?_
                    refine mm_icmp_eq 129 dX4_readFact_118 (by decide) (fun c_118 => ?_) (fun c_118 => ?_)
                    · exact absurd ((nI_eq (b := 5) (by omega) (by omega)).mp c_118) c5
                    · refine mm_aload_n dX4_readFact_121 rfl rfl ?_
                      refine mm_getS dX4_readFact_122 fX4_9 sh_18 rfl gr_18_0 ?_
                      refine mm_iconst (x := 0) dX4_readFact_125 (by decide) ?_
                      refine mm_cV (Y1 := YX8_fail) dX4_readFact_126 lX4_44 vX8_fail (M5) sh_4 rfl rfl (by simp [Value.category]) ?_
                      refine mm_aload_n dX4_readFact_129 rfl rfl ?_
                      refine mm_getS dX4_readFact_130 fX4_9 sh_18 rfl gr_18_0 ?_
                      refine mm_cV (Y1 := YX8_step) dX4_readFact_133 lX4_41 vX8_step (M6) sh_4 rfl rfl (by simp [Value.category]) ?_
                      exact mm_retE dX4_readFact_136 rfl rfl
                  · exact absurd ((nI_eq (b := 30) (by omega) (by omega)).mp c_67) c3
                · exact absurd (nI_lt (b := 10) (by omega) (by omega)) c_50
              · exact absurd ⟨fun z => absurd (by rw [z]; rfl) c_11, fun z => absurd (by rw [z]; rfl) c_16⟩ c1
        | ok s1 =>
          rw [e1] at R2
          rw [zl_b_k]
          have R2' : CS B n g2 r s1 := R2
          obtain ⟨u1, u2, u3, u4⟩ := (zl_x_fwd fu).2.1 _ _ _ b1 hv e1
          have l3 := zl_J_len hn u1 u3 (u4 _ J1)
          have M4 := mX8_kind (d + 2) g2 B n s1.1 0 R2'.1
          have kb2 := kd_lt B n s1.1
          by_cases c5 : kd B n s1.1 = 5
          · rw [if_pos c5]
            obtain ⟨g3, M5, t3, f3⟩ := mX8_step (d + 2) g2 B n s1.1 0 R2'.1
            refine ⟨g3, ENT ?_, ((lw_4 f1).trans f2).trans (lw_4 f3), CS_4 R2' f3 t3⟩
            refine mm_aload_n dX4_readFact_0 rfl rfl ?_
            refine mm_getS dX4_readFact_1 fX4_9 sh_18 rfl gr_18_0 ?_
            refine mm_cV (Y1 := YX8_kind) dX4_readFact_4 lX4_37 vX8_kind (M1) sh_4 rfl rfl (by simp [Value.category]) ?_
            refine mm_istore_n dX4_readFact_7 rfl (by decide) rfl ?_
            refine mm_iload_n dX4_readFact_8 rfl rfl ?_
            refine mm_bipush (x := 30) dX4_readFact_9 (by decide) ?_
            refine mm_icmp_eq 47 dX4_readFact_11 (by decide) (fun c_11 => ?_) (fun c_11 => ?_)
            · refine mm_iload_n dX4_readFact_47 rfl rfl ?_
              refine mm_bipush (x := 10) dX4_readFact_48 (by decide) ?_
              refine mm_icmp_lt 64 dX4_readFact_50 (by decide) (fun c_50 => ?_) (fun c_50 => ?_)
              · refine mm_iload_n dX4_readFact_64 rfl rfl ?_
                refine mm_bipush (x := 30) dX4_readFact_65 (by decide) ?_
                refine mm_icmp_ne 96 dX4_readFact_67 (by decide) (fun c_67 => ?_) (fun c_67 => ?_)
                · refine mm_aload_n dX4_readFact_96 rfl rfl ?_
                  refine mm_getS dX4_readFact_97 fX4_9 sh_18 rfl gr_18_0 ?_
                  refine mm_cV (Y1 := YX8_step) dX4_readFact_100 lX4_41 vX8_step (M2) sh_4 rfl rfl (by simp [Value.category]) ?_
                  refine mm_aload_n dX4_readFact_103 rfl rfl ?_
                  refine mm_iload_n dX4_readFact_104 rfl rfl ?_
                  refine mm_iconst (x := 1) dX4_readFact_105 (by decide) ?_
                  refine mm_iadd dX4_readFact_106 ?_
                  refine mm_cV (Y1 := YX4_readTest) dX4_readFact_107 lX4_58 vX4_readTest ((nI_succ dep ▸ M3)) sh_18 rfl rfl (by simp [Value.category]) ?_
                  refine mm_aload_n dX4_readFact_110 rfl rfl ?_
                  refine mm_getS dX4_readFact_111 fX4_9 sh_18 rfl gr_18_0 ?_
                  refine mm_cV (Y1 := YX8_kind) dX4_readFact_114 lX4_37 vX8_kind (M4) sh_4 rfl rfl (by simp [Value.category]) ?_
                  refine mm_iconst (x := 5) dX4_readFact_117 (by decide) ?_
                  refine mm_icmp_eq 129 dX4_readFact_118 (by decide) (fun c_118 => ?_) (fun c_118 => ?_)
                  · refine mm_aload_n dX4_readFact_129 rfl rfl ?_
                    refine mm_getS dX4_readFact_130 fX4_9 sh_18 rfl gr_18_0 ?_
                    refine mm_cV (Y1 := YX8_step) dX4_readFact_133 lX4_41 vX8_step (M5) sh_4 rfl rfl (by simp [Value.category]) ?_
                    exact mm_retE dX4_readFact_136 rfl rfl
                  · exact absurd (by rw [c5]; rfl) c_118
                · exact absurd ((nI_eq (b := 30) (by omega) (by omega)).mp c_67) c3
              · exact absurd (nI_lt (b := 10) (by omega) (by omega)) c_50
            · refine mm_iload_n dX4_readFact_14 rfl rfl ?_
              refine mm_iconst (x := 4) dX4_readFact_15 (by decide) ?_
              refine mm_icmp_eq 47 dX4_readFact_16 (by decide) (fun c_16 => ?_) (fun c_16 => ?_)
              · refine mm_iload_n dX4_readFact_47 rfl rfl ?_
                refine mm_bipush (x := 10) dX4_readFact_48 (by decide) ?_
                refine mm_icmp_lt 64 dX4_readFact_50 (by decide) (fun c_50 => ?_) (fun c_50 => ?_)
                · refine mm_iload_n dX4_readFact_64 rfl rfl ?_
                  refine mm_bipush (x := 30) dX4_readFact_65 (by decide) ?_
                  refine mm_icmp_ne 96 dX4_readFact_67 (by decide) (fun c_67 => ?_) (fun c_67 => ?_)
                  · refine mm_aload_n dX4_readFact_96 rfl rfl ?_
                    refine mm_getS dX4_readFact_97 fX4_9 sh_18 rfl gr_18_0 ?_
                    refine mm_cV (Y1 := YX8_step) dX4_readFact_100 lX4_41 vX8_step (M2) sh_4 rfl rfl (by simp [Value.category]) ?_
                    refine mm_aload_n dX4_readFact_103 rfl rfl ?_
                    refine mm_iload_n dX4_readFact_104 rfl rfl ?_
                    refine mm_iconst (x := 1) dX4_readFact_105 (by decide) ?_
                    refine mm_iadd dX4_readFact_106 ?_
                    refine mm_cV (Y1 := YX4_readTest) dX4_readFact_107 lX4_58 vX4_readTest ((nI_succ dep ▸ M3)) sh_18 rfl rfl (by simp [Value.category]) ?_
                    refine mm_aload_n dX4_readFact_110 rfl rfl ?_
                    refine mm_getS dX4_readFact_111 fX4_9 sh_18 rfl gr_18_0 ?_
                    refine mm_cV (Y1 := YX8_kind) dX4_readFact_114 lX4_37 vX8_kind (M4) sh_4 rfl rfl (by simp [Value.category]) ?_
                    refine mm_iconst (x := 5) dX4_readFact_117 (by decide) ?_
                    refine mm_icmp_eq 129 dX4_readFact_118 (by decide) (fun c_118 => ?_) (fun c_118 => ?_)
                    · refine mm_aload_n dX4_readFact_129 rfl rfl ?_
                      refine mm_getS dX4_readFact_130 fX4_9 sh_18 rfl gr_18_0 ?_
                      refine mm_cV (Y1 := YX8_step) dX4_readFact_133 lX4_41 vX8_step (M5) sh_4 rfl rfl (by simp [Value.category]) ?_
                      exact mm_retE dX4_readFact_136 rfl rfl
                    · exact absurd (by rw [c5]; rfl) c_118
                  · exact absurd ((nI_eq (b := 30) (by omega) (by omega)).mp c_67) c3
                · exact absurd (nI_lt (b := 10) (by omega) (by omega)) c_50
              · exact absurd ⟨fun z => absurd (by rw [z]; rfl) c_11, fun z => absurd (by rw [z]; rfl) c_16⟩ c1
          · rw [if_neg c5]
            obtain ⟨g3, M5, Ft, Ff⟩ := mX8_fail (d + 2) g2 B n s1.1 0 R2'.1 hn (by decide) 0 (by decide)
            unfold flt at Ft
            rw [if_pos rfl] at Ft
            have E3 : ER B n g3 r (1 + 8 * s1.1) := ER_4 R2' (by omega) Ff Ft (by omega) (by omega)
            obtain ⟨g4, M6, f4, E4⟩ := mX8_step_x (d + 2) g3 B n r _ E3
            refine ⟨g4, ENT ?_, ((lw_4 f1).trans f2).trans ((lw_4 Ff).trans f4), E4⟩
            refine mm_aload_n dX4_readFact_0 rfl rfl ?_
            refine mm_getS dX4_readFact_1 fX4_9 sh_18 rfl gr_18_0 ?_
            refine mm_cV (Y1 := YX8_kind) dX4_readFact_4 lX4_37 vX8_kind (M1) sh_4 rfl rfl (by simp [Value.category]) ?_
            refine mm_istore_n dX4_readFact_7 rfl (by decide) rfl ?_
            refine mm_iload_n dX4_readFact_8 rfl rfl ?_
            refine mm_bipush (x := 30) dX4_readFact_9 (by decide) ?_
            refine mm_icmp_eq 47 dX4_readFact_11 (by decide) (fun c_11 => ?_) (fun c_11 => ?_)
            · refine mm_iload_n dX4_readFact_47 rfl rfl ?_
              refine mm_bipush (x := 10) dX4_readFact_48 (by decide) ?_
              refine mm_icmp_lt 64 dX4_readFact_50 (by decide) (fun c_50 => ?_) (fun c_50 => ?_)
              · refine mm_iload_n dX4_readFact_64 rfl rfl ?_
                refine mm_bipush (x := 30) dX4_readFact_65 (by decide) ?_
                refine mm_icmp_ne 96 dX4_readFact_67 (by decide) (fun c_67 => ?_) (fun c_67 => ?_)
                · refine mm_aload_n dX4_readFact_96 rfl rfl ?_
                  refine mm_getS dX4_readFact_97 fX4_9 sh_18 rfl gr_18_0 ?_
                  refine mm_cV (Y1 := YX8_step) dX4_readFact_100 lX4_41 vX8_step (M2) sh_4 rfl rfl (by simp [Value.category]) ?_
                  refine mm_aload_n dX4_readFact_103 rfl rfl ?_
                  refine mm_iload_n dX4_readFact_104 rfl rfl ?_
                  refine mm_iconst (x := 1) dX4_readFact_105 (by decide) ?_
                  refine mm_iadd dX4_readFact_106 ?_
                  refine mm_cV (Y1 := YX4_readTest) dX4_readFact_107 lX4_58 vX4_readTest ((nI_succ dep ▸ M3)) sh_18 rfl rfl (by simp [Value.category]) ?_
                  refine mm_aload_n dX4_readFact_110 rfl rfl ?_
                  refine mm_getS dX4_readFact_111 fX4_9 sh_18 rfl gr_18_0 ?_
                  refine mm_cV (Y1 := YX8_kind) dX4_readFact_114 lX4_37 vX8_kind (M4) sh_4 rfl rfl (by simp [Value.category]) ?_
                  refine mm_iconst (x := 5) dX4_readFact_117 (by decide) ?_
                  refine mm_icmp_eq 129 dX4_readFact_118 (by decide) (fun c_118 => ?_) (fun c_118 => ?_)
                  · exact absurd ((nI_eq (b := 5) (by omega) (by omega)).mp c_118) c5
                  · refine mm_aload_n dX4_readFact_121 rfl rfl ?_
                    refine mm_getS dX4_readFact_122 fX4_9 sh_18 rfl gr_18_0 ?_
                    refine mm_iconst (x := 0) dX4_readFact_125 (by decide) ?_
                    refine mm_cV (Y1 := YX8_fail) dX4_readFact_126 lX4_44 vX8_fail (M5) sh_4 rfl rfl (by simp [Value.category]) ?_
                    refine mm_aload_n dX4_readFact_129 rfl rfl ?_
                    refine mm_getS dX4_readFact_130 fX4_9 sh_18 rfl gr_18_0 ?_
                    refine mm_cV (Y1 := YX8_step) dX4_readFact_133 lX4_41 vX8_step (M6) sh_4 rfl rfl (by simp [Value.category]) ?_
                    exact mm_retE dX4_readFact_136 rfl rfl
                · exact absurd ((nI_eq (b := 30) (by omega) (by omega)).mp c_67) c3
              · exact absurd (nI_lt (b := 10) (by omega) (by omega)) c_50
            · refine mm_iload_n dX4_readFact_14 rfl rfl ?_
              refine mm_iconst (x := 4) dX4_readFact_15 (by decide) ?_
              refine mm_icmp_eq 47 dX4_readFact_16 (by decide) (fun c_16 => ?_) (fun c_16 => ?_)
              · refine mm_iload_n dX4_readFact_47 rfl rfl ?_
                refine mm_bipush (x := 10) dX4_readFact_48 (by decide) ?_
                refine mm_icmp_lt 64 dX4_readFact_50 (by decide) (fun c_50 => ?_) (fun c_50 => ?_)
                · refine mm_iload_n dX4_readFact_64 rfl rfl ?_
                  refine mm_bipush (x := 30) dX4_readFact_65 (by decide) ?_
                  refine mm_icmp_ne 96 dX4_readFact_67 (by decide) (fun c_67 => ?_) (fun c_67 => ?_)
                  · refine mm_aload_n dX4_readFact_96 rfl rfl ?_
                    refine mm_getS dX4_readFact_97 fX4_9 sh_18 rfl gr_18_0 ?_
                    refine mm_cV (Y1 := YX8_step) dX4_readFact_100 lX4_41 vX8_step (M2) sh_4 rfl rfl (by simp [Value.category]) ?_
                    refine mm_aload_n dX4_readFact_103 rfl rfl ?_
                    refine mm_iload_n dX4_readFact_104 rfl rfl ?_
                    refine mm_iconst (x := 1) dX4_readFact_105 (by decide) ?_
                    refine mm_iadd dX4_readFact_106 ?_
                    refine mm_cV (Y1 := YX4_readTest) dX4_readFact_107 lX4_58 vX4_readTest ((nI_succ dep ▸ M3)) sh_18 rfl rfl (by simp [Value.category]) ?_
                    refine mm_aload_n dX4_readFact_110 rfl rfl ?_
                    refine mm_getS dX4_readFact_111 fX4_9 sh_18 rfl gr_18_0 ?_
                    refine mm_cV (Y1 := YX8_kind) dX4_readFact_114 lX4_37 vX8_kind (M4) sh_4 rfl rfl (by simp [Value.category]) ?_
                    refine mm_iconst (x := 5) dX4_readFact_117 (by decide) ?_
                    refine mm_icmp_eq 129 dX4_readFact_118 (by decide) (fun c_118 => ?_) (fun c_118 => ?_)
                    · exact absurd ((nI_eq (b := 5) (by omega) (by omega)).mp c_118) c5
                    · refine mm_aload_n dX4_readFact_121 rfl rfl ?_
                      refine mm_getS dX4_readFact_122 fX4_9 sh_18 rfl gr_18_0 ?_
                      refine mm_iconst (x := 0) dX4_readFact_125 (by decide) ?_
                      refine mm_cV (Y1 := YX8_fail) dX4_readFact_126 lX4_44 vX8_fail (M5) sh_4 rfl rfl (by simp [Value.category]) ?_
                      refine mm_aload_n dX4_readFact_129 rfl rfl ?_
                      refine mm_getS dX4_readFact_130 fX4_9 sh_18 rfl gr_18_0 ?_
                      refine mm_cV (Y1 := YX8_step) dX4_readFact_133 lX4_41 vX8_step (M6) sh_4 rfl rfl (by simp [Value.category]) ?_
                      exact mm_retE dX4_readFact_136 rfl rfl
                  · exact absurd ((nI_eq (b := 30) (by omega) (by omega)).mp c_67) c3
                · exact absurd (nI_lt (b := 10) (by omega) (by omega)) c_50
              · exact absurd ⟨fun z => absurd (by rw [z]; rfl) c_11, fun z => absurd (by rw [z]; rfl) c_16⟩ c1
