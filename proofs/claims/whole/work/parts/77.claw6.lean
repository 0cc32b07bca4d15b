/-! The class reads a law: a test, if facts are read well. -/
set_option maxRecDepth 100000 in
set_option maxHeartbeats 4000000 in
theorem mX4_readTest_of (B : Nat → Int32) (n : Nat) (hn : n ≤ 400) (r : Nat) (hr : r < 6) (d dep : Nat) (hF : zl_FA B n r (d + 1) dep) : zl_TE B n r (d + 2) dep := by
  intro h s S hJ fu hfu
  obtain ⟨fu, rfl⟩ : ∃ k, fu = k + 1 := ⟨fu - 1, by omega⟩
  have hle := S.1.le
  have hv := S.2.2.2.2.2
  suffices hE : mm_E (d + 2) YX4_readTest 0 [some (.ref 18), some (.int (nI dep)), none, none, none] [] h (fun v g => v = none ∧ lw_fr r h g ∧ CR B n g r (zl_x B n (fu + 1) 1 dep s)) by
    obtain ⟨v, g, hR, rfl, h1⟩ := hE
    exact ⟨g, mm_M.of _ rfl rfl (Nat.le_of_ble_eq_true rfl) hR, h1⟩
  have KE : ∀ gg w (i : Int32) x4 c, w < 100 → lw_fr r h gg → ER B n gg r c → mm_E (d + 2) YX4_readTest 9 [some (.ref 18), some (.int (nI dep)), some (.int (nI w)), some (.int i), x4] [] gg (fun v g => v = none ∧ lw_fr r h g ∧ CR B n g r (.error c)) := by
    intro gg w i x4 c hw fg E
    have c0 := E.2.1
    have c4 := E.2.2.1
    have e5 := E.f5
    obtain ⟨g1, M1, f1, E1⟩ := mX3_addSign_x (d + 1) gg B n r c hr E w hw
    have a3 := E.2.2.2.1
    refine mm_Es (fun _ _ => mm_iload_n dX4_readTest_9 rfl rfl) ?_
    refine mm_Es (fun _ _ => mm_sipush (x := 400) dX4_readTest_10 (by decide)) ?_
    refine mm_Eb (fun _ _ => mm_icmp_ge 105 dX4_readTest_13 (by decide)) (fun c_13 => ?_) (fun c_13 => ?_)
    · refine mm_Es (fun _ _ => mm_aload_n dX4_readTest_105 rfl rfl) ?_
      refine mm_Es (fun _ _ => mm_getR dX4_readTest_106 fX4_18 sh_18 rfl a3) ?_
      refine mm_Es (fun _ _ => mm_iload_n dX4_readTest_109 rfl rfl) ?_
      refine mm_Es (fun _ _ => mm_cV (Y1 := YX3_addSign) dX4_readTest_110 lX4_68 vX3_addSign (M1) (law_i r hr).1 rfl rfl (by simp [Value.category])) ?_
      refine mm_Er (mm_return dX4_readTest_113 rfl) ?_
      exact ⟨rfl, fg.trans f1, E1⟩
    · refine mm_Es (fun _ _ => mm_aload_n dX4_readTest_16 rfl rfl) ?_
      refine mm_Es (fun _ _ => mm_getS dX4_readTest_17 fX4_9 sh_18 rfl gr_18_0) ?_
      refine mm_Es (fun _ _ => mm_getI dX4_readTest_20 fX4_29 sh_4 rfl) ?_
      refine mm_Ebn (fun _ _ => mm_if_ne 105 dX4_readTest_23 (by decide)) (fun c_23 => ?_) (fun c_23 => ?_)
      · refine mm_Es (fun _ _ => mm_aload_n dX4_readTest_105 rfl rfl) ?_
        refine mm_Es (fun _ _ => mm_getR dX4_readTest_106 fX4_18 sh_18 rfl a3) ?_
        refine mm_Es (fun _ _ => mm_iload_n dX4_readTest_109 rfl rfl) ?_
        refine mm_Es (fun _ _ => mm_cV (Y1 := YX3_addSign) dX4_readTest_110 lX4_68 vX3_addSign (M1) (law_i r hr).1 rfl rfl (by simp [Value.category])) ?_
        refine mm_Er (mm_return dX4_readTest_113 rfl) ?_
        exact ⟨rfl, fg.trans f1, E1⟩
      · exact absurd ((nI_eq (b := 0) (by omega) (by omega)).mp (e5.symm.trans c_23)) c0
  have K9 : ∀ k s1 m i gg x4, n - s1.1 ≤ k → lw_fr r h gg → CS B n gg r s1 → m ≤ 1 → zl_J (if m = 0 then 0 else 3) s1 → i < s1.1 → ∀ f1, n + 3 * (n - s1.1) + 4 ≤ f1 → mm_E (d + 2) YX4_readTest 9 [some (.ref 18), some (.int (nI dep)), some (.int (nI (if m = 0 then 0 else 32))), some (.int (nI i)), x4] [] gg (fun v g => v = none ∧ lw_fr r h g ∧ CR B n g r (zl_x B n f1 (m + 2) dep s1)) := by
    intro k
    induction k using Nat.strongRecOn with
    | _ k ih =>
    intro s1 m i gg x4 hm fg Sg hm1 hJ1 hi f1 hf1
    have hle1 := Sg.1.le
    have hv1 := Sg.2.2.2.2.2
    have hl1 := zl_J_len hn hle1 hv1 hJ1
    have kb := kd_lt B n s1.1
    have a3 := Sg.2.2.1
    have e5 := Sg.f5
    have M1 := mX8_kind (d + 1) gg B n s1.1 0 Sg.1
    obtain ⟨f1, rfl⟩ : ∃ k, f1 = k + 1 := ⟨f1 - 1, by omega⟩
    obtain ⟨w, ew⟩ : ∃ w, w = (if m = 0 then 0 else 32) := ⟨_, rfl⟩
    have hw : w < 100 := by rw [ew]; split <;> omega
    have hJw : zl_J (if w = 0 then 0 else 3) s1 := by
      by_cases z : m = 0
      · rw [if_pos z] at hJ1 ew; rw [if_pos ew]; exact hJ1
      · rw [if_neg z] at hJ1 ew; rw [if_neg (by omega)]; exact hJ1
    have ex : zl_x B n (f1 + 1) (m + 2) dep s1 = if kd B n s1.1 = 31 then zl_b (zl_x B n f1 0 dep (zl_a B n s1)) (fun s2 => zl_x B n f1 (m + 2) dep (zl_e 31 s2)) else if kd B n s1.1 = 32 then zl_b (zl_x B n f1 0 dep (zl_a B n (zl_e0 w s1))) (fun s2 => zl_x B n f1 3 dep s2) else .ok (zl_e0 w s1) := by rw [ew]; simp only [zl_x]
    rw [ex, ← ew]
    by_cases hk : kd B n s1.1 = 31 ∨ kd B n s1.1 = 32
    · obtain ⟨ad1, ad2, ad3⟩ := zl_a_bd (B := B) (s := s1) hle1 (by omega)
      obtain ⟨g1, MS, t1, fs⟩ := mX8_step (d + 1) gg B n s1.1 0 Sg.1
      have S1 : CS B n g1 r (zl_a B n s1) := CS_4 Sg fs t1
      by_cases k31 : kd B n s1.1 = 31
      · rw [if_pos k31]
        have J1 := ad3 _ hJ1
        obtain ⟨g3, M3, f3, R3⟩ := hF g1 (zl_a B n s1) S1 (zl_J_le J1 (by omega)) f1 (by omega)
        have fA := (fg.trans (lw_4 fs)).trans f3
        cases e : zl_x B n f1 0 dep (zl_a B n s1) with
        | error c =>
          rw [e] at R3
          rw [zl_b_e]
          obtain ⟨g4, M4, f4, E4⟩ := mX3_addSign_x (d + 1) g3 B n r c hr R3 (kd B n s1.1) kb
          have a33 := R3.2.2.2.1
          have K := KE g4 w (nI (i + 1)) (some (.int (nI (kd B n s1.1)))) c hw (fA.trans f4) E4
          refine mm_Es (fun _ _ => mm_iload_n dX4_readTest_9 rfl rfl) ?_
          refine mm_Es (fun _ _ => mm_sipush (x := 400) dX4_readTest_10 (by decide)) ?_
          refine mm_Eb (fun _ _ => mm_icmp_ge 105 dX4_readTest_13 (by decide)) (fun c_13 => ?_) (fun c_13 => ?_)
          · exact absurd c_13 (nI_ge (b := 400) (by omega) (by omega))
          · refine mm_Es (fun _ _ => mm_aload_n dX4_readTest_16 rfl rfl) ?_
            refine mm_Es (fun _ _ => mm_getS dX4_readTest_17 fX4_9 sh_18 rfl gr_18_0) ?_
            refine mm_Es (fun _ _ => mm_getI dX4_readTest_20 fX4_29 sh_4 rfl) ?_
            refine mm_Ebn (fun _ _ => mm_if_ne 105 dX4_readTest_23 (by decide)) (fun c_23 => ?_) (fun c_23 => ?_)
            · exact absurd e5 c_23
            · refine mm_Es (fun _ _ => mm_aload_n dX4_readTest_26 rfl rfl) ?_
              refine mm_Es (fun _ _ => mm_getS dX4_readTest_27 fX4_9 sh_18 rfl gr_18_0) ?_
              refine mm_Es (fun _ _ => mm_cV (Y1 := YX8_kind) dX4_readTest_30 lX4_37 vX8_kind (M1) sh_4 rfl rfl (by simp [Value.category])) ?_
              refine mm_Es (fun _ _ => mm_istore dX4_readTest_33 (by decide) rfl) ?_
              refine mm_Es (fun _ _ => mm_iload dX4_readTest_35 rfl) ?_
              refine mm_Es (fun _ _ => mm_bipush (x := 31) dX4_readTest_37 (by decide)) ?_
              refine mm_Eb (fun _ _ => mm_icmp_eq 52 dX4_readTest_39 (by decide)) (fun c_39 => ?_) (fun c_39 => ?_)
              · refine mm_Es (fun _ _ => mm_aload_n dX4_readTest_52 rfl rfl) ?_
                refine mm_Es (fun _ _ => mm_getS dX4_readTest_53 fX4_9 sh_18 rfl gr_18_0) ?_
                refine mm_Es (fun _ _ => mm_cV (Y1 := YX8_step) dX4_readTest_56 lX4_41 vX8_step (MS) sh_4 rfl rfl (by simp [Value.category])) ?_
                refine mm_Es (fun _ _ => mm_iload dX4_readTest_59 rfl) ?_
                refine mm_Es (fun _ _ => mm_bipush (x := 32) dX4_readTest_61 (by decide)) ?_
                refine mm_Ebn (fun _ _ => mm_icmp_ne 85 dX4_readTest_63 (by decide)) (fun c_63 => ?_) (fun c_63 => ?_)
                · refine mm_Es (fun _ _ => mm_aload_n dX4_readTest_85 rfl rfl) ?_
                  refine mm_Es (fun _ _ => mm_iload_n dX4_readTest_86 rfl rfl) ?_
                  refine mm_Es (fun _ _ => mm_cV (Y1 := YX4_readFact) dX4_readTest_87 lX4_77 vX4_readFact (M3) sh_18 rfl rfl (by simp [Value.category])) ?_
                  refine mm_Es (fun _ _ => mm_aload_n dX4_readTest_90 rfl rfl) ?_
                  refine mm_Es (fun _ _ => mm_getR dX4_readTest_91 fX4_18 sh_18 rfl a33) ?_
                  refine mm_Es (fun _ _ => mm_iload dX4_readTest_94 rfl) ?_
                  refine mm_Es (fun _ _ => mm_cV (Y1 := YX3_addSign) dX4_readTest_96 lX4_68 vX3_addSign (M4) (law_i r hr).1 rfl rfl (by simp [Value.category])) ?_
                  refine mm_Es (fun _ _ => mm_iinc dX4_readTest_99 rfl (nI_inc i) rfl) ?_
                  refine mm_Es (fun _ _ => mm_goto 9 dX4_readTest_102 (by decide)) ?_
                  exact K
                · exact absurd ((nI_eq (b := 32) (by omega) (by omega)).mp c_63) (by omega)
              · refine mm_Es (fun _ _ => mm_iload dX4_readTest_42 rfl) ?_
                refine mm_Es (fun _ _ => mm_bipush (x := 32) dX4_readTest_44 (by decide)) ?_
                refine mm_Eb (fun _ _ => mm_icmp_eq 52 dX4_readTest_46 (by decide)) (fun c_46 => ?_) (fun c_46 => ?_)
                · refine mm_Es (fun _ _ => mm_aload_n dX4_readTest_52 rfl rfl) ?_
                  refine mm_Es (fun _ _ => mm_getS dX4_readTest_53 fX4_9 sh_18 rfl gr_18_0) ?_
                  refine mm_Es (fun _ _ => mm_cV (Y1 := YX8_step) dX4_readTest_56 lX4_41 vX8_step (MS) sh_4 rfl rfl (by simp [Value.category])) ?_
                  refine mm_Es (fun _ _ => mm_iload dX4_readTest_59 rfl) ?_
                  refine mm_Es (fun _ _ => mm_bipush (x := 32) dX4_readTest_61 (by decide)) ?_
                  refine mm_Ebn (fun _ _ => mm_icmp_ne 85 dX4_readTest_63 (by decide)) (fun c_63 => ?_) (fun c_63 => ?_)
                  · refine mm_Es (fun _ _ => mm_aload_n dX4_readTest_85 rfl rfl) ?_
                    refine mm_Es (fun _ _ => mm_iload_n dX4_readTest_86 rfl rfl) ?_
                    refine mm_Es (fun _ _ => mm_cV (Y1 := YX4_readFact) dX4_readTest_87 lX4_77 vX4_readFact (M3) sh_18 rfl rfl (by simp [Value.category])) ?_
                    refine mm_Es (fun _ _ => mm_aload_n dX4_readTest_90 rfl rfl) ?_
                    refine mm_Es (fun _ _ => mm_getR dX4_readTest_91 fX4_18 sh_18 rfl a33) ?_
                    refine mm_Es (fun _ _ => mm_iload dX4_readTest_94 rfl) ?_
                    refine mm_Es (fun _ _ => mm_cV (Y1 := YX3_addSign) dX4_readTest_96 lX4_68 vX3_addSign (M4) (law_i r hr).1 rfl rfl (by simp [Value.category])) ?_
                    refine mm_Es (fun _ _ => mm_iinc dX4_readTest_99 rfl (nI_inc i) rfl) ?_
                    refine mm_Es (fun _ _ => mm_goto 9 dX4_readTest_102 (by decide)) ?_
                    exact K
                  · exact absurd ((nI_eq (b := 32) (by omega) (by omega)).mp c_63) (by omega)
                · exact absurd hk (fun z => z.elim (fun q => absurd (by rw [q]; rfl) c_39) (fun q => absurd (by rw [q]; rfl) c_46))
        | ok s3 =>
          rw [e] at R3
          rw [zl_b_k]
          obtain ⟨q1, q2, q3, q4⟩ := (zl_x_fwd f1).1 _ _ _ ad1 hv1 e
          have J3 := q4 _ J1
          have hl3 := zl_J_len hn q1 q3 J3
          obtain ⟨g4, M4, f4, S4⟩ := mX3_addSign_w (d + 1) g3 B n r hr s3 R3 (by omega) (kd B n s1.1) kb
          have ek : zl_e0 (kd B n s1.1) s3 = zl_e 31 s3 := by unfold zl_e0; rw [if_neg (by omega), k31]
          rw [ek] at S4
          have a33 := R3.2.2.1
          have K := ih (n - s3.1) (by omega) (zl_e 31 s3) m (i + 1) g4 (some (.int (nI (kd B n s1.1)))) (Nat.le_refl _) (fA.trans f4) S4 hm1 (zl_e_J (zl_J_le J3 (by omega))) (by show i + 1 < s3.1; omega) f1 (by show n + 3 * (n - s3.1) + 4 ≤ f1; omega)
          rw [← ew] at K
          refine mm_Es (fun _ _ => mm_iload_n dX4_readTest_9 rfl rfl) ?_
          refine mm_Es (fun _ _ => mm_sipush (x := 400) dX4_readTest_10 (by decide)) ?_
          refine mm_Eb (fun _ _ => mm_icmp_ge 105 dX4_readTest_13 (by decide)) (fun c_13 => ?_) (fun c_13 => ?_)
          · exact absurd c_13 (nI_ge (b := 400) (by omega) (by omega))
          · refine mm_Es (fun _ _ => mm_aload_n dX4_readTest_16 rfl rfl) ?_
            refine mm_Es (fun _ _ => mm_getS dX4_readTest_17 fX4_9 sh_18 rfl gr_18_0) ?_
            refine mm_Es (fun _ _ => mm_getI dX4_readTest_20 fX4_29 sh_4 rfl) ?_
            refine mm_Ebn (fun _ _ => mm_if_ne 105 dX4_readTest_23 (by decide)) (fun c_23 => ?_) (fun c_23 => ?_)
            · exact absurd e5 c_23
            · refine mm_Es (fun _ _ => mm_aload_n dX4_readTest_26 rfl rfl) ?_
              refine mm_Es (fun _ _ => mm_getS dX4_readTest_27 fX4_9 sh_18 rfl gr_18_0) ?_
              refine mm_Es (fun _ _ => mm_cV (Y1 := YX8_kind) dX4_readTest_30 lX4_37 vX8_kind (M1) sh_4 rfl rfl (by simp [Value.category])) ?_
              refine mm_Es (fun _ _ => mm_istore dX4_readTest_33 (by decide) rfl) ?_
              refine mm_Es (fun _ _ => mm_iload dX4_readTest_35 rfl) ?_
              refine mm_Es (fun _ _ => mm_bipush (x := 31) dX4_readTest_37 (by decide)) ?_
              refine mm_Eb (fun _ _ => mm_icmp_eq 52 dX4_readTest_39 (by decide)) (fun c_39 => ?_) (fun c_39 => ?_)
              · refine mm_Es (fun _ _ => mm_aload_n dX4_readTest_52 rfl rfl) ?_
                refine mm_Es (fun _ _ => mm_getS dX4_readTest_53 fX4_9 sh_18 rfl gr_18_0) ?_
                refine mm_Es (fun _ _ => mm_cV (Y1 := YX8_step) dX4_readTest_56 lX4_41 vX8_step (MS) sh_4 rfl rfl (by simp [Value.category])) ?_
                refine mm_Es (fun _ _ => mm_iload dX4_readTest_59 rfl) ?_
                refine mm_Es (fun _ _ => mm_bipush (x := 32) dX4_readTest_61 (by decide)) ?_
                refine mm_Ebn (fun _ _ => mm_icmp_ne 85 dX4_readTest_63 (by decide)) (fun c_63 => ?_) (fun c_63 => ?_)
                · refine mm_Es (fun _ _ => mm_aload_n dX4_readTest_85 rfl rfl) ?_
                  refine mm_Es (fun _ _ => mm_iload_n dX4_readTest_86 rfl rfl) ?_
                  refine mm_Es (fun _ _ => mm_cV (Y1 := YX4_readFact) dX4_readTest_87 lX4_77 vX4_readFact (M3) sh_18 rfl rfl (by simp [Value.category])) ?_
                  refine mm_Es (fun _ _ => mm_aload_n dX4_readTest_90 rfl rfl) ?_
                  refine mm_Es (fun _ _ => mm_getR dX4_readTest_91 fX4_18 sh_18 rfl a33) ?_
                  refine mm_Es (fun _ _ => mm_iload dX4_readTest_94 rfl) ?_
                  refine mm_Es (fun _ _ => mm_cV (Y1 := YX3_addSign) dX4_readTest_96 lX4_68 vX3_addSign (M4) (law_i r hr).1 rfl rfl (by simp [Value.category])) ?_
                  refine mm_Es (fun _ _ => mm_iinc dX4_readTest_99 rfl (nI_inc i) rfl) ?_
                  refine mm_Es (fun _ _ => mm_goto 9 dX4_readTest_102 (by decide)) ?_
                  exact K
                · exact absurd ((nI_eq (b := 32) (by omega) (by omega)).mp c_63) (by omega)
              · refine mm_Es (fun _ _ => mm_iload dX4_readTest_42 rfl) ?_
                refine mm_Es (fun _ _ => mm_bipush (x := 32) dX4_readTest_44 (by decide)) ?_
                refine mm_Eb (fun _ _ => mm_icmp_eq 52 dX4_readTest_46 (by decide)) (fun c_46 => ?_) (fun c_46 => ?_)
                · refine mm_Es (fun _ _ => mm_aload_n dX4_readTest_52 rfl rfl) ?_
                  refine mm_Es (fun _ _ => mm_getS dX4_readTest_53 fX4_9 sh_18 rfl gr_18_0) ?_
                  refine mm_Es (fun _ _ => mm_cV (Y1 := YX8_step) dX4_readTest_56 lX4_41 vX8_step (MS) sh_4 rfl rfl (by simp [Value.category])) ?_
                  refine mm_Es (fun _ _ => mm_iload dX4_readTest_59 rfl) ?_
                  refine mm_Es (fun _ _ => mm_bipush (x := 32) dX4_readTest_61 (by decide)) ?_
                  refine mm_Ebn (fun _ _ => mm_icmp_ne 85 dX4_readTest_63 (by decide)) (fun c_63 => ?_) (fun c_63 => ?_)
                  · refine mm_Es (fun _ _ => mm_aload_n dX4_readTest_85 rfl rfl) ?_
                    refine mm_Es (fun _ _ => mm_iload_n dX4_readTest_86 rfl rfl) ?_
                    refine mm_Es (fun _ _ => mm_cV (Y1 := YX4_readFact) dX4_readTest_87 lX4_77 vX4_readFact (M3) sh_18 rfl rfl (by simp [Value.category])) ?_
                    refine mm_Es (fun _ _ => mm_aload_n dX4_readTest_90 rfl rfl) ?_
                    refine mm_Es (fun _ _ => mm_getR dX4_readTest_91 fX4_18 sh_18 rfl a33) ?_
                    refine mm_Es (fun _ _ => mm_iload dX4_readTest_94 rfl) ?_
                    refine mm_Es (fun _ _ => mm_cV (Y1 := YX3_addSign) dX4_readTest_96 lX4_68 vX3_addSign (M4) (law_i r hr).1 rfl rfl (by simp [Value.category])) ?_
                    refine mm_Es (fun _ _ => mm_iinc dX4_readTest_99 rfl (nI_inc i) rfl) ?_
                    refine mm_Es (fun _ _ => mm_goto 9 dX4_readTest_102 (by decide)) ?_
                    exact K
                  · exact absurd ((nI_eq (b := 32) (by omega) (by omega)).mp c_63) (by omega)
                · exact absurd hk (fun z => z.elim (fun q => absurd (by rw [q]; rfl) c_39) (fun q => absurd (by rw [q]; rfl) c_46))
      · have k32 : kd B n s1.1 = 32 := by omega
        rw [if_neg k31, if_pos k32, zl_a_em0]
        obtain ⟨g2, M2, f2', S2⟩ := mX3_addSign_w (d + 1) g1 B n r hr (zl_a B n s1) S1 (by show s1.2.2.length < 400; omega) w hw
        have J2 : zl_J 1 (zl_e0 w (zl_a B n s1)) := zl_e0_J (by have := ad3 _ hJw; rw [Nat.add_comm 1]; exact this)
        obtain ⟨p2, v2⟩ : (zl_e0 w (zl_a B n s1)).1 = (zl_a B n s1).1 ∧ (zl_e0 w (zl_a B n s1)).2.1 = s1.2.1 := by unfold zl_e0; split <;> exact ⟨rfl, rfl⟩
        obtain ⟨g3, M3, f3, R3⟩ := hF g2 (zl_e0 w (zl_a B n s1)) S2 (zl_J_le J2 (by omega)) f1 (by rw [p2]; omega)
        have fA := (fg.trans (lw_4 fs)).trans (f2'.trans f3)
        cases e : zl_x B n f1 0 dep (zl_e0 w (zl_a B n s1)) with
        | error c =>
          rw [e] at R3
          rw [zl_b_e]
          have K := KE g3 (kd B n s1.1) (nI (i + 1)) (some (.int (nI (kd B n s1.1)))) c kb fA R3
          refine mm_Es (fun _ _ => mm_iload_n dX4_readTest_9 rfl rfl) ?_
          refine mm_Es (fun _ _ => mm_sipush (x := 400) dX4_readTest_10 (by decide)) ?_
          refine mm_Eb (fun _ _ => mm_icmp_ge 105 dX4_readTest_13 (by decide)) (fun c_13 => ?_) (fun c_13 => ?_)
          · exact absurd c_13 (nI_ge (b := 400) (by omega) (by omega))
          · refine mm_Es (fun _ _ => mm_aload_n dX4_readTest_16 rfl rfl) ?_
            refine mm_Es (fun _ _ => mm_getS dX4_readTest_17 fX4_9 sh_18 rfl gr_18_0) ?_
            refine mm_Es (fun _ _ => mm_getI dX4_readTest_20 fX4_29 sh_4 rfl) ?_
            refine mm_Ebn (fun _ _ => mm_if_ne 105 dX4_readTest_23 (by decide)) (fun c_23 => ?_) (fun c_23 => ?_)
            · exact absurd e5 c_23
            · refine mm_Es (fun _ _ => mm_aload_n dX4_readTest_26 rfl rfl) ?_
              refine mm_Es (fun _ _ => mm_getS dX4_readTest_27 fX4_9 sh_18 rfl gr_18_0) ?_
              refine mm_Es (fun _ _ => mm_cV (Y1 := YX8_kind) dX4_readTest_30 lX4_37 vX8_kind (M1) sh_4 rfl rfl (by simp [Value.category])) ?_
              refine mm_Es (fun _ _ => mm_istore dX4_readTest_33 (by decide) rfl) ?_
              refine mm_Es (fun _ _ => mm_iload dX4_readTest_35 rfl) ?_
              refine mm_Es (fun _ _ => mm_bipush (x := 31) dX4_readTest_37 (by decide)) ?_
              refine mm_Eb (fun _ _ => mm_icmp_eq 52 dX4_readTest_39 (by decide)) (fun c_39 => ?_) (fun c_39 => ?_)
              · refine mm_Es (fun _ _ => mm_aload_n dX4_readTest_52 rfl rfl) ?_
                refine mm_Es (fun _ _ => mm_getS dX4_readTest_53 fX4_9 sh_18 rfl gr_18_0) ?_
                refine mm_Es (fun _ _ => mm_cV (Y1 := YX8_step) dX4_readTest_56 lX4_41 vX8_step (MS) sh_4 rfl rfl (by simp [Value.category])) ?_
                refine mm_Es (fun _ _ => mm_iload dX4_readTest_59 rfl) ?_
                refine mm_Es (fun _ _ => mm_bipush (x := 32) dX4_readTest_61 (by decide)) ?_
                refine mm_Ebn (fun _ _ => mm_icmp_ne 85 dX4_readTest_63 (by decide)) (fun c_63 => ?_) (fun c_63 => ?_)
                · exact absurd (by rw [k32]; rfl) c_63
                · refine mm_Es (fun _ _ => mm_aload_n dX4_readTest_66 rfl rfl) ?_
                  refine mm_Es (fun _ _ => mm_getR dX4_readTest_67 fX4_18 sh_18 rfl S1.2.2.1) ?_
                  refine mm_Es (fun _ _ => mm_iload_n dX4_readTest_70 rfl rfl) ?_
                  refine mm_Es (fun _ _ => mm_cV (Y1 := YX3_addSign) dX4_readTest_71 lX4_68 vX3_addSign (M2) (law_i r hr).1 rfl rfl (by simp [Value.category])) ?_
                  refine mm_Es (fun _ _ => mm_iload dX4_readTest_74 rfl) ?_
                  refine mm_Es (fun _ _ => mm_istore_n dX4_readTest_76 rfl (by decide) rfl) ?_
                  refine mm_Es (fun _ _ => mm_aload_n dX4_readTest_77 rfl rfl) ?_
                  refine mm_Es (fun _ _ => mm_iload_n dX4_readTest_78 rfl rfl) ?_
                  refine mm_Es (fun _ _ => mm_cV (Y1 := YX4_readFact) dX4_readTest_79 lX4_77 vX4_readFact (M3) sh_18 rfl rfl (by simp [Value.category])) ?_
                  refine mm_Es (fun _ _ => mm_goto 99 dX4_readTest_82 (by decide)) ?_
                  refine mm_Es (fun _ _ => mm_iinc dX4_readTest_99 rfl (nI_inc i) rfl) ?_
                  refine mm_Es (fun _ _ => mm_goto 9 dX4_readTest_102 (by decide)) ?_
                  exact K
              · refine mm_Es (fun _ _ => mm_iload dX4_readTest_42 rfl) ?_
                refine mm_Es (fun _ _ => mm_bipush (x := 32) dX4_readTest_44 (by decide)) ?_
                refine mm_Eb (fun _ _ => mm_icmp_eq 52 dX4_readTest_46 (by decide)) (fun c_46 => ?_) (fun c_46 => ?_)
                · refine mm_Es (fun _ _ => mm_aload_n dX4_readTest_52 rfl rfl) ?_
                  refine mm_Es (fun _ _ => mm_getS dX4_readTest_53 fX4_9 sh_18 rfl gr_18_0) ?_
                  refine mm_Es (fun _ _ => mm_cV (Y1 := YX8_step) dX4_readTest_56 lX4_41 vX8_step (MS) sh_4 rfl rfl (by simp [Value.category])) ?_
                  refine mm_Es (fun _ _ => mm_iload dX4_readTest_59 rfl) ?_
                  refine mm_Es (fun _ _ => mm_bipush (x := 32) dX4_readTest_61 (by decide)) ?_
                  refine mm_Ebn (fun _ _ => mm_icmp_ne 85 dX4_readTest_63 (by decide)) (fun c_63 => ?_) (fun c_63 => ?_)
                  · exact absurd (by rw [k32]; rfl) c_63
                  · refine mm_Es (fun _ _ => mm_aload_n dX4_readTest_66 rfl rfl) ?_
                    refine mm_Es (fun _ _ => mm_getR dX4_readTest_67 fX4_18 sh_18 rfl S1.2.2.1) ?_
                    refine mm_Es (fun _ _ => mm_iload_n dX4_readTest_70 rfl rfl) ?_
                    refine mm_Es (fun _ _ => mm_cV (Y1 := YX3_addSign) dX4_readTest_71 lX4_68 vX3_addSign (M2) (law_i r hr).1 rfl rfl (by simp [Value.category])) ?_
                    refine mm_Es (fun _ _ => mm_iload dX4_readTest_74 rfl) ?_
                    refine mm_Es (fun _ _ => mm_istore_n dX4_readTest_76 rfl (by decide) rfl) ?_
                    refine mm_Es (fun _ _ => mm_aload_n dX4_readTest_77 rfl rfl) ?_
                    refine mm_Es (fun _ _ => mm_iload_n dX4_readTest_78 rfl rfl) ?_
                    refine mm_Es (fun _ _ => mm_cV (Y1 := YX4_readFact) dX4_readTest_79 lX4_77 vX4_readFact (M3) sh_18 rfl rfl (by simp [Value.category])) ?_
                    refine mm_Es (fun _ _ => mm_goto 99 dX4_readTest_82 (by decide)) ?_
                    refine mm_Es (fun _ _ => mm_iinc dX4_readTest_99 rfl (nI_inc i) rfl) ?_
                    refine mm_Es (fun _ _ => mm_goto 9 dX4_readTest_102 (by decide)) ?_
                    exact K
                · exact absurd hk (fun z => z.elim (fun q => absurd (by rw [q]; rfl) c_39) (fun q => absurd (by rw [q]; rfl) c_46))
        | ok s3 =>
          rw [e] at R3
          rw [zl_b_k]
          obtain ⟨q1, q2, q3, q4⟩ := (zl_x_fwd f1).1 _ _ _ (by rw [p2]; exact ad1) (by rw [v2]; exact hv1) e
          rw [p2] at q2
          have K := ih (n - s3.1) (by omega) s3 1 (i + 1) g3 (some (.int (nI (kd B n s1.1)))) (Nat.le_refl _) fA R3 (Nat.le_refl _) (zl_J_le (q4 _ J2) (by rw [if_neg (by decide)]; omega)) (by omega) f1 (by omega)
          rw [if_neg (by decide), ← k32] at K
          refine mm_Es (fun _ _ => mm_iload_n dX4_readTest_9 rfl rfl) ?_
          refine mm_Es (fun _ _ => mm_sipush (x := 400) dX4_readTest_10 (by decide)) ?_
          refine mm_Eb (fun _ _ => mm_icmp_ge 105 dX4_readTest_13 (by decide)) (fun c_13 => ?_) (fun c_13 => ?_)
          · exact absurd c_13 (nI_ge (b := 400) (by omega) (by omega))
          · refine mm_Es (fun _ _ => mm_aload_n dX4_readTest_16 rfl rfl) ?_
            refine mm_Es (fun _ _ => mm_getS dX4_readTest_17 fX4_9 sh_18 rfl gr_18_0) ?_
            refine mm_Es (fun _ _ => mm_getI dX4_readTest_20 fX4_29 sh_4 rfl) ?_
            refine mm_Ebn (fun _ _ => mm_if_ne 105 dX4_readTest_23 (by decide)) (fun c_23 => ?_) (fun c_23 => ?_)
            · exact absurd e5 c_23
            · refine mm_Es (fun _ _ => mm_aload_n dX4_readTest_26 rfl rfl) ?_
              refine mm_Es (fun _ _ => mm_getS dX4_readTest_27 fX4_9 sh_18 rfl gr_18_0) ?_
              refine mm_Es (fun _ _ => mm_cV (Y1 := YX8_kind) dX4_readTest_30 lX4_37 vX8_kind (M1) sh_4 rfl rfl (by simp [Value.category])) ?_
              refine mm_Es (fun _ _ => mm_istore dX4_readTest_33 (by decide) rfl) ?_
              refine mm_Es (fun _ _ => mm_iload dX4_readTest_35 rfl) ?_
              refine mm_Es (fun _ _ => mm_bipush (x := 31) dX4_readTest_37 (by decide)) ?_
              refine mm_Eb (fun _ _ => mm_icmp_eq 52 dX4_readTest_39 (by decide)) (fun c_39 => ?_) (fun c_39 => ?_)
              · refine mm_Es (fun _ _ => mm_aload_n dX4_readTest_52 rfl rfl) ?_
                refine mm_Es (fun _ _ => mm_getS dX4_readTest_53 fX4_9 sh_18 rfl gr_18_0) ?_
                refine mm_Es (fun _ _ => mm_cV (Y1 := YX8_step) dX4_readTest_56 lX4_41 vX8_step (MS) sh_4 rfl rfl (by simp [Value.category])) ?_
                refine mm_Es (fun _ _ => mm_iload dX4_readTest_59 rfl) ?_
                refine mm_Es (fun _ _ => mm_bipush (x := 32) dX4_readTest_61 (by decide)) ?_
                refine mm_Ebn (fun _ _ => mm_icmp_ne 85 dX4_readTest_63 (by decide)) (fun c_63 => ?_) (fun c_63 => ?_)
                · exact absurd (by rw [k32]; rfl) c_63
                · refine mm_Es (fun _ _ => mm_aload_n dX4_readTest_66 rfl rfl) ?_
                  refine mm_Es (fun _ _ => mm_getR dX4_readTest_67 fX4_18 sh_18 rfl S1.2.2.1) ?_
                  refine mm_Es (fun _ _ => mm_iload_n dX4_readTest_70 rfl rfl) ?_
                  refine mm_Es (fun _ _ => mm_cV (Y1 := YX3_addSign) dX4_readTest_71 lX4_68 vX3_addSign (M2) (law_i r hr).1 rfl rfl (by simp [Value.category])) ?_
                  refine mm_Es (fun _ _ => mm_iload dX4_readTest_74 rfl) ?_
                  refine mm_Es (fun _ _ => mm_istore_n dX4_readTest_76 rfl (by decide) rfl) ?_
                  refine mm_Es (fun _ _ => mm_aload_n dX4_readTest_77 rfl rfl) ?_
                  refine mm_Es (fun _ _ => mm_iload_n dX4_readTest_78 rfl rfl) ?_
                  refine mm_Es (fun _ _ => mm_cV (Y1 := YX4_readFact) dX4_readTest_79 lX4_77 vX4_readFact (M3) sh_18 rfl rfl (by simp [Value.category])) ?_
                  refine mm_Es (fun _ _ => mm_goto 99 dX4_readTest_82 (by decide)) ?_
                  refine mm_Es (fun _ _ => mm_iinc dX4_readTest_99 rfl (nI_inc i) rfl) ?_
                  refine mm_Es (fun _ _ => mm_goto 9 dX4_readTest_102 (by decide)) ?_
                  exact K
              · refine mm_Es (fun _ _ => mm_iload dX4_readTest_42 rfl) ?_
                refine mm_Es (fun _ _ => mm_bipush (x := 32) dX4_readTest_44 (by decide)) ?_
                refine mm_Eb (fun _ _ => mm_icmp_eq 52 dX4_readTest_46 (by decide)) (fun c_46 => ?_) (fun c_46 => ?_)
                · refine mm_Es (fun _ _ => mm_aload_n dX4_readTest_52 rfl rfl) ?_
                  refine mm_Es (fun _ _ => mm_getS dX4_readTest_53 fX4_9 sh_18 rfl gr_18_0) ?_
                  refine mm_Es (fun _ _ => mm_cV (Y1 := YX8_step) dX4_readTest_56 lX4_41 vX8_step (MS) sh_4 rfl rfl (by simp [Value.category])) ?_
                  refine mm_Es (fun _ _ => mm_iload dX4_readTest_59 rfl) ?_
                  refine mm_Es (fun _ _ => mm_bipush (x := 32) dX4_readTest_61 (by decide)) ?_
                  refine mm_Ebn (fun _ _ => mm_icmp_ne 85 dX4_readTest_63 (by decide)) (fun c_63 => ?_) (fun c_63 => ?_)
                  · exact absurd (by rw [k32]; rfl) c_63
                  · refine mm_Es (fun _ _ => mm_aload_n dX4_readTest_66 rfl rfl) ?_
                    refine mm_Es (fun _ _ => mm_getR dX4_readTest_67 fX4_18 sh_18 rfl S1.2.2.1) ?_
                    refine mm_Es (fun _ _ => mm_iload_n dX4_readTest_70 rfl rfl) ?_
                    refine mm_Es (fun _ _ => mm_cV (Y1 := YX3_addSign) dX4_readTest_71 lX4_68 vX3_addSign (M2) (law_i r hr).1 rfl rfl (by simp [Value.category])) ?_
                    refine mm_Es (fun _ _ => mm_iload dX4_readTest_74 rfl) ?_
                    refine mm_Es (fun _ _ => mm_istore_n dX4_readTest_76 rfl (by decide) rfl) ?_
                    refine mm_Es (fun _ _ => mm_aload_n dX4_readTest_77 rfl rfl) ?_
                    refine mm_Es (fun _ _ => mm_iload_n dX4_readTest_78 rfl rfl) ?_
                    refine mm_Es (fun _ _ => mm_cV (Y1 := YX4_readFact) dX4_readTest_79 lX4_77 vX4_readFact (M3) sh_18 rfl rfl (by simp [Value.category])) ?_
                    refine mm_Es (fun _ _ => mm_goto 99 dX4_readTest_82 (by decide)) ?_
                    refine mm_Es (fun _ _ => mm_iinc dX4_readTest_99 rfl (nI_inc i) rfl) ?_
                    refine mm_Es (fun _ _ => mm_goto 9 dX4_readTest_102 (by decide)) ?_
                    exact K
                · exact absurd hk (fun z => z.elim (fun q => absurd (by rw [q]; rfl) c_39) (fun q => absurd (by rw [q]; rfl) c_46))
    · rw [if_neg (by omega), if_neg (by omega)]
      obtain ⟨g2, M2, f2', S2⟩ := mX3_addSign_w (d + 1) gg B n r hr s1 Sg (by omega) w hw
      refine mm_Es (fun _ _ => mm_iload_n dX4_readTest_9 rfl rfl) ?_
      refine mm_Es (fun _ _ => mm_sipush (x := 400) dX4_readTest_10 (by decide)) ?_
      refine mm_Eb (fun _ _ => mm_icmp_ge 105 dX4_readTest_13 (by decide)) (fun c_13 => ?_) (fun c_13 => ?_)
      · exact absurd c_13 (nI_ge (b := 400) (by omega) (by omega))
      · refine mm_Es (fun _ _ => mm_aload_n dX4_readTest_16 rfl rfl) ?_
        refine mm_Es (fun _ _ => mm_getS dX4_readTest_17 fX4_9 sh_18 rfl gr_18_0) ?_
        refine mm_Es (fun _ _ => mm_getI dX4_readTest_20 fX4_29 sh_4 rfl) ?_
        refine mm_Ebn (fun _ _ => mm_if_ne 105 dX4_readTest_23 (by decide)) (fun c_23 => ?_) (fun c_23 => ?_)
        · exact absurd e5 c_23
        · refine mm_Es (fun _ _ => mm_aload_n dX4_readTest_26 rfl rfl) ?_
          refine mm_Es (fun _ _ => mm_getS dX4_readTest_27 fX4_9 sh_18 rfl gr_18_0) ?_
          refine mm_Es (fun _ _ => mm_cV (Y1 := YX8_kind) dX4_readTest_30 lX4_37 vX8_kind (M1) sh_4 rfl rfl (by simp [Value.category])) ?_
          refine mm_Es (fun _ _ => mm_istore dX4_readTest_33 (by decide) rfl) ?_
          refine mm_Es (fun _ _ => mm_iload dX4_readTest_35 rfl) ?_
          refine mm_Es (fun _ _ => mm_bipush (x := 31) dX4_readTest_37 (by decide)) ?_
          refine mm_Eb (fun _ _ => mm_icmp_eq 52 dX4_readTest_39 (by decide)) (fun c_39 => ?_) (fun c_39 => ?_)
          · exact absurd (Or.inl ((nI_eq (b := 31) (by omega) (by omega)).mp c_39)) hk
          · refine mm_Es (fun _ _ => mm_iload dX4_readTest_42 rfl) ?_
            refine mm_Es (fun _ _ => mm_bipush (x := 32) dX4_readTest_44 (by decide)) ?_
            refine mm_Eb (fun _ _ => mm_icmp_eq 52 dX4_readTest_46 (by decide)) (fun c_46 => ?_) (fun c_46 => ?_)
            · exact absurd (Or.inr ((nI_eq (b := 32) (by omega) (by omega)).mp c_46)) hk
            · refine mm_Es (fun _ _ => mm_goto 105 dX4_readTest_49 (by decide)) ?_
              refine mm_Es (fun _ _ => mm_aload_n dX4_readTest_105 rfl rfl) ?_
              refine mm_Es (fun _ _ => mm_getR dX4_readTest_106 fX4_18 sh_18 rfl a3) ?_
              refine mm_Es (fun _ _ => mm_iload_n dX4_readTest_109 rfl rfl) ?_
              refine mm_Es (fun _ _ => mm_cV (Y1 := YX3_addSign) dX4_readTest_110 lX4_68 vX3_addSign (M2) (law_i r hr).1 rfl rfl (by simp [Value.category])) ?_
              refine mm_Er (mm_return dX4_readTest_113 rfl) ?_
              exact ⟨rfl, fg.trans f2', S2⟩
  obtain ⟨g1, M1, f1, R1⟩ := hF h s S hJ fu (by omega)
  have ex : zl_x B n (fu + 1) 1 dep s = zl_b (zl_x B n fu 0 dep s) (fun s1 => zl_x B n fu 2 dep s1) := by simp only [zl_x]
  rw [ex]
  cases e : zl_x B n fu 0 dep s with
  | error c =>
    rw [e] at R1
    rw [zl_b_e]
    have K := KE g1 0 (nI 0) none c (by decide) f1 R1
    refine mm_Es (fun _ _ => mm_iconst (x := 0) dX4_readTest_0 (by decide)) ?_
    refine mm_Es (fun _ _ => mm_istore_n dX4_readTest_1 rfl (by decide) rfl) ?_
    refine mm_Es (fun _ _ => mm_aload_n dX4_readTest_2 rfl rfl) ?_
    refine mm_Es (fun _ _ => mm_iload_n dX4_readTest_3 rfl rfl) ?_
    refine mm_Es (fun _ _ => mm_cV (Y1 := YX4_readFact) dX4_readTest_4 lX4_77 vX4_readFact (M1) sh_18 rfl rfl (by simp [Value.category])) ?_
    refine mm_Es (fun _ _ => mm_iconst (x := 0) dX4_readTest_7 (by decide)) ?_
    refine mm_Es (fun _ _ => mm_istore_n dX4_readTest_8 rfl (by decide) rfl) ?_
    exact K
  | ok s1 =>
    rw [e] at R1
    rw [zl_b_k]
    obtain ⟨q1, q2, q3, q4⟩ := (zl_x_fwd fu).1 _ _ _ hle hv e
    have K := K9 (n - s1.1) s1 0 0 g1 none (Nat.le_refl _) f1 R1 (by decide) (zl_J_le (q4 _ hJ) (by rw [if_pos rfl]; omega)) (by omega) fu (by omega)
    rw [if_pos rfl] at K
    refine mm_Es (fun _ _ => mm_iconst (x := 0) dX4_readTest_0 (by decide)) ?_
    refine mm_Es (fun _ _ => mm_istore_n dX4_readTest_1 rfl (by decide) rfl) ?_
    refine mm_Es (fun _ _ => mm_aload_n dX4_readTest_2 rfl rfl) ?_
    refine mm_Es (fun _ _ => mm_iload_n dX4_readTest_3 rfl rfl) ?_
    refine mm_Es (fun _ _ => mm_cV (Y1 := YX4_readFact) dX4_readTest_4 lX4_77 vX4_readFact (M1) sh_18 rfl rfl (by simp [Value.category])) ?_
    refine mm_Es (fun _ _ => mm_iconst (x := 0) dX4_readTest_7 (by decide)) ?_
    refine mm_Es (fun _ _ => mm_istore_n dX4_readTest_8 rfl (by decide) rfl) ?_
    exact K
