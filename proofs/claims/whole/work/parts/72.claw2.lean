/-! The class reads a law: sums, the sign of a comparison. -/
theorem zl_J_len {n y : Nat} {s : zl_S} (hn : n ≤ 400) (hp : s.1 ≤ n) (hv : s.2.1 ≤ 60) (h : zl_J y s) : s.2.2.length ≤ 253 := by unfold zl_J at h; omega
theorem zl_a_em0 {B : Nat → Int32} {n w : Nat} {s : zl_S} : zl_a B n (zl_e0 w s) = zl_e0 w (zl_a B n s) := by unfold zl_e0; split <;> rfl
theorem zl_e0_J {w y : Nat} {s : zl_S} (h : zl_J (y + (if w = 0 then 0 else 3)) s) : zl_J y (zl_e0 w s) := by
  unfold zl_e0
  by_cases z : w = 0
  · rw [if_pos z] at h ⊢; exact h
  · rw [if_neg z] at h ⊢; exact zl_e_J h
theorem zl_J_le {a b : Nat} {s : zl_S} (h : zl_J a s) (hb : b ≤ a) : zl_J b s := by unfold zl_J at h ⊢; omega
/-- a sign that waited, written down -/
theorem mX3_addSign_w (d : Nat) (h : mm_H) (B : Nat → Int32) (n r : Nat) (hr : r < 6) (s : zl_S) (S : CS B n h r s) (hl : s.2.2.length < 400) (w : Nat) (hw : w < 100) : ∃ g, mm_M d YX3_addSign [.ref (25 + 6 * r), .int (nI w)] h none g ∧ lw_fr r h g ∧ CS B n g r (zl_e0 w s) := by
  unfold zl_e0
  by_cases z : w = 0
  · rw [if_pos z]
    subst z
    exact ⟨h, mX3_addSign_0 d h r hr, lw_fr.refl r h, S⟩
  · rw [if_neg z]
    have exq : -(nI w) = enc (100000 + w) := by unfold enc; rw [if_neg (by omega), show 100000 + w - 100000 = w by omega]
    obtain ⟨S2, f2⟩ := CS_em hr S exq
    exact ⟨_, mX3_addSign_y d h r hr s.2.2.length S.2.2.2.1 hl w z hw, f2, S2⟩
theorem mX3_addSign_x (d : Nat) (h : mm_H) (B : Nat → Int32) (n r c : Nat) (hr : r < 6) (S : ER B n h r c) (w : Nat) (hw : w < 100) : ∃ g, mm_M d YX3_addSign [.ref (25 + 6 * r), .int (nI w)] h none g ∧ lw_fr r h g ∧ ER B n g r c := by
  obtain ⟨⟨pos, t⟩, c0, c4, a3, l, a4, a5⟩ := S
  obtain ⟨g, l2, M, f1, e1, e2, f2⟩ := mX3_addSign_e d h r hr l a4 a5 w hw
  exact ⟨g, M, f1, ⟨pos, TX_f t f2 (by refine ⟨?_, ?_, ?_, ?_⟩ <;> (simp only [Bool.or_eq_false_iff, beq_eq_false_iff_ne]; omega))⟩, c0, c4, by rw [f2.2]; exact a3, l2, e1, e2⟩
theorem mX8_step_x (d : Nat) (h : mm_H) (B : Nat → Int32) (n r c : Nat) (S : ER B n h r c) : ∃ g, mm_M d YX8_step [.ref 4] h none g ∧ lw_fr r h g ∧ ER B n g r c := by
  obtain ⟨⟨pos, t⟩, c0, c4, a3, l, a4, a5⟩ := S
  obtain ⟨g, M, t2, f2⟩ := mX8_step d h B n pos c t
  exact ⟨g, M, lw_4 f2, ⟨_, t2⟩, c0, c4, by rw [f2.2]; exact a3, l, by rw [f2.i (by simp only [onep, beq_eq_false_iff_ne]; omega)]; exact a4, a5⟩
theorem ER.f5 {B : Nat → Int32} {n r c : Nat} {h : mm_H} (S : ER B n h r c) : h.1 4 5 = nI c := by
  obtain ⟨⟨pos, N, j, a, b, c, e, e2, tb, g1, g2, g3⟩, -⟩ := S
  exact g3
theorem CS.f5 {B : Nat → Int32} {n r : Nat} {h : mm_H} {s : zl_S} (S : CS B n h r s) : h.1 4 5 = 0 := by
  obtain ⟨⟨N, j, a, b, c, e, e2, tb, g1, g2, g3⟩, -⟩ := S
  exact g3
set_option maxRecDepth 100000 in
set_option maxHeartbeats 4000000 in
theorem mX4_readSum (d : Nat) (h : mm_H) (B : Nat → Int32) (n : Nat) (hn : n ≤ 400) (r : Nat) (hr : r < 6) (s : zl_S) (S : CS B n h r s) (hJ : zl_J 0 s) (fu : Nat) (hfu : n < fu) : ∃ g, mm_M (d + 2) YX4_readSum [.ref 18] h none g ∧ lw_fr r h g ∧ CR B n g r (zl_m B n fu s) := by
  suffices hE : mm_E (d + 2) YX4_readSum 0 [some (.ref 18), none, none, none] [] h (fun v g => v = none ∧ lw_fr r h g ∧ CR B n g r (zl_m B n fu s)) by
    obtain ⟨v, g, hR, rfl, h1⟩ := hE
    exact ⟨g, mm_M.of _ rfl rfl (Nat.le_of_ble_eq_true rfl) hR, h1⟩
  have hle := S.1.le
  have KE : ∀ gg w (i : Int32) x3 c, w < 100 → lw_fr r h gg → ER B n gg r c → mm_E (d + 2) YX4_readSum 8 [some (.ref 18), some (.int (nI w)), some (.int i), x3] [] gg (fun v g => v = none ∧ lw_fr r h g ∧ CR B n g r (.error c)) := by
    intro gg w i x3 c hw fg E
    have c0 := E.2.1
    have c4 := E.2.2.1
    have e5 := E.f5
    obtain ⟨g1, M1, f1, E1⟩ := mX3_addSign_x (d + 1) gg B n r c hr E w hw
    have a3 := E.2.2.2.1
    refine mm_Es (fun _ _ => mm_iload_n dX4_readSum_8 rfl rfl) ?_
    refine mm_Es (fun _ _ => mm_sipush (x := 400) dX4_readSum_9 (by decide)) ?_
    refine mm_Eb (fun _ _ => mm_icmp_ge 102 dX4_readSum_12 (by decide)) (fun c_12 => ?_) (fun c_12 => ?_)
    · refine mm_Es (fun _ _ => mm_aload_n dX4_readSum_102 rfl rfl) ?_
      refine mm_Es (fun _ _ => mm_getR dX4_readSum_103 fX4_18 sh_18 rfl a3) ?_
      refine mm_Es (fun _ _ => mm_iload_n dX4_readSum_106 rfl rfl) ?_
      refine mm_Es (fun _ _ => mm_cV (Y1 := YX3_addSign) dX4_readSum_107 lX4_68 vX3_addSign (M1) (law_i r hr).1 rfl rfl (by simp [Value.category])) ?_
      refine mm_Er (mm_return dX4_readSum_110 rfl) ?_
      exact ⟨rfl, fg.trans f1, E1⟩
    · refine mm_Es (fun _ _ => mm_aload_n dX4_readSum_15 rfl rfl) ?_
      refine mm_Es (fun _ _ => mm_getS dX4_readSum_16 fX4_9 sh_18 rfl gr_18_0) ?_
      refine mm_Es (fun _ _ => mm_getI dX4_readSum_19 fX4_29 sh_4 rfl) ?_
      refine mm_Ebn (fun _ _ => mm_if_ne 102 dX4_readSum_22 (by decide)) (fun c_22 => ?_) (fun c_22 => ?_)
      · refine mm_Es (fun _ _ => mm_aload_n dX4_readSum_102 rfl rfl) ?_
        refine mm_Es (fun _ _ => mm_getR dX4_readSum_103 fX4_18 sh_18 rfl a3) ?_
        refine mm_Es (fun _ _ => mm_iload_n dX4_readSum_106 rfl rfl) ?_
        refine mm_Es (fun _ _ => mm_cV (Y1 := YX3_addSign) dX4_readSum_107 lX4_68 vX3_addSign (M1) (law_i r hr).1 rfl rfl (by simp [Value.category])) ?_
        refine mm_Er (mm_return dX4_readSum_110 rfl) ?_
        exact ⟨rfl, fg.trans f1, E1⟩
      · exact absurd ((nI_eq (b := 0) (by omega) (by omega)).mp (e5.symm.trans c_22)) c0
  have K8 : ∀ m s1 w i gg x3, n - s1.1 ≤ m → lw_fr r h gg → CS B n gg r s1 → (w = 0 ∨ w = 6 ∨ w = 7) → zl_J (if w = 0 then 0 else 3) s1 → i < s1.1 → ∀ f1 f2, n - s1.1 < f1 → n - s1.1 < f2 → mm_E (d + 2) YX4_readSum 8 [some (.ref 18), some (.int (nI w)), some (.int (nI i)), x3] [] gg (fun v g => v = none ∧ lw_fr r h g ∧ CR B n g r (zl_b (zl_t B n f1 s1) (fun s2 => zl_s B n f2 (zl_e0 w s2)))) := by
    intro m
    induction m using Nat.strongRecOn with
    | _ m ih =>
    intro s1 w i gg x3 hm fg Sg hw hJ1 hi f1 f2 hf1 hf2
    have hle1 := Sg.1.le
    have hv1 := Sg.2.2.2.2.2
    have hl1 := zl_J_len hn hle1 hv1 hJ1
    have kb := kd_lt B n s1.1
    have a3 := Sg.2.2.1
    have e5 := Sg.f5
    have M1 := mX8_kind (d + 1) gg B n s1.1 0 Sg.1
    obtain ⟨f1, rfl⟩ : ∃ k, f1 = k + 1 := ⟨f1 - 1, by omega⟩
    obtain ⟨f2, rfl⟩ : ∃ k, f2 = k + 1 := ⟨f2 - 1, by omega⟩
    by_cases hk : 6 ≤ kd B n s1.1 ∧ kd B n s1.1 ≤ 10
    · have hpn := kd_pos (B := B) hle1 (by omega)
      obtain ⟨ad1, ad2, ad3⟩ := zl_a_bd (B := B) (s := s1) hle1 (by omega)
      obtain ⟨g1, MS, t1, fs⟩ := mX8_step (d + 1) gg B n s1.1 0 Sg.1
      have S1 : CS B n g1 r (zl_a B n s1) := CS_4 Sg fs t1
      by_cases hp : kd B n s1.1 = 6 ∨ kd B n s1.1 = 7
      · have eT : zl_t B n (f1 + 1) s1 = .ok s1 := by simp only [zl_t]; rw [if_neg (by omega)]
        have eS : zl_s B n (f2 + 1) (zl_e0 w s1) = zl_b (zl_v B n (zl_e0 w (zl_a B n s1))) (fun s3 => zl_b (zl_t B n f2 s3) (fun s4 => zl_s B n f2 (zl_e (kd B n s1.1) s4))) := by
          have e1 : (zl_e0 w s1).1 = s1.1 := by unfold zl_e0; split <;> rfl
          simp only [zl_s]
          rw [e1, if_pos hp, zl_a_em0]
        rw [eT, zl_b_k, eS]
        obtain ⟨g2, M2, f2', S2⟩ := mX3_addSign_w (d + 1) g1 B n r hr (zl_a B n s1) S1 (by show s1.2.2.length < 400; omega) w (by omega)
        have J2 : zl_J 1 (zl_e0 w (zl_a B n s1)) := zl_e0_J (by have := ad3 _ hJ1; rw [Nat.add_comm 1]; exact this)
        obtain ⟨p2, v2⟩ : (zl_e0 w (zl_a B n s1)).1 = (zl_a B n s1).1 ∧ (zl_e0 w (zl_a B n s1)).2.1 = s1.2.1 := by unfold zl_e0; split <;> exact ⟨rfl, rfl⟩
        have hl2 := zl_J_len (s := zl_e0 w (zl_a B n s1)) hn (by rw [p2]; exact ad1) (by rw [v2]; exact hv1) J2
        obtain ⟨g3, M3, f3, R3⟩ := mX4_readValue d g2 B n hn r hr (zl_e0 w (zl_a B n s1)) S2 (by omega)
        have fA := (fg.trans (lw_4 fs)).trans (f2'.trans f3)
        cases e : zl_v B n (zl_e0 w (zl_a B n s1)) with
        | error c =>
          rw [e] at R3
          rw [zl_b_e]
          have K := KE g3 (kd B n s1.1) (nI (i + 1)) (some (.int (nI (kd B n s1.1)))) c (by omega) fA R3
          refine mm_Es (fun _ _ => mm_iload_n dX4_readSum_8 rfl rfl) ?_
          refine mm_Es (fun _ _ => mm_sipush (x := 400) dX4_readSum_9 (by decide)) ?_
          refine mm_Eb (fun _ _ => mm_icmp_ge 102 dX4_readSum_12 (by decide)) (fun c_12 => ?_) (fun c_12 => ?_)
          · exact absurd c_12 (nI_ge (b := 400) (by omega) (by omega))
          · refine mm_Es (fun _ _ => mm_aload_n dX4_readSum_15 rfl rfl) ?_
            refine mm_Es (fun _ _ => mm_getS dX4_readSum_16 fX4_9 sh_18 rfl gr_18_0) ?_
            refine mm_Es (fun _ _ => mm_getI dX4_readSum_19 fX4_29 sh_4 rfl) ?_
            refine mm_Ebn (fun _ _ => mm_if_ne 102 dX4_readSum_22 (by decide)) (fun c_22 => ?_) (fun c_22 => ?_)
            · exact absurd e5 c_22
            · refine mm_Es (fun _ _ => mm_aload_n dX4_readSum_25 rfl rfl) ?_
              refine mm_Es (fun _ _ => mm_getS dX4_readSum_26 fX4_9 sh_18 rfl gr_18_0) ?_
              refine mm_Es (fun _ _ => mm_cV (Y1 := YX8_kind) dX4_readSum_29 lX4_37 vX8_kind (M1) sh_4 rfl rfl (by simp [Value.category])) ?_
              refine mm_Es (fun _ _ => mm_istore_n dX4_readSum_32 rfl (by decide) rfl) ?_
              refine mm_Es (fun _ _ => mm_iload_n dX4_readSum_33 rfl rfl) ?_
              refine mm_Es (fun _ _ => mm_bipush (x := 6) dX4_readSum_34 (by decide)) ?_
              refine mm_Eb (fun _ _ => mm_icmp_lt 102 dX4_readSum_36 (by decide)) (fun c_36 => ?_) (fun c_36 => ?_)
              · exact absurd c_36 (nI_nlt (b := 6) (by omega) (by omega))
              · refine mm_Es (fun _ _ => mm_iload_n dX4_readSum_39 rfl rfl) ?_
                refine mm_Es (fun _ _ => mm_bipush (x := 10) dX4_readSum_40 (by decide)) ?_
                refine mm_Eb (fun _ _ => mm_icmp_le 48 dX4_readSum_42 (by decide)) (fun c_42 => ?_) (fun c_42 => ?_)
                · refine mm_Es (fun _ _ => mm_aload_n dX4_readSum_48 rfl rfl) ?_
                  refine mm_Es (fun _ _ => mm_getS dX4_readSum_49 fX4_9 sh_18 rfl gr_18_0) ?_
                  refine mm_Es (fun _ _ => mm_cV (Y1 := YX8_step) dX4_readSum_52 lX4_41 vX8_step (MS) sh_4 rfl rfl (by simp [Value.category])) ?_
                  refine mm_Es (fun _ _ => mm_iload_n dX4_readSum_55 rfl rfl) ?_
                  refine mm_Es (fun _ _ => mm_bipush (x := 6) dX4_readSum_56 (by decide)) ?_
                  refine mm_Eb (fun _ _ => mm_icmp_eq 67 dX4_readSum_58 (by decide)) (fun c_58 => ?_) (fun c_58 => ?_)
                  · refine mm_Es (fun _ _ => mm_aload_n dX4_readSum_67 rfl rfl) ?_
                    refine mm_Es (fun _ _ => mm_getR dX4_readSum_68 fX4_18 sh_18 rfl S1.2.2.1) ?_
                    refine mm_Es (fun _ _ => mm_iload_n dX4_readSum_71 rfl rfl) ?_
                    refine mm_Es (fun _ _ => mm_cV (Y1 := YX3_addSign) dX4_readSum_72 lX4_68 vX3_addSign (M2) (law_i r hr).1 rfl rfl (by simp [Value.category])) ?_
                    refine mm_Es (fun _ _ => mm_iload_n dX4_readSum_75 rfl rfl) ?_
                    refine mm_Es (fun _ _ => mm_istore_n dX4_readSum_76 rfl (by decide) rfl) ?_
                    refine mm_Es (fun _ _ => mm_aload_n dX4_readSum_77 rfl rfl) ?_
                    refine mm_Es (fun _ _ => mm_cV (Y1 := YX4_readValue) dX4_readSum_78 lX4_65 vX4_readValue (M3) sh_18 rfl rfl (by simp [Value.category])) ?_
                    refine mm_Es (fun _ _ => mm_goto 96 dX4_readSum_81 (by decide)) ?_
                    refine mm_Es (fun _ _ => mm_iinc dX4_readSum_96 rfl (nI_inc i) rfl) ?_
                    refine mm_Es (fun _ _ => mm_goto 8 dX4_readSum_99 (by decide)) ?_
                    exact K
                  · refine mm_Es (fun _ _ => mm_iload_n dX4_readSum_61 rfl rfl) ?_
                    refine mm_Es (fun _ _ => mm_bipush (x := 7) dX4_readSum_62 (by decide)) ?_
                    refine mm_Ebn (fun _ _ => mm_icmp_ne 84 dX4_readSum_64 (by decide)) (fun c_64 => ?_) (fun c_64 => ?_)
                    · exact absurd hp (fun z => z.elim (fun q => absurd (by rw [q]; rfl) c_58) (fun q => absurd (by rw [q]; rfl) c_64))
                    · refine mm_Es (fun _ _ => mm_aload_n dX4_readSum_67 rfl rfl) ?_
                      refine mm_Es (fun _ _ => mm_getR dX4_readSum_68 fX4_18 sh_18 rfl S1.2.2.1) ?_
                      refine mm_Es (fun _ _ => mm_iload_n dX4_readSum_71 rfl rfl) ?_
                      refine mm_Es (fun _ _ => mm_cV (Y1 := YX3_addSign) dX4_readSum_72 lX4_68 vX3_addSign (M2) (law_i r hr).1 rfl rfl (by simp [Value.category])) ?_
                      refine mm_Es (fun _ _ => mm_iload_n dX4_readSum_75 rfl rfl) ?_
                      refine mm_Es (fun _ _ => mm_istore_n dX4_readSum_76 rfl (by decide) rfl) ?_
                      refine mm_Es (fun _ _ => mm_aload_n dX4_readSum_77 rfl rfl) ?_
                      refine mm_Es (fun _ _ => mm_cV (Y1 := YX4_readValue) dX4_readSum_78 lX4_65 vX4_readValue (M3) sh_18 rfl rfl (by simp [Value.category])) ?_
                      refine mm_Es (fun _ _ => mm_goto 96 dX4_readSum_81 (by decide)) ?_
                      refine mm_Es (fun _ _ => mm_iinc dX4_readSum_96 rfl (nI_inc i) rfl) ?_
                      refine mm_Es (fun _ _ => mm_goto 8 dX4_readSum_99 (by decide)) ?_
                      exact K
                · exact absurd (nI_le (b := 10) (by omega) (by omega)) c_42
        | ok s3 =>
          rw [e] at R3
          rw [zl_b_k]
          obtain ⟨q1, q2, q3, q4⟩ := zl_v_fwd (by rw [p2]; exact ad1) e
          rw [p2] at q2
          have ek : ∀ s4, zl_e (kd B n s1.1) s4 = zl_e0 (kd B n s1.1) s4 := fun s4 => by unfold zl_e0; rw [if_neg (by omega)]
          have K := ih (n - s3.1) (by omega) s3 (kd B n s1.1) (i + 1) g3 (some (.int (nI (kd B n s1.1)))) (Nat.le_refl _) fA R3 (by omega) (by rw [if_neg (by omega)]; exact zl_J_le (q4 _ J2) (by omega)) (by omega) f2 f2 (by omega) (by omega)
          rw [show (fun s4 => zl_s B n f2 (zl_e (kd B n s1.1) s4)) = (fun s4 => zl_s B n f2 (zl_e0 (kd B n s1.1) s4)) from funext (fun s4 => by rw [ek])]
          refine mm_Es (fun _ _ => mm_iload_n dX4_readSum_8 rfl rfl) ?_
          refine mm_Es (fun _ _ => mm_sipush (x := 400) dX4_readSum_9 (by decide)) ?_
          refine mm_Eb (fun _ _ => mm_icmp_ge 102 dX4_readSum_12 (by decide)) (fun c_12 => ?_) (fun c_12 => ?_)
          · exact absurd c_12 (nI_ge (b := 400) (by omega) (by omega))
          · refine mm_Es (fun _ _ => mm_aload_n dX4_readSum_15 rfl rfl) ?_
            refine mm_Es (fun _ _ => mm_getS dX4_readSum_16 fX4_9 sh_18 rfl gr_18_0) ?_
            refine mm_Es (fun _ _ => mm_getI dX4_readSum_19 fX4_29 sh_4 rfl) ?_
            refine mm_Ebn (fun _ _ => mm_if_ne 102 dX4_readSum_22 (by decide)) (fun c_22 => ?_) (fun c_22 => ?_)
            · exact absurd e5 c_22
            · refine mm_Es (fun _ _ => mm_aload_n dX4_readSum_25 rfl rfl) ?_
              refine mm_Es (fun _ _ => mm_getS dX4_readSum_26 fX4_9 sh_18 rfl gr_18_0) ?_
              refine mm_Es (fun _ _ => mm_cV (Y1 := YX8_kind) dX4_readSum_29 lX4_37 vX8_kind (M1) sh_4 rfl rfl (by simp [Value.category])) ?_
              refine mm_Es (fun _ _ => mm_istore_n dX4_readSum_32 rfl (by decide) rfl) ?_
              refine mm_Es (fun _ _ => mm_iload_n dX4_readSum_33 rfl rfl) ?_
              refine mm_Es (fun _ _ => mm_bipush (x := 6) dX4_readSum_34 (by decide)) ?_
              refine mm_Eb (fun _ _ => mm_icmp_lt 102 dX4_readSum_36 (by decide)) (fun c_36 => ?_) (fun c_36 => ?_)
              · exact absurd c_36 (nI_nlt (b := 6) (by omega) (by omega))
              · refine mm_Es (fun _ _ => mm_iload_n dX4_readSum_39 rfl rfl) ?_
                refine mm_Es (fun _ _ => mm_bipush (x := 10) dX4_readSum_40 (by decide)) ?_
                refine mm_Eb (fun _ _ => mm_icmp_le 48 dX4_readSum_42 (by decide)) (fun c_42 => ?_) (fun c_42 => ?_)
                · refine mm_Es (fun _ _ => mm_aload_n dX4_readSum_48 rfl rfl) ?_
                  refine mm_Es (fun _ _ => mm_getS dX4_readSum_49 fX4_9 sh_18 rfl gr_18_0) ?_
                  refine mm_Es (fun _ _ => mm_cV (Y1 := YX8_step) dX4_readSum_52 lX4_41 vX8_step (MS) sh_4 rfl rfl (by simp [Value.category])) ?_
                  refine mm_Es (fun _ _ => mm_iload_n dX4_readSum_55 rfl rfl) ?_
                  refine mm_Es (fun _ _ => mm_bipush (x := 6) dX4_readSum_56 (by decide)) ?_
                  refine mm_Eb (fun _ _ => mm_icmp_eq 67 dX4_readSum_58 (by decide)) (fun c_58 => ?_) (fun c_58 => ?_)
                  · refine mm_Es (fun _ _ => mm_aload_n dX4_readSum_67 rfl rfl) ?_
                    refine mm_Es (fun _ _ => mm_getR dX4_readSum_68 fX4_18 sh_18 rfl S1.2.2.1) ?_
                    refine mm_Es (fun _ _ => mm_iload_n dX4_readSum_71 rfl rfl) ?_
                    refine mm_Es (fun _ _ => mm_cV (Y1 := YX3_addSign) dX4_readSum_72 lX4_68 vX3_addSign (M2) (law_i r hr).1 rfl rfl (by simp [Value.category])) ?_
                    refine mm_Es (fun _ _ => mm_iload_n dX4_readSum_75 rfl rfl) ?_
                    refine mm_Es (fun _ _ => mm_istore_n dX4_readSum_76 rfl (by decide) rfl) ?_
                    refine mm_Es (fun _ _ => mm_aload_n dX4_readSum_77 rfl rfl) ?_
                    refine mm_Es (fun _ _ => mm_cV (Y1 := YX4_readValue) dX4_readSum_78 lX4_65 vX4_readValue (M3) sh_18 rfl rfl (by simp [Value.category])) ?_
                    refine mm_Es (fun _ _ => mm_goto 96 dX4_readSum_81 (by decide)) ?_
                    refine mm_Es (fun _ _ => mm_iinc dX4_readSum_96 rfl (nI_inc i) rfl) ?_
                    refine mm_Es (fun _ _ => mm_goto 8 dX4_readSum_99 (by decide)) ?_
                    exact K
                  · refine mm_Es (fun _ _ => mm_iload_n dX4_readSum_61 rfl rfl) ?_
                    refine mm_Es (fun _ _ => mm_bipush (x := 7) dX4_readSum_62 (by decide)) ?_
                    refine mm_Ebn (fun _ _ => mm_icmp_ne 84 dX4_readSum_64 (by decide)) (fun c_64 => ?_) (fun c_64 => ?_)
                    · exact absurd hp (fun z => z.elim (fun q => absurd (by rw [q]; rfl) c_58) (fun q => absurd (by rw [q]; rfl) c_64))
                    · refine mm_Es (fun _ _ => mm_aload_n dX4_readSum_67 rfl rfl) ?_
                      refine mm_Es (fun _ _ => mm_getR dX4_readSum_68 fX4_18 sh_18 rfl S1.2.2.1) ?_
                      refine mm_Es (fun _ _ => mm_iload_n dX4_readSum_71 rfl rfl) ?_
                      refine mm_Es (fun _ _ => mm_cV (Y1 := YX3_addSign) dX4_readSum_72 lX4_68 vX3_addSign (M2) (law_i r hr).1 rfl rfl (by simp [Value.category])) ?_
                      refine mm_Es (fun _ _ => mm_iload_n dX4_readSum_75 rfl rfl) ?_
                      refine mm_Es (fun _ _ => mm_istore_n dX4_readSum_76 rfl (by decide) rfl) ?_
                      refine mm_Es (fun _ _ => mm_aload_n dX4_readSum_77 rfl rfl) ?_
                      refine mm_Es (fun _ _ => mm_cV (Y1 := YX4_readValue) dX4_readSum_78 lX4_65 vX4_readValue (M3) sh_18 rfl rfl (by simp [Value.category])) ?_
                      refine mm_Es (fun _ _ => mm_goto 96 dX4_readSum_81 (by decide)) ?_
                      refine mm_Es (fun _ _ => mm_iinc dX4_readSum_96 rfl (nI_inc i) rfl) ?_
                      refine mm_Es (fun _ _ => mm_goto 8 dX4_readSum_99 (by decide)) ?_
                      exact K
                · exact absurd (nI_le (b := 10) (by omega) (by omega)) c_42
      · have eT : zl_t B n (f1 + 1) s1 = zl_b (zl_v B n (zl_a B n s1)) (fun s3 => zl_t B n f1 (zl_e (kd B n s1.1) s3)) := by simp only [zl_t]; rw [if_pos (by omega)]
        rw [eT]
        have J1 := ad3 _ hJ1
        obtain ⟨g3, M3, f3, R3⟩ := mX4_readValue d g1 B n hn r hr (zl_a B n s1) S1 (by show s1.2.2.length < 400; omega)
        have fA := (fg.trans (lw_4 fs)).trans f3
        cases e : zl_v B n (zl_a B n s1) with
        | error c =>
          rw [e] at R3
          rw [zl_b_e, zl_b_e]
          obtain ⟨g4, M4, f4, E4⟩ := mX3_addSign_x (d + 1) g3 B n r c hr R3 (kd B n s1.1) kb
          have a33 := R3.2.2.2.1
          have K := KE g4 w (nI (i + 1)) (some (.int (nI (kd B n s1.1)))) c (by omega) (fA.trans f4) E4
          refine mm_Es (fun _ _ => mm_iload_n dX4_readSum_8 rfl rfl) ?_
          refine mm_Es (fun _ _ => mm_sipush (x := 400) dX4_readSum_9 (by decide)) ?_
          refine mm_Eb (fun _ _ => mm_icmp_ge 102 dX4_readSum_12 (by decide)) (fun c_12 => ?_) (fun c_12 => ?_)
          · exact absurd c_12 (nI_ge (b := 400) (by omega) (by omega))
          · refine mm_Es (fun _ _ => mm_aload_n dX4_readSum_15 rfl rfl) ?_
            refine mm_Es (fun _ _ => mm_getS dX4_readSum_16 fX4_9 sh_18 rfl gr_18_0) ?_
            refine mm_Es (fun _ _ => mm_getI dX4_readSum_19 fX4_29 sh_4 rfl) ?_
            refine mm_Ebn (fun _ _ => mm_if_ne 102 dX4_readSum_22 (by decide)) (fun c_22 => ?_) (fun c_22 => ?_)
            · exact absurd e5 c_22
            · refine mm_Es (fun _ _ => mm_aload_n dX4_readSum_25 rfl rfl) ?_
              refine mm_Es (fun _ _ => mm_getS dX4_readSum_26 fX4_9 sh_18 rfl gr_18_0) ?_
              refine mm_Es (fun _ _ => mm_cV (Y1 := YX8_kind) dX4_readSum_29 lX4_37 vX8_kind (M1) sh_4 rfl rfl (by simp [Value.category])) ?_
              refine mm_Es (fun _ _ => mm_istore_n dX4_readSum_32 rfl (by decide) rfl) ?_
              refine mm_Es (fun _ _ => mm_iload_n dX4_readSum_33 rfl rfl) ?_
              refine mm_Es (fun _ _ => mm_bipush (x := 6) dX4_readSum_34 (by decide)) ?_
              refine mm_Eb (fun _ _ => mm_icmp_lt 102 dX4_readSum_36 (by decide)) (fun c_36 => ?_) (fun c_36 => ?_)
              · exact absurd c_36 (nI_nlt (b := 6) (by omega) (by omega))
              · refine mm_Es (fun _ _ => mm_iload_n dX4_readSum_39 rfl rfl) ?_
                refine mm_Es (fun _ _ => mm_bipush (x := 10) dX4_readSum_40 (by decide)) ?_
                refine mm_Eb (fun _ _ => mm_icmp_le 48 dX4_readSum_42 (by decide)) (fun c_42 => ?_) (fun c_42 => ?_)
                · refine mm_Es (fun _ _ => mm_aload_n dX4_readSum_48 rfl rfl) ?_
                  refine mm_Es (fun _ _ => mm_getS dX4_readSum_49 fX4_9 sh_18 rfl gr_18_0) ?_
                  refine mm_Es (fun _ _ => mm_cV (Y1 := YX8_step) dX4_readSum_52 lX4_41 vX8_step (MS) sh_4 rfl rfl (by simp [Value.category])) ?_
                  refine mm_Es (fun _ _ => mm_iload_n dX4_readSum_55 rfl rfl) ?_
                  refine mm_Es (fun _ _ => mm_bipush (x := 6) dX4_readSum_56 (by decide)) ?_
                  refine mm_Eb (fun _ _ => mm_icmp_eq 67 dX4_readSum_58 (by decide)) (fun c_58 => ?_) (fun c_58 => ?_)
                  · exact absurd (Or.inl ((nI_eq (b := 6) (by omega) (by omega)).mp c_58)) hp
                  · refine mm_Es (fun _ _ => mm_iload_n dX4_readSum_61 rfl rfl) ?_
                    refine mm_Es (fun _ _ => mm_bipush (x := 7) dX4_readSum_62 (by decide)) ?_
                    refine mm_Ebn (fun _ _ => mm_icmp_ne 84 dX4_readSum_64 (by decide)) (fun c_64 => ?_) (fun c_64 => ?_)
                    · refine mm_Es (fun _ _ => mm_aload_n dX4_readSum_84 rfl rfl) ?_
                      refine mm_Es (fun _ _ => mm_cV (Y1 := YX4_readValue) dX4_readSum_85 lX4_65 vX4_readValue (M3) sh_18 rfl rfl (by simp [Value.category])) ?_
                      refine mm_Es (fun _ _ => mm_aload_n dX4_readSum_88 rfl rfl) ?_
                      refine mm_Es (fun _ _ => mm_getR dX4_readSum_89 fX4_18 sh_18 rfl a33) ?_
                      refine mm_Es (fun _ _ => mm_iload_n dX4_readSum_92 rfl rfl) ?_
                      refine mm_Es (fun _ _ => mm_cV (Y1 := YX3_addSign) dX4_readSum_93 lX4_68 vX3_addSign (M4) (law_i r hr).1 rfl rfl (by simp [Value.category])) ?_
                      refine mm_Es (fun _ _ => mm_iinc dX4_readSum_96 rfl (nI_inc i) rfl) ?_
                      refine mm_Es (fun _ _ => mm_goto 8 dX4_readSum_99 (by decide)) ?_
                      exact K
                    · exact absurd (Or.inr ((nI_eq (b := 7) (by omega) (by omega)).mp c_64)) hp
                · exact absurd (nI_le (b := 10) (by omega) (by omega)) c_42
        | ok s3 =>
          rw [e] at R3
          rw [zl_b_k]
          obtain ⟨q1, q2, q3, q4⟩ := zl_v_fwd ad1 e
          have J3 := q4 _ J1
          have hl3 := zl_J_len hn q1 q3 J3
          obtain ⟨g4, M4, f4, S4⟩ := mX3_addSign_w (d + 1) g3 B n r hr s3 R3 (by omega) (kd B n s1.1) kb
          have ek : zl_e0 (kd B n s1.1) s3 = zl_e (kd B n s1.1) s3 := by unfold zl_e0; rw [if_neg (by omega)]
          rw [ek] at S4
          have a33 := R3.2.2.1
          have K := ih (n - s3.1) (by omega) (zl_e (kd B n s1.1) s3) w (i + 1) g4 (some (.int (nI (kd B n s1.1)))) (Nat.le_refl _) (fA.trans f4) S4 hw (zl_e_J (zl_J_le J3 (by omega))) (by show i + 1 < s3.1; omega) f1 (f2 + 1) (by show n - s3.1 < f1; omega) (by show n - s3.1 < f2 + 1; omega)
          refine mm_Es (fun _ _ => mm_iload_n dX4_readSum_8 rfl rfl) ?_
          refine mm_Es (fun _ _ => mm_sipush (x := 400) dX4_readSum_9 (by decide)) ?_
          refine mm_Eb (fun _ _ => mm_icmp_ge 102 dX4_readSum_12 (by decide)) (fun c_12 => ?_) (fun c_12 => ?_)
          · exact absurd c_12 (nI_ge (b := 400) (by omega) (by omega))
          · refine mm_Es (fun _ _ => mm_aload_n dX4_readSum_15 rfl rfl) ?_
            refine mm_Es (fun _ _ => mm_getS dX4_readSum_16 fX4_9 sh_18 rfl gr_18_0) ?_
            refine mm_Es (fun _ _ => mm_getI dX4_readSum_19 fX4_29 sh_4 rfl) ?_
            refine mm_Ebn (fun _ _ => mm_if_ne 102 dX4_readSum_22 (by decide)) (fun c_22 => ?_) (fun c_22 => ?_)
            · exact absurd e5 c_22
            · refine mm_Es (fun _ _ => mm_aload_n dX4_readSum_25 rfl rfl) ?_
              refine mm_Es (fun _ _ => mm_getS dX4_readSum_26 fX4_9 sh_18 rfl gr_18_0) ?_
              refine mm_Es (fun _ _ => mm_cV (Y1 := YX8_kind) dX4_readSum_29 lX4_37 vX8_kind (M1) sh_4 rfl rfl (by simp [Value.category])) ?_
              refine mm_Es (fun _ _ => mm_istore_n dX4_readSum_32 rfl (by decide) rfl) ?_
              refine mm_Es (fun _ _ => mm_iload_n dX4_readSum_33 rfl rfl) ?_
              refine mm_Es (fun _ _ => mm_bipush (x := 6) dX4_readSum_34 (by decide)) ?_
              refine mm_Eb (fun _ _ => mm_icmp_lt 102 dX4_readSum_36 (by decide)) (fun c_36 => ?_) (fun c_36 => ?_)
              · exact absurd c_36 (nI_nlt (b := 6) (by omega) (by omega))
              · refine mm_Es (fun _ _ => mm_iload_n dX4_readSum_39 rfl rfl) ?_
                refine mm_Es (fun _ _ => mm_bipush (x := 10) dX4_readSum_40 (by decide)) ?_
                refine mm_Eb (fun _ _ => mm_icmp_le 48 dX4_readSum_42 (by decide)) (fun c_42 => ?_) (fun c_42 => ?_)
                · refine mm_Es (fun _ _ => mm_aload_n dX4_readSum_48 rfl rfl) ?_
                  refine mm_Es (fun _ _ => mm_getS dX4_readSum_49 fX4_9 sh_18 rfl gr_18_0) ?_
                  refine mm_Es (fun _ _ => mm_cV (Y1 := YX8_step) dX4_readSum_52 lX4_41 vX8_step (MS) sh_4 rfl rfl (by simp [Value.category])) ?_
                  refine mm_Es (fun _ _ => mm_iload_n dX4_readSum_55 rfl rfl) ?_
                  refine mm_Es (fun _ _ => mm_bipush (x := 6) dX4_readSum_56 (by decide)) ?_
                  refine mm_Eb (fun _ _ => mm_icmp_eq 67 dX4_readSum_58 (by decide)) (fun c_58 => ?_) (fun c_58 => ?_)
                  · exact absurd (Or.inl ((nI_eq (b := 6) (by omega) (by omega)).mp c_58)) hp
                  · refine mm_Es (fun _ _ => mm_iload_n dX4_readSum_61 rfl rfl) ?_
                    refine mm_Es (fun _ _ => mm_bipush (x := 7) dX4_readSum_62 (by decide)) ?_
                    refine mm_Ebn (fun _ _ => mm_icmp_ne 84 dX4_readSum_64 (by decide)) (fun c_64 => ?_) (fun c_64 => ?_)
                    · refine mm_Es (fun _ _ => mm_aload_n dX4_readSum_84 rfl rfl) ?_
                      refine mm_Es (fun _ _ => mm_cV (Y1 := YX4_readValue) dX4_readSum_85 lX4_65 vX4_readValue (M3) sh_18 rfl rfl (by simp [Value.category])) ?_
                      refine mm_Es (fun _ _ => mm_aload_n dX4_readSum_88 rfl rfl) ?_
                      refine mm_Es (fun _ _ => mm_getR dX4_readSum_89 fX4_18 sh_18 rfl a33) ?_
                      refine mm_Es (fun _ _ => mm_iload_n dX4_readSum_92 rfl rfl) ?_
                      refine mm_Es (fun _ _ => mm_cV (Y1 := YX3_addSign) dX4_readSum_93 lX4_68 vX3_addSign (M4) (law_i r hr).1 rfl rfl (by simp [Value.category])) ?_
                      refine mm_Es (fun _ _ => mm_iinc dX4_readSum_96 rfl (nI_inc i) rfl) ?_
                      refine mm_Es (fun _ _ => mm_goto 8 dX4_readSum_99 (by decide)) ?_
                      exact K
                    · exact absurd (Or.inr ((nI_eq (b := 7) (by omega) (by omega)).mp c_64)) hp
                · exact absurd (nI_le (b := 10) (by omega) (by omega)) c_42
    · have eT : zl_t B n (f1 + 1) s1 = .ok s1 := by simp only [zl_t]; rw [if_neg (by omega)]
      have eS : zl_s B n (f2 + 1) (zl_e0 w s1) = .ok (zl_e0 w s1) := by
        have e1 : (zl_e0 w s1).1 = s1.1 := by unfold zl_e0; split <;> rfl
        simp only [zl_s]
        rw [e1, if_neg (by omega)]
      rw [eT, zl_b_k, eS]
      obtain ⟨g2, M2, f2', S2⟩ := mX3_addSign_w (d + 1) gg B n r hr s1 Sg (by omega) w (by omega)
      refine mm_Es (fun _ _ => mm_iload_n dX4_readSum_8 rfl rfl) ?_
      refine mm_Es (fun _ _ => mm_sipush (x := 400) dX4_readSum_9 (by decide)) ?_
      refine mm_Eb (fun _ _ => mm_icmp_ge 102 dX4_readSum_12 (by decide)) (fun c_12 => ?_) (fun c_12 => ?_)
      · exact absurd c_12 (nI_ge (b := 400) (by omega) (by omega))
      · refine mm_Es (fun _ _ => mm_aload_n dX4_readSum_15 rfl rfl) ?_
        refine mm_Es (fun _ _ => mm_getS dX4_readSum_16 fX4_9 sh_18 rfl gr_18_0) ?_
        refine mm_Es (fun _ _ => mm_getI dX4_readSum_19 fX4_29 sh_4 rfl) ?_
        refine mm_Ebn (fun _ _ => mm_if_ne 102 dX4_readSum_22 (by decide)) (fun c_22 => ?_) (fun c_22 => ?_)
        · exact absurd e5 c_22
        · refine mm_Es (fun _ _ => mm_aload_n dX4_readSum_25 rfl rfl) ?_
          refine mm_Es (fun _ _ => mm_getS dX4_readSum_26 fX4_9 sh_18 rfl gr_18_0) ?_
          refine mm_Es (fun _ _ => mm_cV (Y1 := YX8_kind) dX4_readSum_29 lX4_37 vX8_kind (M1) sh_4 rfl rfl (by simp [Value.category])) ?_
          refine mm_Es (fun _ _ => mm_istore_n dX4_readSum_32 rfl (by decide) rfl) ?_
          refine mm_Es (fun _ _ => mm_iload_n dX4_readSum_33 rfl rfl) ?_
          refine mm_Es (fun _ _ => mm_bipush (x := 6) dX4_readSum_34 (by decide)) ?_
          refine mm_Eb (fun _ _ => mm_icmp_lt 102 dX4_readSum_36 (by decide)) (fun c_36 => ?_) (fun c_36 => ?_)
          · refine mm_Es (fun _ _ => mm_aload_n dX4_readSum_102 rfl rfl) ?_
            refine mm_Es (fun _ _ => mm_getR dX4_readSum_103 fX4_18 sh_18 rfl a3) ?_
            refine mm_Es (fun _ _ => mm_iload_n dX4_readSum_106 rfl rfl) ?_
            refine mm_Es (fun _ _ => mm_cV (Y1 := YX3_addSign) dX4_readSum_107 lX4_68 vX3_addSign (M2) (law_i r hr).1 rfl rfl (by simp [Value.category])) ?_
            refine mm_Er (mm_return dX4_readSum_110 rfl) ?_
            exact ⟨rfl, fg.trans f2', S2⟩
          · refine mm_Es (fun _ _ => mm_iload_n dX4_readSum_39 rfl rfl) ?_
            refine mm_Es (fun _ _ => mm_bipush (x := 10) dX4_readSum_40 (by decide)) ?_
            refine mm_Eb (fun _ _ => mm_icmp_le 48 dX4_readSum_42 (by decide)) (fun c_42 => ?_) (fun c_42 => ?_)
            · exact absurd ⟨Nat.le_of_not_lt (fun z => c_36 (nI_lt (b := 6) z (by omega))), Nat.le_of_not_lt (fun z => absurd c_42 (nI_ge (a := 10) z (by omega)))⟩ hk
            · refine mm_Es (fun _ _ => mm_goto 102 dX4_readSum_45 (by decide)) ?_
              refine mm_Es (fun _ _ => mm_aload_n dX4_readSum_102 rfl rfl) ?_
              refine mm_Es (fun _ _ => mm_getR dX4_readSum_103 fX4_18 sh_18 rfl a3) ?_
              refine mm_Es (fun _ _ => mm_iload_n dX4_readSum_106 rfl rfl) ?_
              refine mm_Es (fun _ _ => mm_cV (Y1 := YX3_addSign) dX4_readSum_107 lX4_68 vX3_addSign (M2) (law_i r hr).1 rfl rfl (by simp [Value.category])) ?_
              refine mm_Er (mm_return dX4_readSum_110 rfl) ?_
              exact ⟨rfl, fg.trans f2', S2⟩
  obtain ⟨g1, M1, f1, R1⟩ := mX4_readValue d h B n hn r hr s S (by have := zl_J_len hn hle S.2.2.2.2.2 hJ; omega)
  unfold zl_m
  cases e : zl_v B n s with
  | error c =>
    rw [e] at R1
    rw [zl_b_e]
    have K := KE g1 0 (nI 0) none c (by decide) f1 R1
    refine mm_Es (fun _ _ => mm_iconst (x := 0) dX4_readSum_0 (by decide)) ?_
    refine mm_Es (fun _ _ => mm_istore_n dX4_readSum_1 rfl (by decide) rfl) ?_
    refine mm_Es (fun _ _ => mm_aload_n dX4_readSum_2 rfl rfl) ?_
    refine mm_Es (fun _ _ => mm_cV (Y1 := YX4_readValue) dX4_readSum_3 lX4_65 vX4_readValue (M1) sh_18 rfl rfl (by simp [Value.category])) ?_
    refine mm_Es (fun _ _ => mm_iconst (x := 0) dX4_readSum_6 (by decide)) ?_
    refine mm_Es (fun _ _ => mm_istore_n dX4_readSum_7 rfl (by decide) rfl) ?_
    exact K
  | ok s1 =>
    rw [e] at R1
    rw [zl_b_k]
    obtain ⟨q1, q2, q3, q4⟩ := zl_v_fwd hle e
    have K := K8 (n - s1.1) s1 0 0 g1 none (Nat.le_refl _) f1 R1 (Or.inl rfl) (zl_J_le (q4 _ hJ) (by rw [if_pos rfl]; omega)) (by omega) fu fu (by omega) (by omega)
    refine mm_Es (fun _ _ => mm_iconst (x := 0) dX4_readSum_0 (by decide)) ?_
    refine mm_Es (fun _ _ => mm_istore_n dX4_readSum_1 rfl (by decide) rfl) ?_
    refine mm_Es (fun _ _ => mm_aload_n dX4_readSum_2 rfl rfl) ?_
    refine mm_Es (fun _ _ => mm_cV (Y1 := YX4_readValue) dX4_readSum_3 lX4_65 vX4_readValue (M1) sh_18 rfl rfl (by simp [Value.category])) ?_
    refine mm_Es (fun _ _ => mm_iconst (x := 0) dX4_readSum_6 (by decide)) ?_
    refine mm_Es (fun _ _ => mm_istore_n dX4_readSum_7 rfl (by decide) rfl) ?_
    exact K
