/-! law: the class. -/
theorem mm_upR_e {I : Nat → Nat} {a x : Nat} : mm_upR I a x a = x := if_pos rfl
/-- what reading a law leaves of the memory -/
def lr_fr (r : Nat) (h g : mm_H) : Prop := (∀ c, pLW r c = false → g.1 c = h.1 c ∧ g.2.1 c = h.2.1 c) ∧ ∀ c, c ≠ 18 → g.2.2 c = h.2.2 c
theorem frm.lr {r : Nat} {h g : mm_H} (a : frm (pLW r) h g) : lr_fr r h g := ⟨a.1, fun c _ => by rw [a.2]⟩
theorem lr_fr.trans {r : Nat} {h g k : mm_H} (a : lr_fr r h g) (b : lr_fr r g k) : lr_fr r h k := ⟨fun c hc => ⟨(b.1 c hc).1.trans (a.1 c hc).1, (b.1 c hc).2.trans (a.1 c hc).2⟩, fun c hc => (b.2 c hc).trans (a.2 c hc)⟩
/-- what it answers -/
def lrP (r : Nat) (g : mm_H) (c : Nat) (q : Except Nat (zl_S × List zl_C)) : Prop := match q with
  | .ok q => c = 0 ∧ lawC g.1 (25 + 6 * r) (zl_LD q)
  | .error e => c = e ∧ ¬ e = 0 ∧ e < 4000
theorem lawC_of {B : Nat → Int32} {n r : Nat} {g : mm_H} {s : zl_S} {cs : List zl_C} (S : CS B n g r s) (L : LC g r cs) : lawC g.1 (25 + 6 * r) (zl_LD (s, cs)) := ⟨L.1, fun k hk => S.2.2.2.2.1 k hk, fun c hc => L.2 c hc⟩
set_option maxRecDepth 100000 in
set_option maxHeartbeats 4000000 in
theorem mX3_clear (d : Nat) (h : mm_H) (r : Nat) (hr : r < 6) : mm_M d YX3_clear [.ref (25 + 6 * r)] h none (mm_up (mm_up h.1 (25 + 6 * r) 1 0) (25 + 6 * r) 6 0, h.2.1, h.2.2) := by
  refine mm_M.of [some (.ref (25 + 6 * r))] rfl rfl (Nat.le_of_ble_eq_true rfl) ?_
  refine mm_aload_n dX3_clear_0 rfl rfl ?_
  refine mm_iconst (x := 0) dX3_clear_1 (by decide) ?_
  refine mm_putI dX3_clear_2 fX3_27 (law_i r hr).1 rfl rfl rfl ?_
  refine mm_aload_n dX3_clear_5 rfl rfl ?_
  refine mm_iconst (x := 0) dX3_clear_6 (by decide) ?_
  refine mm_putI dX3_clear_7 fX3_31 (law_i r hr).1 rfl rfl rfl ?_
  exact mm_retE dX3_clear_10 rfl rfl
set_option maxRecDepth 100000 in
set_option maxHeartbeats 4000000 in
theorem mX4_read (d : Nat) (h : mm_H) (B : Nat → Int32) (n : Nat) (hn : n ≤ 400) (r : Nat) (hr : r < 6) (pos : Nat) (t : TX B n h pos 0) : ∃ c g, mm_M (d + 26) YX4_read [.ref 18, .ref (25 + 6 * r)] h (some (.int (nI c))) g ∧ lr_fr r h g ∧ lrP r g c (zl_q B n 14 (pos, 0, []) []) := by
  suffices hE : mm_E (d + 26) YX4_read 0 [some (.ref 18), some (.ref (25 + 6 * r)), none] [] h (fun v g => ∃ cc, v = some (.int (nI cc)) ∧ lr_fr r h g ∧ lrP r g cc (zl_q B n 14 (pos, 0, []) [])) by
    obtain ⟨v, g, hR, c, rfl, h1⟩ := hE
    exact ⟨c, g, mm_M.of _ rfl rfl (Nat.le_of_ble_eq_true rfl) hR, h1⟩
  have KE : ∀ gg (i : Int32) c, lr_fr r h gg → ER B n gg r c → mm_E (d + 26) YX4_read 66 [some (.ref 18), some (.ref (25 + 6 * r)), some (.int i)] [] gg (fun v g => ∃ cc, v = some (.int (nI cc)) ∧ lr_fr r h g ∧ lrP r g cc (.error c)) := by
    intro gg i c fg E
    have E0 := E
    obtain ⟨⟨p, t0⟩, c0, c4, -⟩ := E0
    have M1 := mX8_kind (d + 25) gg B n p c t0
    obtain ⟨g1, M2, f2, E2⟩ := mX8_fail_x (d + 25) gg B n r c hn E 0 (by decide)
    have e5 := E.f5
    have e6 := E2.f5
    refine mm_Es (fun _ _ => mm_aload_n dX4_read_66 rfl rfl) ?_
    refine mm_Es (fun _ _ => mm_getS dX4_read_67 fX4_9 sh_18 rfl gr_18_0) ?_
    refine mm_Es (fun _ _ => mm_cV (Y1 := YX8_kind) dX4_read_70 lX4_37 vX8_kind (M1) sh_4 rfl rfl (by simp [Value.category])) ?_
    refine mm_Eb (fun _ _ => mm_if_eq 84 dX4_read_73 (by decide)) (fun c_73 => ?_) (fun c_73 => ?_)
    · refine mm_Es (fun _ _ => mm_aload_n dX4_read_84 rfl rfl) ?_
      refine mm_Es (fun _ _ => mm_getS dX4_read_85 fX4_9 sh_18 rfl gr_18_0) ?_
      refine mm_Es (fun _ _ => mm_getI dX4_read_88 fX4_29 sh_4 rfl) ?_
      refine mm_Er (mm_ireturn dX4_read_91 rfl) ?_
      exact ⟨c, by first | rw [e5] | rw [e6], by first | exact fg | exact fg.trans f2.w.lr, rfl, c0, c4⟩
    · refine mm_Es (fun _ _ => mm_aload_n dX4_read_76 rfl rfl) ?_
      refine mm_Es (fun _ _ => mm_getS dX4_read_77 fX4_9 sh_18 rfl gr_18_0) ?_
      refine mm_Es (fun _ _ => mm_iconst (x := 0) dX4_read_80 (by decide)) ?_
      refine mm_Es (fun _ _ => mm_cV (Y1 := YX8_fail) dX4_read_81 lX4_44 vX8_fail (M2) sh_4 rfl rfl (by simp [Value.category])) ?_
      refine mm_Es (fun _ _ => mm_aload_n dX4_read_84 rfl rfl) ?_
      refine mm_Es (fun _ _ => mm_getS dX4_read_85 fX4_9 sh_18 rfl gr_18_0) ?_
      refine mm_Es (fun _ _ => mm_getI dX4_read_88 fX4_29 sh_4 rfl) ?_
      refine mm_Er (mm_ireturn dX4_read_91 rfl) ?_
      exact ⟨c, by first | rw [e5] | rw [e6], by first | exact fg | exact fg.trans f2.w.lr, rfl, c0, c4⟩
  have K39 : ∀ gg (i : Int32) c, lr_fr r h gg → ER B n gg r c → mm_E (d + 26) YX4_read 39 [some (.ref 18), some (.ref (25 + 6 * r)), some (.int i)] [] gg (fun v g => ∃ cc, v = some (.int (nI cc)) ∧ lr_fr r h g ∧ lrP r g cc (.error c)) := by
    intro gg i c fg E
    have E0 := E
    obtain ⟨⟨p, t0⟩, c0, c4, -⟩ := E0
    have M1 := mX8_kind (d + 25) gg B n p c t0
    obtain ⟨g1, M2, f2, E2⟩ := mX8_step_x (d + 25) gg B n r c E
    have e6 := E2.f5
    have Q1 := KE gg i c fg E
    have Q2 := KE g1 (i + 1) c (fg.trans f2.w.lr) E2
    refine mm_Es (fun _ _ => mm_aload_n dX4_read_39 rfl rfl) ?_
    refine mm_Es (fun _ _ => mm_getS dX4_read_40 fX4_9 sh_18 rfl gr_18_0) ?_
    refine mm_Es (fun _ _ => mm_cV (Y1 := YX8_kind) dX4_read_43 lX4_37 vX8_kind (M1) sh_4 rfl rfl (by simp [Value.category])) ?_
    refine mm_Es (fun _ _ => mm_iconst (x := 3) dX4_read_46 (by decide)) ?_
    refine mm_Eb (fun _ _ => mm_icmp_eq 53 dX4_read_47 (by decide)) (fun c_47 => ?_) (fun c_47 => ?_)
    · refine mm_Es (fun _ _ => mm_aload_n dX4_read_53 rfl rfl) ?_
      refine mm_Es (fun _ _ => mm_getS dX4_read_54 fX4_9 sh_18 rfl gr_18_0) ?_
      refine mm_Es (fun _ _ => mm_cV (Y1 := YX8_step) dX4_read_57 lX4_41 vX8_step (M2) sh_4 rfl rfl (by simp [Value.category])) ?_
      refine mm_Es (fun _ _ => mm_iinc dX4_read_60 rfl rfl rfl) ?_
      refine mm_Es (fun _ _ => mm_goto 19 dX4_read_63 (by decide)) ?_
      refine mm_Es (fun _ _ => mm_iload_n dX4_read_19 rfl rfl) ?_
      refine mm_Es (fun _ _ => mm_bipush (x := 12) dX4_read_20 (by decide)) ?_
      refine mm_Eb (fun _ _ => mm_icmp_gt 66 dX4_read_22 (by decide)) (fun c_22 => ?_) (fun c_22 => ?_)
      · first | exact Q2 | exact Q1
      · refine mm_Es (fun _ _ => mm_aload_n dX4_read_25 rfl rfl) ?_
        refine mm_Es (fun _ _ => mm_getS dX4_read_26 fX4_9 sh_18 rfl gr_18_0) ?_
        refine mm_Es (fun _ _ => mm_getI dX4_read_29 fX4_29 sh_4 rfl) ?_
        refine mm_Ebn (fun _ _ => mm_if_ne 66 dX4_read_32 (by decide)) (fun c_32 => ?_) (fun c_32 => ?_)
        · first | exact Q2 | exact Q1
        · exact absurd ((nI_eq (b := 0) (by omega) (by omega)).mp (e6.symm.trans c_32)) c0
    · refine mm_Es (fun _ _ => mm_goto 66 dX4_read_50 (by decide)) ?_
      first | exact Q2 | exact Q1
  have KG : ∀ k, k ≤ 12 → ¬ (12 : Int32) < nI k := fun k hk z => by
    have w := Int32.lt_iff_toInt_lt.mp z
    rw [nI_toInt (show k < 2 ^ 31 by omega)] at w
    have q : (12 : Int32).toInt = 12 := by decide
    omega
  have K19 : ∀ f s cs gg, f + cs.length = 13 → cs.length ≤ 12 → zb_I n s cs → CS B n gg r s → LC gg r cs → lr_fr r h gg → mm_E (d + 26) YX4_read 19 [some (.ref 18), some (.ref (25 + 6 * r)), some (.int (nI cs.length))] [] gg (fun v g => ∃ cc, v = some (.int (nI cc)) ∧ lr_fr r h g ∧ lrP r g cc (zl_q B n (f + 1) s cs)) := by
    intro f
    induction f with
    | zero => intro s cs gg h1 h2; omega
    | succ f ih =>
    intro s cs gg h1 h2 I S L fg
    have e5 := S.f5
    obtain ⟨g1, M1, f1, R1⟩ := mX4_readClause d gg B n hn r hr s S I.2.2.1 cs L h2
    simp only [zl_q]
    cases e : zl_c B n cs.length s with
    | error c =>
      rw [e] at R1
      rw [zl_b_e]
      have Q := K39 g1 (nI cs.length) c (fg.trans f1.lr) R1
      refine mm_Es (fun _ _ => mm_iload_n dX4_read_19 rfl rfl) ?_
      refine mm_Es (fun _ _ => mm_bipush (x := 12) dX4_read_20 (by decide)) ?_
      refine mm_Eb (fun _ _ => mm_icmp_gt 66 dX4_read_22 (by decide)) (fun c_22 => ?_) (fun c_22 => ?_)
      · exact absurd c_22 (KG cs.length h2)
      · refine mm_Es (fun _ _ => mm_aload_n dX4_read_25 rfl rfl) ?_
        refine mm_Es (fun _ _ => mm_getS dX4_read_26 fX4_9 sh_18 rfl gr_18_0) ?_
        refine mm_Es (fun _ _ => mm_getI dX4_read_29 fX4_29 sh_4 rfl) ?_
        refine mm_Ebn (fun _ _ => mm_if_ne 66 dX4_read_32 (by decide)) (fun c_32 => ?_) (fun c_32 => ?_)
        · exact absurd e5 c_32
        · refine mm_Es (fun _ _ => mm_aload_n dX4_read_35 rfl rfl) ?_
          refine mm_Es (fun _ _ => mm_cV (Y1 := YX4_readClause) dX4_read_36 lX4_34 vX4_readClause (M1) sh_18 rfl rfl (by simp [Value.category])) ?_
          exact Q
    | ok q =>
      rw [e] at R1
      rw [zl_b_k]
      obtain ⟨S1, L1⟩ := R1
      obtain ⟨b1, b2⟩ := I.c e
      have fg1 := fg.trans f1.lr
      have kb := kd_lt B n q.1.1
      have M2 := mX8_kind (d + 25) g1 B n q.1.1 0 S1.1
      have el : (cs ++ [q.2]).length = cs.length + 1 := by rw [List.length_append]; rfl
      by_cases k3 : kd B n q.1.1 = 3
      · rw [if_pos k3]
        obtain ⟨g2, M3, t3, f3⟩ := mX8_step (d + 25) g1 B n q.1.1 0 S1.1
        have S2 : CS B n g2 r (zl_a B n q.1) := CS_4 S1 f3 t3
        have Q := ih (zl_a B n q.1) (cs ++ [q.2]) g2 (by omega) (by omega) (b2.a (by omega)) S2 (LC_fr L1 (lw_4 f3)) (fg1.trans (lw_4 f3).w.lr)
        rw [el] at Q
        refine mm_Es (fun _ _ => mm_iload_n dX4_read_19 rfl rfl) ?_
        refine mm_Es (fun _ _ => mm_bipush (x := 12) dX4_read_20 (by decide)) ?_
        refine mm_Eb (fun _ _ => mm_icmp_gt 66 dX4_read_22 (by decide)) (fun c_22 => ?_) (fun c_22 => ?_)
        · exact absurd c_22 (KG cs.length h2)
        · refine mm_Es (fun _ _ => mm_aload_n dX4_read_25 rfl rfl) ?_
          refine mm_Es (fun _ _ => mm_getS dX4_read_26 fX4_9 sh_18 rfl gr_18_0) ?_
          refine mm_Es (fun _ _ => mm_getI dX4_read_29 fX4_29 sh_4 rfl) ?_
          refine mm_Ebn (fun _ _ => mm_if_ne 66 dX4_read_32 (by decide)) (fun c_32 => ?_) (fun c_32 => ?_)
          · exact absurd e5 c_32
          · refine mm_Es (fun _ _ => mm_aload_n dX4_read_35 rfl rfl) ?_
            refine mm_Es (fun _ _ => mm_cV (Y1 := YX4_readClause) dX4_read_36 lX4_34 vX4_readClause (M1) sh_18 rfl rfl (by simp [Value.category])) ?_
            refine mm_Es (fun _ _ => mm_aload_n dX4_read_39 rfl rfl) ?_
            refine mm_Es (fun _ _ => mm_getS dX4_read_40 fX4_9 sh_18 rfl gr_18_0) ?_
            refine mm_Es (fun _ _ => mm_cV (Y1 := YX8_kind) dX4_read_43 lX4_37 vX8_kind (M2) sh_4 rfl rfl (by simp [Value.category])) ?_
            refine mm_Es (fun _ _ => mm_iconst (x := 3) dX4_read_46 (by decide)) ?_
            refine mm_Eb (fun _ _ => mm_icmp_eq 53 dX4_read_47 (by decide)) (fun c_47 => ?_) (fun c_47 => ?_)
            · refine mm_Es (fun _ _ => mm_aload_n dX4_read_53 rfl rfl) ?_
              refine mm_Es (fun _ _ => mm_getS dX4_read_54 fX4_9 sh_18 rfl gr_18_0) ?_
              refine mm_Es (fun _ _ => mm_cV (Y1 := YX8_step) dX4_read_57 lX4_41 vX8_step (M3) sh_4 rfl rfl (by simp [Value.category])) ?_
              refine mm_Es (fun _ _ => mm_iinc dX4_read_60 rfl (nI_inc cs.length) rfl) ?_
              refine mm_Es (fun _ _ => mm_goto 19 dX4_read_63 (by decide)) ?_
              exact Q
            · exact absurd (by rw [k3]; rfl) c_47
      · rw [if_neg k3]
        by_cases k0 : kd B n q.1.1 = 0
        · rw [if_pos k0]
          have e51 := S1.f5
          refine mm_Es (fun _ _ => mm_iload_n dX4_read_19 rfl rfl) ?_
          refine mm_Es (fun _ _ => mm_bipush (x := 12) dX4_read_20 (by decide)) ?_
          refine mm_Eb (fun _ _ => mm_icmp_gt 66 dX4_read_22 (by decide)) (fun c_22 => ?_) (fun c_22 => ?_)
          · exact absurd c_22 (KG cs.length h2)
          · refine mm_Es (fun _ _ => mm_aload_n dX4_read_25 rfl rfl) ?_
            refine mm_Es (fun _ _ => mm_getS dX4_read_26 fX4_9 sh_18 rfl gr_18_0) ?_
            refine mm_Es (fun _ _ => mm_getI dX4_read_29 fX4_29 sh_4 rfl) ?_
            refine mm_Ebn (fun _ _ => mm_if_ne 66 dX4_read_32 (by decide)) (fun c_32 => ?_) (fun c_32 => ?_)
            · exact absurd e5 c_32
            · refine mm_Es (fun _ _ => mm_aload_n dX4_read_35 rfl rfl) ?_
              refine mm_Es (fun _ _ => mm_cV (Y1 := YX4_readClause) dX4_read_36 lX4_34 vX4_readClause (M1) sh_18 rfl rfl (by simp [Value.category])) ?_
              refine mm_Es (fun _ _ => mm_aload_n dX4_read_39 rfl rfl) ?_
              refine mm_Es (fun _ _ => mm_getS dX4_read_40 fX4_9 sh_18 rfl gr_18_0) ?_
              refine mm_Es (fun _ _ => mm_cV (Y1 := YX8_kind) dX4_read_43 lX4_37 vX8_kind (M2) sh_4 rfl rfl (by simp [Value.category])) ?_
              refine mm_Es (fun _ _ => mm_iconst (x := 3) dX4_read_46 (by decide)) ?_
              refine mm_Eb (fun _ _ => mm_icmp_eq 53 dX4_read_47 (by decide)) (fun c_47 => ?_) (fun c_47 => ?_)
              · exact absurd ((nI_eq (b := 3) (by omega) (by omega)).mp c_47) k3
              · refine mm_Es (fun _ _ => mm_goto 66 dX4_read_50 (by decide)) ?_
                refine mm_Es (fun _ _ => mm_aload_n dX4_read_66 rfl rfl) ?_
                refine mm_Es (fun _ _ => mm_getS dX4_read_67 fX4_9 sh_18 rfl gr_18_0) ?_
                refine mm_Es (fun _ _ => mm_cV (Y1 := YX8_kind) dX4_read_70 lX4_37 vX8_kind (M2) sh_4 rfl rfl (by simp [Value.category])) ?_
                refine mm_Eb (fun _ _ => mm_if_eq 84 dX4_read_73 (by decide)) (fun c_73 => ?_) (fun c_73 => ?_)
                · refine mm_Es (fun _ _ => mm_aload_n dX4_read_84 rfl rfl) ?_
                  refine mm_Es (fun _ _ => mm_getS dX4_read_85 fX4_9 sh_18 rfl gr_18_0) ?_
                  refine mm_Es (fun _ _ => mm_getI dX4_read_88 fX4_29 sh_4 rfl) ?_
                  refine mm_Er (mm_ireturn dX4_read_91 rfl) ?_
                  exact ⟨0, by rw [e51]; rfl, fg1, rfl, lawC_of S1 L1⟩
                · exact absurd (by rw [k0]; rfl) c_73
        · rw [if_neg k0]
          have hle1 := S1.1.le
          obtain ⟨g2, M3, t3, f3⟩ := mX8_fail (d + 25) g1 B n q.1.1 0 S1.1 hn (by decide) 0 (by decide)
          have ef : flt 0 q.1.1 0 = 1 + 8 * q.1.1 := if_pos rfl
          rw [ef] at t3
          obtain ⟨-, -, -, -, -, -, -, -, -, -, e52⟩ := t3
          refine mm_Es (fun _ _ => mm_iload_n dX4_read_19 rfl rfl) ?_
          refine mm_Es (fun _ _ => mm_bipush (x := 12) dX4_read_20 (by decide)) ?_
          refine mm_Eb (fun _ _ => mm_icmp_gt 66 dX4_read_22 (by decide)) (fun c_22 => ?_) (fun c_22 => ?_)
          · exact absurd c_22 (KG cs.length h2)
          · refine mm_Es (fun _ _ => mm_aload_n dX4_read_25 rfl rfl) ?_
            refine mm_Es (fun _ _ => mm_getS dX4_read_26 fX4_9 sh_18 rfl gr_18_0) ?_
            refine mm_Es (fun _ _ => mm_getI dX4_read_29 fX4_29 sh_4 rfl) ?_
            refine mm_Ebn (fun _ _ => mm_if_ne 66 dX4_read_32 (by decide)) (fun c_32 => ?_) (fun c_32 => ?_)
            · exact absurd e5 c_32
            · refine mm_Es (fun _ _ => mm_aload_n dX4_read_35 rfl rfl) ?_
              refine mm_Es (fun _ _ => mm_cV (Y1 := YX4_readClause) dX4_read_36 lX4_34 vX4_readClause (M1) sh_18 rfl rfl (by simp [Value.category])) ?_
              refine mm_Es (fun _ _ => mm_aload_n dX4_read_39 rfl rfl) ?_
              refine mm_Es (fun _ _ => mm_getS dX4_read_40 fX4_9 sh_18 rfl gr_18_0) ?_
              refine mm_Es (fun _ _ => mm_cV (Y1 := YX8_kind) dX4_read_43 lX4_37 vX8_kind (M2) sh_4 rfl rfl (by simp [Value.category])) ?_
              refine mm_Es (fun _ _ => mm_iconst (x := 3) dX4_read_46 (by decide)) ?_
              refine mm_Eb (fun _ _ => mm_icmp_eq 53 dX4_read_47 (by decide)) (fun c_47 => ?_) (fun c_47 => ?_)
              · exact absurd ((nI_eq (b := 3) (by omega) (by omega)).mp c_47) k3
              · refine mm_Es (fun _ _ => mm_goto 66 dX4_read_50 (by decide)) ?_
                refine mm_Es (fun _ _ => mm_aload_n dX4_read_66 rfl rfl) ?_
                refine mm_Es (fun _ _ => mm_getS dX4_read_67 fX4_9 sh_18 rfl gr_18_0) ?_
                refine mm_Es (fun _ _ => mm_cV (Y1 := YX8_kind) dX4_read_70 lX4_37 vX8_kind (M2) sh_4 rfl rfl (by simp [Value.category])) ?_
                refine mm_Eb (fun _ _ => mm_if_eq 84 dX4_read_73 (by decide)) (fun c_73 => ?_) (fun c_73 => ?_)
                · exact absurd ((nI_eq (b := 0) (by omega) (by omega)).mp c_73) k0
                · refine mm_Es (fun _ _ => mm_aload_n dX4_read_76 rfl rfl) ?_
                  refine mm_Es (fun _ _ => mm_getS dX4_read_77 fX4_9 sh_18 rfl gr_18_0) ?_
                  refine mm_Es (fun _ _ => mm_iconst (x := 0) dX4_read_80 (by decide)) ?_
                  refine mm_Es (fun _ _ => mm_cV (Y1 := YX8_fail) dX4_read_81 lX4_44 vX8_fail (M3) sh_4 rfl rfl (by simp [Value.category])) ?_
                  refine mm_Es (fun _ _ => mm_aload_n dX4_read_84 rfl rfl) ?_
                  refine mm_Es (fun _ _ => mm_getS dX4_read_85 fX4_9 sh_18 rfl gr_18_0) ?_
                  refine mm_Es (fun _ _ => mm_getI dX4_read_88 fX4_29 sh_4 rfl) ?_
                  refine mm_Er (mm_ireturn dX4_read_91 rfl) ?_
                  exact ⟨1 + 8 * q.1.1, by rw [e52], fg1.trans (lw_4 f3).w.lr, rfl, by omega, by omega⟩
  obtain ⟨h1, eh1⟩ : ∃ g : mm_H, g = (h.1, h.2.1, mm_upR h.2.2 18 (25 + 6 * r)) := ⟨_, rfl⟩
  have a31 : h1.2.2 18 = (25 + 6 * r) := by rw [eh1]; dsimp only; exact mm_upR_e
  have MC := mX3_clear (d + 25) h1 r hr
  obtain ⟨h3, eh3⟩ : ∃ g : mm_H, g = (mm_up (mm_up (mm_up h1.1 (25 + 6 * r) 1 0) (25 + 6 * r) 6 0) 18 2 0, h1.2.1, h1.2.2) := ⟨_, rfl⟩
  have S3 : CS B n h3 r (pos, 0, []) := by
    rw [eh3, eh1]
    refine ⟨TX_c t (fun j _ => ?_) ?_ ?_ ?_, ?_, ?_, ?_, fun k hk => absurd hk (Nat.not_lt_zero k), Nat.zero_le 60⟩ <;> dsimp only
    · rw [mm_up_n (by decide), mm_up_n (by omega), mm_up_n (by omega)]
    · rw [mm_up_n (by decide), mm_up_n (by omega), mm_up_n (by omega)]
    · rw [mm_up_n (by decide), mm_up_n (by omega), mm_up_n (by omega)]
    · rw [mm_up_n (by decide), mm_up_n (by omega), mm_up_n (by omega)]
    · rw [mm_up_e]; rfl
    · exact mm_upR_e
    · rw [mm_up_n (by omega), mm_up_k (by decide), mm_up_e]; rfl
  have L3 : LC h3 r [] := ⟨by rw [eh3]; dsimp only; rw [mm_up_n (by omega), mm_up_e]; rfl, fun c hc => absurd hc (Nat.not_lt_zero c)⟩
  have f3 : lr_fr r h h3 := by
    rw [eh3, eh1]
    refine ⟨fun c hc => ?_, fun c hc => if_neg hc⟩
    simp only [pLW, Bool.or_eq_false_iff, beq_eq_false_iff_ne, rg, decide_eq_false_iff_not] at hc
    dsimp only
    rw [mm_up_n (by omega), mm_up_n (by omega), mm_up_n (by omega)]
    exact ⟨rfl, rfl⟩
  have Q := K19 13 (pos, 0, []) [] h3 rfl (by decide) (zb_I0 t.le) S3 L3 f3
  refine mm_Es (fun _ _ => mm_aload_n dX4_read_0 rfl rfl) ?_
  refine mm_Es (fun _ _ => mm_aload_n dX4_read_1 rfl rfl) ?_
  refine mm_Es (fun _ _ => mm_putR dX4_read_2 fX4_18 sh_18 rfl (by decide) (by decide)) ?_
  refine mm_Es (fun _ _ => mm_cast rfl rfl eh1.symm) ?_
  refine mm_Es (fun _ _ => mm_aload_n dX4_read_5 rfl rfl) ?_
  refine mm_Es (fun _ _ => mm_getR dX4_read_6 fX4_18 sh_18 rfl a31) ?_
  refine mm_Es (fun _ _ => mm_cV (Y1 := YX3_clear) dX4_read_9 lX4_22 vX3_clear (MC) (law_i r hr).1 rfl rfl (by simp [Value.category])) ?_
  refine mm_Es (fun _ _ => mm_aload_n dX4_read_12 rfl rfl) ?_
  refine mm_Es (fun _ _ => mm_iconst (x := 0) dX4_read_13 (by decide)) ?_
  refine mm_Es (fun _ _ => mm_putI dX4_read_14 fX4_25 sh_18 rfl rfl rfl) ?_
  refine mm_Es (fun _ _ => mm_cast rfl rfl eh3.symm) ?_
  refine mm_Es (fun _ _ => mm_iconst (x := 0) dX4_read_17 (by decide)) ?_
  refine mm_Es (fun _ _ => mm_istore_n dX4_read_18 rfl (by decide) rfl) ?_
  exact Q
def pCL (r : Nat) : Nat → Bool := fun c => c == 0 || rg 4 7 c || c == 18 || rg (25 + 6 * r) (30 + 6 * r) c
def cw_fr (r : Nat) (h g : mm_H) : Prop := (∀ c, pCL r c = false → g.1 c = h.1 c ∧ g.2.1 c = h.2.1 c) ∧ (∀ c, c ≠ 18 → g.2.2 c = h.2.2 c) ∧ ∀ j, j ≠ 1 → j ≠ 6 → g.1 0 j = h.1 0 j
def upQ (LQ : Nat → LD) (nl : Nat) (Q : LD) : Nat → LD := fun r => if r = nl then Q else LQ r
/-- what the class's law answers and leaves -/
def clP (g : mm_H) (A : MD) (LQ : Nat → LD) (nl G : Nat) (x : Int32) (q : Except Nat (zl_S × List zl_C)) : Prop := match q with
  | .ok q => x = nI nl ∧ stC A (upQ LQ nl (zl_LD q)) (nl + 1) g G
  | .error c => x = -2 - nI c ∧ stC A LQ nl g G
set_option maxRecDepth 100000 in
set_option maxHeartbeats 4000000 in
theorem mX10_law_6 (d : Nat) (h : mm_H) (hc : h.1 0 6 = nI 6) : mm_M d YX10_law [.ref 0] h (some (.int (-1))) h := by
  refine mm_M.of [some (.ref 0), none] rfl rfl (Nat.le_of_ble_eq_true rfl) ?_
  refine mm_aload_n dX10_law_0 rfl rfl ?_
  refine mm_getI dX10_law_1 fX10_120 sh_0 rfl ?_
  refine mm_bipush (x := 6) dX10_law_4 (by decide) ?_
  refine mm_icmp_lt 11 dX10_law_6 (by decide) (fun c_6 => ?_) (fun c_6 => ?_)
  · exact absurd c_6 (by rw [hc]; decide)
  · refine mm_iconst (x := (-1)) dX10_law_9 (by decide) ?_
    exact mm_iretE dX10_law_10 rfl rfl rfl
set_option maxRecDepth 100000 in
set_option maxHeartbeats 4000000 in
theorem mX10_law (d : Nat) (h : mm_H) (A : MD) (LQ : Nat → LD) (nl G : Nat) (S : stC A LQ nl h G) (hnl : nl < 6) (B : Nat → Int32) (n : Nat) (hn : n ≤ 400) (h1 : h.1 0 1 = nI n) (hB : ∀ i, i < n → h.1 1 i = B i) : ∃ x g, mm_M (d + 27) YX10_law [.ref 0] h (some (.int x)) g ∧ cw_fr nl h g ∧ g.1 0 1 = 0 ∧ clP g A LQ nl G x (zl_q B n 14 (sk B n 0, 0, []) []) := by
  have hr := hnl
  have S0 := S
  obtain ⟨hA, hV, h6, hn6, hL, ⟨c1, r0, c2, c3, c4⟩, hcG⟩ := S
  obtain ⟨g1, M1, t1, f1⟩ := mX8_split (d + 19) h B n hn hB
  obtain ⟨g2, eg2⟩ : ∃ g : mm_H, g = (mm_up g1.1 0 1 0, g1.2.1, g1.2.2) := ⟨_, rfl⟩
  have f2 : frm (onep 0) g1 g2 := by rw [eg2]; exact (frm.refl _ g1).up (c := 0) rfl
  have t2 : TX B n g2 (sk B n 0) 0 := TX_f t1 f2 ⟨rfl, rfl, rfl, rfl⟩
  obtain ⟨c, g3, M3, f3, r3⟩ := mX4_read d g2 B n hn nl hnl (sk B n 0) t2
  have pl : ∀ c, pCL nl c = false → pLW nl c = false ∧ rg 4 7 c = false ∧ onep 0 c = false := fun c hc => by
    simp only [pCL, pLW, onep, Bool.or_eq_false_iff, beq_eq_false_iff_ne, rg, decide_eq_false_iff_not] at hc ⊢; omega
  have e3 : ∀ c, pCL nl c = false → g3.1 c = h.1 c ∧ g3.2.1 c = h.2.1 c := fun c hc => by
    obtain ⟨p1, p2, p3⟩ := pl c hc
    exact ⟨(f3.1 c p1).1.trans ((f2.1 c p3).1.trans (f1.1 c p2).1), (f3.1 c p1).2.trans ((f2.1 c p3).2.trans (f1.1 c p2).2)⟩
  have r22 : ∀ c, c ≠ 18 → g3.2.2 c = h.2.2 c := fun c hc => by rw [f3.2 c hc, f2.2, f1.2]
  have p0 : pLW nl 0 = false := by simp only [pLW, Bool.or_eq_false_iff, beq_eq_false_iff_ne, rg, decide_eq_false_iff_not]; omega
  have e01 : g3.1 0 1 = 0 := by rw [(f3.1 0 p0).1, eg2]; dsimp only; rw [mm_up_e]
  have e0 : ∀ j, j ≠ 1 → g3.1 0 j = h.1 0 j := fun j hj => by rw [(f3.1 0 p0).1, eg2]; dsimp only; rw [mm_up_k hj, f1.i rfl]
  have e26 : g2.1 0 6 = nI nl := by rw [eg2]; dsimp only; rw [mm_up_k (by decide), f1.i rfl]; exact h6
  have e36 : g3.1 0 6 = nI nl := by rw [e0 6 (by decide)]; exact h6
  have h16 : g1.1 0 1 = nI n := by rw [f1.i rfl]; exact h1
  /- what is kept of the class's side, whatever was read -/
  have keep : ∀ (g : mm_H) (LQ2 : Nat → LD) (n2 : Nat), n2 ≤ 6 → nl ≤ n2 → (∀ r, r < nl → LQ2 r = LQ r) → (∀ c, pCL nl c = false → g.1 c = h.1 c ∧ g.2.1 c = h.2.1 c) → (∀ c, c ≠ 18 → g.2.2 c = h.2.2 c) → g.1 0 6 = nI n2 → (∀ r, nl ≤ r → r < n2 → lawOK (LQ2 r) ∧ lawC g.1 (25 + 6 * r) (LQ2 r)) → stC A LQ2 n2 g G := by
    intro g LQ2 n2 k1 k2 k3 k4 k5 k6 k7
    have hi : ∀ c, 61 ≤ c → g.1 c = h.1 c := fun c hc => (k4 c (by simp only [pCL, Bool.or_eq_false_iff, beq_eq_false_iff_ne, rg, decide_eq_false_iff_not]; omega)).1
    have lo : ∀ r, r < nl → ∀ c, 25 + 6 * r ≤ c → c ≤ 25 + 6 * r + 5 → g.1 c = h.1 c := fun r hr c q1 q2 => (k4 c (by simp only [pCL, Bool.or_eq_false_iff, beq_eq_false_iff_ne, rg, decide_eq_false_iff_not]; omega)).1
    have vw : viewC g A := by
      unfold viewC
      rw [hi 65 (by decide), hi 66 (by decide), hi 67 (by decide), hi 68 (by decide), hi 69 (by decide), hi 70 (by decide), hi 71 (by decide), hi 72 (by decide), hi 73 (by decide)]
      exact hV
    have lw : ∀ r, r < nl → lawC g.1 (25 + 6 * r) (LQ r) := fun r hr => lawC_c (hL r hr).2 (lo r hr)
    refine ⟨hA, vw, k6, k1, fun r hr2 => ?_, ⟨by rw [hi 138 (by decide)]; exact c1, r0, c2, by rw [k5 135 (by decide)]; exact c3, ?_⟩, gcn_c hcG (by rw [hi 135 (by decide)]) (hi 142 (by decide)) (hi 143 (by decide))⟩
    · by_cases z : r < nl
      · rw [k3 r z]; exact ⟨(hL r z).1, lw r z⟩
      · exact k7 r (by omega) hr2
    · rcases c4 with w | ⟨k, w1, w2, w3⟩
      · exact Or.inl (by rw [hi 135 (by decide)]; exact w)
      · refine Or.inr ⟨k, w1, by omega, ?_, by rw [k5 135 (by decide)]; exact w3.2.1, by rw [hi 135 (by decide)]; exact w3.2.2⟩
        obtain ⟨⟨x1, x2, x3, x4, x5, m, W, x6⟩, -⟩ := w3
        rw [k3 r0 w2]
        exact ⟨vw, lw r0 w2, by rw [k5 145 (by decide)]; exact x3, by rw [hi 145 (by decide)]; exact x4, kinv_c x5 (hi 146 (by decide)) (hi 147 (by decide)), m, W, cinv_f x6 (by rw [hi 135 (by decide)]) (hi 136 (by decide)) (hi 138 (by decide)) (hi 139 (by decide)) (hi 140 (by decide)) (hi 141 (by decide)) (fun b _ => Or.inr (by rw [hi 137 (by decide)]))⟩
  cases e : zl_q B n 14 (sk B n 0, 0, []) [] with
  | error q =>
    rw [e] at r3
    obtain ⟨rfl, q0, q4⟩ := r3
    refine ⟨-2 - nI c, g3, ?_, ⟨e3, r22, fun j hj _ => e0 j hj⟩, e01, rfl, keep g3 LQ nl hn6 (Nat.le_refl _) (fun _ _ => rfl) e3 r22 e36 (fun r z1 z2 => by omega)⟩
    refine mm_M.of [some (.ref 0), none] rfl rfl (Nat.le_of_ble_eq_true rfl) ?_
    refine mm_aload_n dX10_law_0 rfl rfl ?_
    refine mm_getI dX10_law_1 fX10_120 sh_0 rfl ?_
    refine mm_bipush (x := 6) dX10_law_4 (by decide) ?_
    refine mm_icmp_lt 11 dX10_law_6 (by decide) (fun c_6 => ?_) (fun c_6 => ?_)
    · refine mm_aload_n dX10_law_11 rfl rfl ?_
      refine mm_getS dX10_law_12 fX10_16 sh_0 rfl gr_0_2 ?_
      refine mm_aload_n dX10_law_15 rfl rfl ?_
      refine mm_getS dX10_law_16 fX10_9 sh_0 rfl gr_0_0 ?_
      refine mm_aload_n dX10_law_19 rfl rfl ?_
      refine mm_getI dX10_law_20 fX10_91 sh_0 rfl ?_
      refine mm_cast (st' := [.int (nI n), .ref 1, .ref 4]) rfl (by rw [h1] <;> rfl) rfl ?_
      refine mm_cV (Y1 := YX8_split) dX10_law_23 lX10_99 vX8_split (M1) sh_4 rfl rfl (by simp [Value.category]) ?_
      refine mm_aload_n dX10_law_26 rfl rfl ?_
      refine mm_iconst (x := 0) dX10_law_27 (by decide) ?_
      refine mm_putI dX10_law_28 fX10_91 sh_0 rfl rfl rfl ?_
      refine mm_cast rfl rfl eg2.symm ?_
      refine mm_aload_n dX10_law_31 rfl rfl ?_
      refine mm_getS dX10_law_32 fX10_32 sh_0 rfl gr_0_4 ?_
      refine mm_aload_n dX10_law_35 rfl rfl ?_
      refine mm_getS dX10_law_36 fX10_38 sh_0 rfl gr_0_5 ?_
      refine mm_aload_n dX10_law_39 rfl rfl ?_
      refine mm_getI dX10_law_40 fX10_120 sh_0 rfl ?_
      refine mm_aald (nl) dX10_law_43 (Or.inl rfl) sh_2 e26 (by omega) (gr_2 (by omega)) ?_
      refine mm_cV (Y1 := YX4_read) dX10_law_44 lX10_123 vX4_read (M3) sh_18 rfl rfl (by simp [Value.category]) ?_
      refine mm_istore_n dX10_law_47 rfl (by decide) rfl ?_
      refine mm_iload_n dX10_law_48 rfl rfl ?_
      refine mm_if_eq 57 dX10_law_49 (by decide) (fun c_49 => ?_) (fun c_49 => ?_)
      · exact absurd ((nI_eq (b := 0) (by omega) (by omega)).mp c_49) q0
      · refine mm_bipush (x := (-2)) dX10_law_52 (by decide) ?_
        refine mm_iload_n dX10_law_54 rfl rfl ?_
        refine mm_isub dX10_law_55 ?_
        exact mm_iretE dX10_law_56 rfl rfl rfl
    · exact absurd (by rw [h6]; exact nI_lt (b := 6) hnl (by omega)) c_6
  | ok q =>
    rw [e] at r3
    obtain ⟨rfl, hC⟩ := r3
    have sk0 := sk_ge (B := B) (n := n) (p := 0) (Nat.zero_le _)
    obtain ⟨I, h12⟩ := zb_q 14 (sk B n 0, 0, []) [] q (by decide) (zb_I0 sk0.2) e
    have hOK := zl_LD_ok hn I h12
    obtain ⟨g4, eg4⟩ : ∃ g : mm_H, g = (mm_up g3.1 0 6 (nI (nl + 1)), g3.2.1, g3.2.2) := ⟨_, rfl⟩
    have n4 : ∀ c, c ≠ 0 → g4.1 c = g3.1 c := fun c hc => by rw [eg4]; dsimp only; rw [mm_up_n hc]
    have e4 : ∀ c, pCL nl c = false → g4.1 c = h.1 c ∧ g4.2.1 c = h.2.1 c := fun c hc => by
      have z : c ≠ 0 := by simp only [pCL, Bool.or_eq_false_iff, beq_eq_false_iff_ne, rg, decide_eq_false_iff_not] at hc; omega
      exact ⟨(n4 c z).trans (e3 c hc).1, by rw [eg4]; exact (e3 c hc).2⟩
    have r24 : ∀ c, c ≠ 18 → g4.2.2 c = h.2.2 c := fun c hc => by rw [eg4]; exact r22 c hc
    have e46 : g4.1 0 6 = nI (nl + 1) := by rw [eg4]; dsimp only; rw [mm_up_e]
    have ej : ∀ j, j ≠ 6 → g4.1 0 j = g3.1 0 j := fun j hj => by rw [eg4]; dsimp only; rw [mm_up_k hj]
    refine ⟨nI nl, g4, ?_, ⟨e4, r24, fun j h1 h2 => by rw [ej j h2]; exact e0 j h1⟩, by rw [ej 1 (by decide)]; exact e01, rfl, keep g4 _ (nl + 1) hnl (by omega) (fun r z => if_neg (by omega)) e4 r24 e46 (fun r z1 z2 => ?_)⟩
    · refine mm_M.of [some (.ref 0), none] rfl rfl (Nat.le_of_ble_eq_true rfl) ?_
      refine mm_aload_n dX10_law_0 rfl rfl ?_
      refine mm_getI dX10_law_1 fX10_120 sh_0 rfl ?_
      refine mm_bipush (x := 6) dX10_law_4 (by decide) ?_
      refine mm_icmp_lt 11 dX10_law_6 (by decide) (fun c_6 => ?_) (fun c_6 => ?_)
      · refine mm_aload_n dX10_law_11 rfl rfl ?_
        refine mm_getS dX10_law_12 fX10_16 sh_0 rfl gr_0_2 ?_
        refine mm_aload_n dX10_law_15 rfl rfl ?_
        refine mm_getS dX10_law_16 fX10_9 sh_0 rfl gr_0_0 ?_
        refine mm_aload_n dX10_law_19 rfl rfl ?_
        refine mm_getI dX10_law_20 fX10_91 sh_0 rfl ?_
        refine mm_cast (st' := [.int (nI n), .ref 1, .ref 4]) rfl (by rw [h1] <;> rfl) rfl ?_
        refine mm_cV (Y1 := YX8_split) dX10_law_23 lX10_99 vX8_split (M1) sh_4 rfl rfl (by simp [Value.category]) ?_
        refine mm_aload_n dX10_law_26 rfl rfl ?_
        refine mm_iconst (x := 0) dX10_law_27 (by decide) ?_
        refine mm_putI dX10_law_28 fX10_91 sh_0 rfl rfl rfl ?_
        refine mm_cast rfl rfl eg2.symm ?_
        refine mm_aload_n dX10_law_31 rfl rfl ?_
        refine mm_getS dX10_law_32 fX10_32 sh_0 rfl gr_0_4 ?_
        refine mm_aload_n dX10_law_35 rfl rfl ?_
        refine mm_getS dX10_law_36 fX10_38 sh_0 rfl gr_0_5 ?_
        refine mm_aload_n dX10_law_39 rfl rfl ?_
        refine mm_getI dX10_law_40 fX10_120 sh_0 rfl ?_
        refine mm_aald (nl) dX10_law_43 (Or.inl rfl) sh_2 e26 (by omega) (gr_2 (by omega)) ?_
        refine mm_cV (Y1 := YX4_read) dX10_law_44 lX10_123 vX4_read (M3) sh_18 rfl rfl (by simp [Value.category]) ?_
        refine mm_istore_n dX10_law_47 rfl (by decide) rfl ?_
        refine mm_iload_n dX10_law_48 rfl rfl ?_
        refine mm_if_eq 57 dX10_law_49 (by decide) (fun c_49 => ?_) (fun c_49 => ?_)
        · refine mm_aload_n dX10_law_57 rfl rfl ?_
          refine mm_dup dX10_law_58 rfl ?_
          refine mm_getI dX10_law_59 fX10_120 sh_0 rfl ?_
          refine mm_iconst (x := 1) dX10_law_62 (by decide) ?_
          refine mm_iadd dX10_law_63 ?_
          refine mm_putI dX10_law_64 fX10_120 sh_0 rfl rfl rfl ?_
          refine mm_cast rfl rfl (show _ = g4 by rw [eg4, e36, nI_succ]) ?_
          refine mm_aload_n dX10_law_67 rfl rfl ?_
          refine mm_getI dX10_law_68 fX10_120 sh_0 rfl ?_
          refine mm_iconst (x := 1) dX10_law_71 (by decide) ?_
          refine mm_isub dX10_law_72 ?_
          exact mm_iretE dX10_law_73 rfl (by rw [e46, nI_succ]; simp) rfl
        · exact absurd rfl c_49
      · exact absurd (by rw [h6]; exact nI_lt (b := 6) hnl (by omega)) c_6
    · obtain rfl : r = nl := by omega
      have eq : upQ LQ r (zl_LD q) r = zl_LD q := if_pos rfl
      rw [eq]
      exact ⟨hOK, lawC_c hC (fun c z1 z2 => n4 c (by omega))⟩
