/-! The class reads a mint: clauses, the whole text. -/
def pM8 : Nat → Bool := fun c => c == 4 || rg 8 17 c
theorem pM8_4 {h g : mm_H} (e : frm (onep 4) h g) : frm pM8 h g := e.mono (fun c hc => by simp only [pM8, Bool.or_eq_false_iff] at hc; exact hc.1)
/-- the class's reader of a mint: draft, what has been told, how far -/
def DS (B : Nat → Int32) (n : Nat) (h : mm_H) (A : MD) (bt dt pos : Nat) : Prop := TX B n h pos 0 ∧ viewD h A ∧ h.1 8 2 = nI bt ∧ h.1 8 3 = nI dt ∧ mn A ≤ 12 ∧ mk A ≤ 4 ∧ bt ≤ 1 ∧ dt ≤ 1
def mclP (B : Nat → Int32) (n : Nat) (g : mm_H) (r : Except Nat (MD × Nat × Nat × Nat)) : Prop := match r with
  | .ok q => DS B n g q.1 q.2.1 q.2.2.1 q.2.2.2
  | .error c => ∃ pos, TX B n g pos c ∧ ¬ c = 0 ∧ c < 4000
theorem fT8 {h g1 ge : mm_H} (fe : frm (rg 9 17) g1 ge) (fc : frm (onep 4) h g1) {j : Nat} : ge.1 8 j = h.1 8 j := by rw [fe.i rfl, fc.i rfl]
set_option maxRecDepth 100000 in
set_option maxHeartbeats 4000000 in
theorem mX6_readClause (d : Nat) (h : mm_H) (B : Nat → Int32) (n : Nat) (hn : n ≤ 400) (A : MD) (bt dt pos : Nat) (S : DS B n h A bt dt pos) : ∃ g, mm_M (d + 3) YX6_readClause [.ref 8] h none g ∧ frm pM8 h g ∧ mclP B n g (mcl B n A bt dt pos) := by
  obtain ⟨t, hV, hb, hd, h12, h4, hb1, hd1⟩ := S
  have hle := t.le
  have M1 := mX8_kind (d + 2) h B n pos 0 t
  have kb := kd_lt B n pos
  have hnx : nx B n pos ≤ n := by
    by_cases z : pos < n
    · exact (nx_bd z).2
    · unfold nx; rw [if_pos (by omega)]; exact Nat.le_refl _
  obtain ⟨f0, F0m, F0t, F0f⟩ := mX8_fail (d + 2) h B n pos 0 t hn (by decide) 0 (by decide)
  obtain ⟨f4, F4m, F4t, F4f⟩ := mX8_fail (d + 2) h B n pos 0 t hn (by decide) 4 (by decide)
  obtain ⟨g0, S0m, S0t, S0f⟩ := mX8_step (d + 2) h B n pos 0 t
  have e9 : g0.1 9 = h.1 9 := S0f.i rfl
  have hV0 : viewD g0 A := viewD_f hV S0f (fun c hc => by simp [onep]; omega)
  have hb0 : g0.1 8 2 = nI bt := by rw [S0f.i rfl]; exact hb
  have hd0 : g0.1 8 3 = nI dt := by rw [S0f.i rfl]; exact hd
  have fin4 : ∀ w, w < 8 → ∀ f, TX B n f pos (flt 0 pos w) → ∃ q, TX B n f q (1 + 8 * pos + w) ∧ ¬ 1 + 8 * pos + w = 0 ∧ 1 + 8 * pos + w < 4000 := fun w hw f ht => ⟨pos, by unfold flt at ht; rw [if_pos rfl] at ht; exact ht, by omega, by omega⟩
  by_cases hk : kd B n pos = 21
  · have MT : ∀ v, v = (pI (12 ≤ mn A)) → mm_M (d + 2) YX6_isTooMany [.ref 8, .int (nI (kd B n pos))] h (some (.int v)) h := by
      intro v hv
      rw [hk]
      refine mm_M.of [some (.ref 8), some (.int (nI 21))] rfl rfl (Nat.le_of_ble_eq_true rfl) ?_
      refine mm_iload_n dX6_isTooMany_0 rfl rfl ?_
      refine mm_lookup (off := 35) 36 dX6_isTooMany_1 (by decide) (by decide) (by decide) ?_
      refine mm_aload_n dX6_isTooMany_36 rfl rfl ?_
      refine mm_getS dX6_isTooMany_37 fX6_12 sh_8 rfl gr_8_0 ?_
      refine mm_getI dX6_isTooMany_40 fX6_62 sh_9 rfl ?_
      refine mm_bipush (x := 12) dX6_isTooMany_43 (by decide) ?_
      refine mm_icmp_lt 52 dX6_isTooMany_45 (by decide) (fun c_45 => ?_) (fun c_45 => ?_)
      · refine mm_iconst (x := 0) dX6_isTooMany_52 (by decide) ?_
        exact mm_zretE dX6_isTooMany_53 rfl (by rw [hv]; exact pI_nar _) (by rw [hv]; first | exact (pI_1 (by rw [hV.1] at c_45; exact Nat.le_of_not_lt (fun z => c_45 (nI_lt (b := 12) z (by omega))))).symm | exact (pI_0 (fun z => by rw [hV.1] at c_45; exact absurd c_45 (nI_nlt (b := 12) z (by omega)))).symm) rfl
      · refine mm_iconst (x := 1) dX6_isTooMany_48 (by decide) ?_
        refine mm_goto 53 dX6_isTooMany_49 (by decide) ?_
        exact mm_zretE dX6_isTooMany_53 rfl (by rw [hv]; exact pI_nar _) (by rw [hv]; first | exact (pI_1 (by rw [hV.1] at c_45; exact Nat.le_of_not_lt (fun z => c_45 (nI_lt (b := 12) z (by omega))))).symm | exact (pI_0 (fun z => by rw [hV.1] at c_45; exact absurd c_45 (nI_nlt (b := 12) z (by omega)))).symm) rfl
    by_cases hfull : 12 ≤ mn A
    · have e : mcl B n A bt dt pos = .error (1 + 8 * pos + 4) := by unfold mcl; rw [if_pos hk, if_pos hfull]
      rw [e]
      refine ⟨f4, ?_, pM8_4 F4f, fin4 4 (by decide) f4 F4t⟩
      refine mm_M.of [some (.ref 8), none] rfl rfl (Nat.le_of_ble_eq_true rfl) ?_
      refine mm_aload_n dX6_readClause_0 rfl rfl ?_
      refine mm_getS dX6_readClause_1 fX6_18 sh_8 rfl gr_8_1 ?_
      refine mm_cV (Y1 := YX8_kind) dX6_readClause_4 lX6_41 vX8_kind (M1) sh_4 rfl rfl (by simp [Value.category]) ?_
      refine mm_istore_n dX6_readClause_7 rfl (by decide) rfl ?_
      refine mm_iload_n dX6_readClause_8 rfl rfl ?_
      refine mm_bipush (x := 21) dX6_readClause_9 (by decide) ?_
      refine mm_icmp_eq 43 dX6_readClause_11 (by decide) (fun c_11 => ?_) (fun c_11 => ?_)
      · refine mm_aload_n dX6_readClause_43 rfl rfl ?_
        refine mm_iload_n dX6_readClause_44 rfl rfl ?_
        refine mm_cV (Y1 := YX6_isTooMany) dX6_readClause_45 lX6_55 vX6_isTooMany (MT _ rfl) sh_8 rfl rfl (by simp [Value.category]) ?_
        refine mm_if_eq 62 dX6_readClause_48 (by decide) (fun c_48 => ?_) (fun c_48 => ?_)
        · exact absurd hfull (pI_e0.mp c_48)
        · refine mm_aload_n dX6_readClause_51 rfl rfl ?_
          refine mm_getS dX6_readClause_52 fX6_18 sh_8 rfl gr_8_1 ?_
          refine mm_iconst (x := 4) dX6_readClause_55 (by decide) ?_
          refine mm_cV (Y1 := YX8_fail) dX6_readClause_56 lX6_51 vX8_fail (F4m) sh_4 rfl rfl (by simp [Value.category]) ?_
          refine mm_goto 74 dX6_readClause_59 (by decide) ?_
          exact mm_retE dX6_readClause_74 rfl rfl
      · exact absurd (by rw [hk]; rfl) c_11
    · skip
      have L0 : (nx B n pos, 0).1 ≤ n ∧ (nx B n pos, 0).2 < 4000 := ⟨hnx, by show 0 < 4000; decide⟩
      obtain ⟨g1, R1m, R1t, R1f⟩ := mX6_readNumber d g0 B n hn (nx B n pos, 0).1 (nx B n pos, 0).2 L0.2 S0t 0 2400
      have L1 : (rd B n (nx B n pos, 0) 0 2400).1 ≤ n ∧ (rd B n (nx B n pos, 0) 0 2400).2 < 4000 := rd_lt hn L0.1 L0.2 0 2400
      obtain ⟨g2, R2m, R2t, R2f⟩ := mX6_readNumber d g1 B n hn (rd B n (nx B n pos, 0) 0 2400).1 (rd B n (nx B n pos, 0) 0 2400).2 L1.2 R1t 1 99
      have L2 : (rd B n (rd B n (nx B n pos, 0) 0 2400) 1 99).1 ≤ n ∧ (rd B n (rd B n (nx B n pos, 0) 0 2400) 1 99).2 < 4000 := rd_lt hn L1.1 L1.2 1 99
      obtain ⟨g3, R3m, R3t, R3f⟩ := mX6_readNumber d g2 B n hn (rd B n (rd B n (nx B n pos, 0) 0 2400) 1 99).1 (rd B n (rd B n (nx B n pos, 0) 0 2400) 1 99).2 L2.2 R2t 0 999
      have L3 : (rd B n (rd B n (rd B n (nx B n pos, 0) 0 2400) 1 99) 0 999).1 ≤ n ∧ (rd B n (rd B n (rd B n (nx B n pos, 0) 0 2400) 1 99) 0 999).2 < 4000 := rd_lt hn L2.1 L2.2 0 999
      obtain ⟨g4, R4m, R4t, R4f⟩ := mX6_readNumber d g3 B n hn (rd B n (rd B n (rd B n (nx B n pos, 0) 0 2400) 1 99) 0 999).1 (rd B n (rd B n (rd B n (nx B n pos, 0) 0 2400) 1 99) 0 999).2 L3.2 R3t 1 99
      have L4 : (rd B n (rd B n (rd B n (rd B n (nx B n pos, 0) 0 2400) 1 99) 0 999) 1 99).1 ≤ n ∧ (rd B n (rd B n (rd B n (rd B n (nx B n pos, 0) 0 2400) 1 99) 0 999) 1 99).2 < 4000 := rd_lt hn L3.1 L3.2 1 99
      have fch : frm (onep 4) h g4 := ((((S0f.trans R1f).trans R2f).trans R3f).trans R4f)
      have hVm : viewD g4 A := viewD_f hV fch (fun c hc => by simp [onep]; omega)
      have MA := mX5_addCoin (d + 1) g4 (mn A) hVm.1 (by omega) (num B n (nx B n pos, 0).1) (num B n (rd B n (nx B n pos, 0) 0 2400).1) (num B n (rd B n (rd B n (nx B n pos, 0) 0 2400) 1 99).1) (num B n (rd B n (rd B n (rd B n (nx B n pos, 0) 0 2400) 1 99) 0 999).1)
      obtain ⟨ge, ege⟩ : ∃ ge : mm_H, ge = ((mm_up (mm_up (mm_up (mm_up (mm_up (mm_up (mm_up g4.1 10 (mn A) (num B n (nx B n pos, 0).1)) 11 (mn A) (num B n (rd B n (nx B n pos, 0) 0 2400).1)) 12 (mn A) (num B n (rd B n (rd B n (nx B n pos, 0) 0 2400) 1 99).1)) 13 (mn A) (num B n (rd B n (rd B n (rd B n (nx B n pos, 0) 0 2400) 1 99) 0 999).1)) 14 (mn A) 0) 15 (mn A) 0) 9 0 (nI (mn A + 1))), g4.2.1, g4.2.2) := ⟨_, rfl⟩
      rw [← ege] at MA
      have fq : frm (rg 9 17) g4 g4 := frm.refl _ _
      have fe : frm (rg 9 17) g4 ge := by rw [ege]; exact (((((((fq.up (c := 10) rfl).up (c := 11) rfl).up (c := 12) rfl).up (c := 13) rfl).up (c := 14) rfl).up (c := 15) rfl).up (c := 9) rfl)
      have fT : frm pM8 h ge := (pM8_4 fch).trans (fe.mono (fun c hc => by simp only [pM8, Bool.or_eq_false_iff, rg, decide_eq_false_iff_not] at hc ⊢; omega))
      have tE : TX B n ge (rd B n (rd B n (rd B n (rd B n (nx B n pos, 0) 0 2400) 1 99) 0 999) 1 99).1 (rd B n (rd B n (rd B n (rd B n (nx B n pos, 0) 0 2400) 1 99) 0 999) 1 99).2 := TX_f R4t fe ⟨rfl, rfl, rfl, rfl⟩
      have vE : viewD ge (addC A (num B n (nx B n pos, 0).1) (num B n (rd B n (nx B n pos, 0) 0 2400).1) (num B n (rd B n (rd B n (nx B n pos, 0) 0 2400) 1 99).1) (num B n (rd B n (rd B n (rd B n (nx B n pos, 0) 0 2400) 1 99) 0 999).1)) := by rw [ege]; exact viewD_C hVm _ _ _ _
      have MR : mm_M (d + 2) YX6_readNumbers [.ref 8, .int (nI (kd B n pos))] g0 none ge := by
        rw [hk]
        refine mm_M.of [some (.ref 8), some (.int (nI 21)), none, none, none] rfl rfl (Nat.le_of_ble_eq_true rfl) ?_
        refine mm_iload_n dX6_readNumbers_0 rfl rfl ?_
        refine mm_bipush (x := 21) dX6_readNumbers_1 (by decide) ?_
        refine mm_icmp_ne 54 dX6_readNumbers_3 (by decide) (fun c_3 => ?_) (fun c_3 => ?_)
        · exact absurd rfl c_3
        · refine mm_aload_n dX6_readNumbers_6 rfl rfl ?_
          refine mm_iconst (x := 0) dX6_readNumbers_7 (by decide) ?_
          refine mm_sipush (x := 2400) dX6_readNumbers_8 (by decide) ?_
          refine mm_cV (Y1 := YX6_readNumber) dX6_readNumbers_11 lX6_65 vX6_readNumber (R1m) sh_8 rfl rfl (by simp [Value.category]) ?_
          refine mm_istore_n dX6_readNumbers_14 rfl (by decide) rfl ?_
          refine mm_aload_n dX6_readNumbers_15 rfl rfl ?_
          refine mm_iconst (x := 1) dX6_readNumbers_16 (by decide) ?_
          refine mm_bipush (x := 99) dX6_readNumbers_17 (by decide) ?_
          refine mm_cV (Y1 := YX6_readNumber) dX6_readNumbers_19 lX6_65 vX6_readNumber (R2m) sh_8 rfl rfl (by simp [Value.category]) ?_
          refine mm_istore_n dX6_readNumbers_22 rfl (by decide) rfl ?_
          refine mm_aload_n dX6_readNumbers_23 rfl rfl ?_
          refine mm_iconst (x := 0) dX6_readNumbers_24 (by decide) ?_
          refine mm_sipush (x := 999) dX6_readNumbers_25 (by decide) ?_
          refine mm_cV (Y1 := YX6_readNumber) dX6_readNumbers_28 lX6_65 vX6_readNumber (R3m) sh_8 rfl rfl (by simp [Value.category]) ?_
          refine mm_istore dX6_readNumbers_31 (by decide) rfl ?_
          refine mm_aload_n dX6_readNumbers_33 rfl rfl ?_
          refine mm_getS dX6_readNumbers_34 fX6_12 sh_8 rfl gr_8_0 ?_
          refine mm_iload_n dX6_readNumbers_37 rfl rfl ?_
          refine mm_iload_n dX6_readNumbers_38 rfl rfl ?_
          refine mm_iload dX6_readNumbers_39 rfl ?_
          refine mm_aload_n dX6_readNumbers_41 rfl rfl ?_
          refine mm_iconst (x := 1) dX6_readNumbers_42 (by decide) ?_
          refine mm_bipush (x := 99) dX6_readNumbers_43 (by decide) ?_
          refine mm_cV (Y1 := YX6_readNumber) dX6_readNumbers_45 lX6_65 vX6_readNumber (R4m) sh_8 rfl rfl (by simp [Value.category]) ?_
          refine mm_cV (Y1 := YX5_addCoin) dX6_readNumbers_48 lX6_69 vX5_addCoin (MA) sh_9 rfl rfl (by simp [Value.category]) ?_
          refine mm_goto 135 dX6_readNumbers_51 (by decide) ?_
          exact mm_retE dX6_readNumbers_135 rfl rfl
      by_cases hz : (rd B n (rd B n (rd B n (rd B n (nx B n pos, 0) 0 2400) 1 99) 0 999) 1 99).2 = 0
      · have e : mcl B n A bt dt pos = .ok (addC A (num B n (nx B n pos, 0).1) (num B n (rd B n (nx B n pos, 0) 0 2400).1) (num B n (rd B n (rd B n (nx B n pos, 0) 0 2400) 1 99).1) (num B n (rd B n (rd B n (rd B n (nx B n pos, 0) 0 2400) 1 99) 0 999).1), bt, dt, (rd B n (rd B n (rd B n (rd B n (nx B n pos, 0) 0 2400) 1 99) 0 999) 1 99).1) := by unfold mcl; rw [if_pos hk, if_neg hfull, if_pos hz]
        rw [e]
        refine ⟨ge, ?_, fT, (by have q := tE; rw [hz] at q; exact q), vE, by rw [fT8 fe fch]; exact hb, by rw [fT8 fe fch]; exact hd, by show mn A + 1 ≤ 12; omega, by show mk A ≤ 4; omega, hb1, hd1⟩
        refine mm_M.of [some (.ref 8), none] rfl rfl (Nat.le_of_ble_eq_true rfl) ?_
        refine mm_aload_n dX6_readClause_0 rfl rfl ?_
        refine mm_getS dX6_readClause_1 fX6_18 sh_8 rfl gr_8_1 ?_
        refine mm_cV (Y1 := YX8_kind) dX6_readClause_4 lX6_41 vX8_kind (M1) sh_4 rfl rfl (by simp [Value.category]) ?_
        refine mm_istore_n dX6_readClause_7 rfl (by decide) rfl ?_
        refine mm_iload_n dX6_readClause_8 rfl rfl ?_
        refine mm_bipush (x := 21) dX6_readClause_9 (by decide) ?_
        refine mm_icmp_eq 43 dX6_readClause_11 (by decide) (fun c_11 => ?_) (fun c_11 => ?_)
        · refine mm_aload_n dX6_readClause_43 rfl rfl ?_
          refine mm_iload_n dX6_readClause_44 rfl rfl ?_
          refine mm_cV (Y1 := YX6_isTooMany) dX6_readClause_45 lX6_55 vX6_isTooMany (MT _ rfl) sh_8 rfl rfl (by simp [Value.category]) ?_
          refine mm_if_eq 62 dX6_readClause_48 (by decide) (fun c_48 => ?_) (fun c_48 => ?_)
          · refine mm_aload_n dX6_readClause_62 rfl rfl ?_
            refine mm_getS dX6_readClause_63 fX6_18 sh_8 rfl gr_8_1 ?_
            refine mm_cV (Y1 := YX8_step) dX6_readClause_66 lX6_45 vX8_step (S0m) sh_4 rfl rfl (by simp [Value.category]) ?_
            refine mm_aload_n dX6_readClause_69 rfl rfl ?_
            refine mm_iload_n dX6_readClause_70 rfl rfl ?_
            refine mm_cV (Y1 := YX6_readNumbers) dX6_readClause_71 lX6_59 vX6_readNumbers (MR) sh_8 rfl rfl (by simp [Value.category]) ?_
            exact mm_retE dX6_readClause_74 rfl rfl
          · exact absurd (pI_n0.mp c_48) hfull
        · exact absurd (by rw [hk]; rfl) c_11
      · have e : mcl B n A bt dt pos = .error (rd B n (rd B n (rd B n (rd B n (nx B n pos, 0) 0 2400) 1 99) 0 999) 1 99).2 := by unfold mcl; rw [if_pos hk, if_neg hfull, if_neg hz]
        rw [e]
        refine ⟨ge, ?_, fT, (rd B n (rd B n (rd B n (rd B n (nx B n pos, 0) 0 2400) 1 99) 0 999) 1 99).1, tE, hz, L4.2⟩
        refine mm_M.of [some (.ref 8), none] rfl rfl (Nat.le_of_ble_eq_true rfl) ?_
        refine mm_aload_n dX6_readClause_0 rfl rfl ?_
        refine mm_getS dX6_readClause_1 fX6_18 sh_8 rfl gr_8_1 ?_
        refine mm_cV (Y1 := YX8_kind) dX6_readClause_4 lX6_41 vX8_kind (M1) sh_4 rfl rfl (by simp [Value.category]) ?_
        refine mm_istore_n dX6_readClause_7 rfl (by decide) rfl ?_
        refine mm_iload_n dX6_readClause_8 rfl rfl ?_
        refine mm_bipush (x := 21) dX6_readClause_9 (by decide) ?_
        refine mm_icmp_eq 43 dX6_readClause_11 (by decide) (fun c_11 => ?_) (fun c_11 => ?_)
        · refine mm_aload_n dX6_readClause_43 rfl rfl ?_
          refine mm_iload_n dX6_readClause_44 rfl rfl ?_
          refine mm_cV (Y1 := YX6_isTooMany) dX6_readClause_45 lX6_55 vX6_isTooMany (MT _ rfl) sh_8 rfl rfl (by simp [Value.category]) ?_
          refine mm_if_eq 62 dX6_readClause_48 (by decide) (fun c_48 => ?_) (fun c_48 => ?_)
          · refine mm_aload_n dX6_readClause_62 rfl rfl ?_
            refine mm_getS dX6_readClause_63 fX6_18 sh_8 rfl gr_8_1 ?_
            refine mm_cV (Y1 := YX8_step) dX6_readClause_66 lX6_45 vX8_step (S0m) sh_4 rfl rfl (by simp [Value.category]) ?_
            refine mm_aload_n dX6_readClause_69 rfl rfl ?_
            refine mm_iload_n dX6_readClause_70 rfl rfl ?_
            refine mm_cV (Y1 := YX6_readNumbers) dX6_readClause_71 lX6_59 vX6_readNumbers (MR) sh_8 rfl rfl (by simp [Value.category]) ?_
            exact mm_retE dX6_readClause_74 rfl rfl
          · exact absurd (pI_n0.mp c_48) hfull
        · exact absurd (by rw [hk]; rfl) c_11
  have hk21 : ¬ kd B n pos = 21 := hk
  clear hk
  by_cases hk : kd B n pos = 26
  · have MT : ∀ v, v = (pI (4 ≤ mk A)) → mm_M (d + 2) YX6_isTooMany [.ref 8, .int (nI (kd B n pos))] h (some (.int v)) h := by
      intro v hv
      rw [hk]
      refine mm_M.of [some (.ref 8), some (.int (nI 26))] rfl rfl (Nat.le_of_ble_eq_true rfl) ?_
      refine mm_iload_n dX6_isTooMany_0 rfl rfl ?_
      refine mm_lookup (off := 53) 54 dX6_isTooMany_1 (by decide) (by decide) (by decide) ?_
      refine mm_aload_n dX6_isTooMany_54 rfl rfl ?_
      refine mm_getS dX6_isTooMany_55 fX6_12 sh_8 rfl gr_8_0 ?_
      refine mm_getI dX6_isTooMany_58 fX6_48 sh_9 rfl ?_
      refine mm_iconst (x := 4) dX6_isTooMany_61 (by decide) ?_
      refine mm_icmp_lt 69 dX6_isTooMany_62 (by decide) (fun c_62 => ?_) (fun c_62 => ?_)
      · refine mm_iconst (x := 0) dX6_isTooMany_69 (by decide) ?_
        exact mm_zretE dX6_isTooMany_70 rfl (by rw [hv]; exact pI_nar _) (by rw [hv]; first | exact (pI_1 (by rw [hV.2.1] at c_62; exact Nat.le_of_not_lt (fun z => c_62 (nI_lt (b := 4) z (by omega))))).symm | exact (pI_0 (fun z => by rw [hV.2.1] at c_62; exact absurd c_62 (nI_nlt (b := 4) z (by omega)))).symm) rfl
      · refine mm_iconst (x := 1) dX6_isTooMany_65 (by decide) ?_
        refine mm_goto 70 dX6_isTooMany_66 (by decide) ?_
        exact mm_zretE dX6_isTooMany_70 rfl (by rw [hv]; exact pI_nar _) (by rw [hv]; first | exact (pI_1 (by rw [hV.2.1] at c_62; exact Nat.le_of_not_lt (fun z => c_62 (nI_lt (b := 4) z (by omega))))).symm | exact (pI_0 (fun z => by rw [hV.2.1] at c_62; exact absurd c_62 (nI_nlt (b := 4) z (by omega)))).symm) rfl
    by_cases hfull : 4 ≤ mk A
    · have e : mcl B n A bt dt pos = .error (1 + 8 * pos + 4) := by unfold mcl; rw [if_neg (show ¬ kd B n pos = 21 by omega), if_pos hk, if_pos hfull]
      rw [e]
      refine ⟨f4, ?_, pM8_4 F4f, fin4 4 (by decide) f4 F4t⟩
      refine mm_M.of [some (.ref 8), none] rfl rfl (Nat.le_of_ble_eq_true rfl) ?_
      refine mm_aload_n dX6_readClause_0 rfl rfl ?_
      refine mm_getS dX6_readClause_1 fX6_18 sh_8 rfl gr_8_1 ?_
      refine mm_cV (Y1 := YX8_kind) dX6_readClause_4 lX6_41 vX8_kind (M1) sh_4 rfl rfl (by simp [Value.category]) ?_
      refine mm_istore_n dX6_readClause_7 rfl (by decide) rfl ?_
      refine mm_iload_n dX6_readClause_8 rfl rfl ?_
      refine mm_bipush (x := 21) dX6_readClause_9 (by decide) ?_
      refine mm_icmp_eq 43 dX6_readClause_11 (by decide) (fun c_11 => ?_) (fun c_11 => ?_)
      · exact absurd ((nI_eq (b := 21) (by omega) (by omega)).mp c_11) (by omega)
      · refine mm_iload_n dX6_readClause_14 rfl rfl ?_
        refine mm_bipush (x := 26) dX6_readClause_15 (by decide) ?_
        refine mm_icmp_eq 43 dX6_readClause_17 (by decide) (fun c_17 => ?_) (fun c_17 => ?_)
        · refine mm_aload_n dX6_readClause_43 rfl rfl ?_
          refine mm_iload_n dX6_readClause_44 rfl rfl ?_
          refine mm_cV (Y1 := YX6_isTooMany) dX6_readClause_45 lX6_55 vX6_isTooMany (MT _ rfl) sh_8 rfl rfl (by simp [Value.category]) ?_
          refine mm_if_eq 62 dX6_readClause_48 (by decide) (fun c_48 => ?_) (fun c_48 => ?_)
          · exact absurd hfull (pI_e0.mp c_48)
          · refine mm_aload_n dX6_readClause_51 rfl rfl ?_
            refine mm_getS dX6_readClause_52 fX6_18 sh_8 rfl gr_8_1 ?_
            refine mm_iconst (x := 4) dX6_readClause_55 (by decide) ?_
            refine mm_cV (Y1 := YX8_fail) dX6_readClause_56 lX6_51 vX8_fail (F4m) sh_4 rfl rfl (by simp [Value.category]) ?_
            refine mm_goto 74 dX6_readClause_59 (by decide) ?_
            exact mm_retE dX6_readClause_74 rfl rfl
        · exact absurd (by rw [hk]; rfl) c_17
    · skip
      have L0 : (nx B n pos, 0).1 ≤ n ∧ (nx B n pos, 0).2 < 4000 := ⟨hnx, by show 0 < 4000; decide⟩
      obtain ⟨g1, R1m, R1t, R1f⟩ := mX6_readNumber d g0 B n hn (nx B n pos, 0).1 (nx B n pos, 0).2 L0.2 S0t 0 1200
      have L1 : (rd B n (nx B n pos, 0) 0 1200).1 ≤ n ∧ (rd B n (nx B n pos, 0) 0 1200).2 < 4000 := rd_lt hn L0.1 L0.2 0 1200
      obtain ⟨g2, R2m, R2t, R2f⟩ := mX6_readNumber d g1 B n hn (rd B n (nx B n pos, 0) 0 1200).1 (rd B n (nx B n pos, 0) 0 1200).2 L1.2 R1t 0 99
      have L2 : (rd B n (rd B n (nx B n pos, 0) 0 1200) 0 99).1 ≤ n ∧ (rd B n (rd B n (nx B n pos, 0) 0 1200) 0 99).2 < 4000 := rd_lt hn L1.1 L1.2 0 99
      have fch : frm (onep 4) h g2 := ((S0f.trans R1f).trans R2f)
      have hVm : viewD g2 A := viewD_f hV fch (fun c hc => by simp [onep]; omega)
      have MA := mX5_addCounter (d + 1) g2 (mk A) hVm.2.1 (by omega) (num B n (nx B n pos, 0).1) (num B n (rd B n (nx B n pos, 0) 0 1200).1)
      obtain ⟨ge, ege⟩ : ∃ ge : mm_H, ge = ((mm_up (mm_up (mm_up g2.1 16 (mk A) (num B n (nx B n pos, 0).1)) 17 (mk A) (num B n (rd B n (nx B n pos, 0) 0 1200).1)) 9 7 (nI (mk A + 1))), g2.2.1, g2.2.2) := ⟨_, rfl⟩
      rw [← ege] at MA
      have fq : frm (rg 9 17) g2 g2 := frm.refl _ _
      have fe : frm (rg 9 17) g2 ge := by rw [ege]; exact (((fq.up (c := 16) rfl).up (c := 17) rfl).up (c := 9) rfl)
      have fT : frm pM8 h ge := (pM8_4 fch).trans (fe.mono (fun c hc => by simp only [pM8, Bool.or_eq_false_iff, rg, decide_eq_false_iff_not] at hc ⊢; omega))
      have tE : TX B n ge (rd B n (rd B n (nx B n pos, 0) 0 1200) 0 99).1 (rd B n (rd B n (nx B n pos, 0) 0 1200) 0 99).2 := TX_f R2t fe ⟨rfl, rfl, rfl, rfl⟩
      have vE : viewD ge (addK A (num B n (nx B n pos, 0).1) (num B n (rd B n (nx B n pos, 0) 0 1200).1)) := by rw [ege]; exact viewD_K hVm _ _
      have MR : mm_M (d + 2) YX6_readNumbers [.ref 8, .int (nI (kd B n pos))] g0 none ge := by
        rw [hk]
        refine mm_M.of [some (.ref 8), some (.int (nI 26)), none, none, none] rfl rfl (Nat.le_of_ble_eq_true rfl) ?_
        refine mm_iload_n dX6_readNumbers_0 rfl rfl ?_
        refine mm_bipush (x := 21) dX6_readNumbers_1 (by decide) ?_
        refine mm_icmp_ne 54 dX6_readNumbers_3 (by decide) (fun c_3 => ?_) (fun c_3 => ?_)
        · refine mm_iload_n dX6_readNumbers_54 rfl rfl ?_
          refine mm_bipush (x := 26) dX6_readNumbers_55 (by decide) ?_
          refine mm_icmp_ne 87 dX6_readNumbers_57 (by decide) (fun c_57 => ?_) (fun c_57 => ?_)
          · exact absurd rfl c_57
          · refine mm_aload_n dX6_readNumbers_60 rfl rfl ?_
            refine mm_iconst (x := 0) dX6_readNumbers_61 (by decide) ?_
            refine mm_sipush (x := 1200) dX6_readNumbers_62 (by decide) ?_
            refine mm_cV (Y1 := YX6_readNumber) dX6_readNumbers_65 lX6_65 vX6_readNumber (R1m) sh_8 rfl rfl (by simp [Value.category]) ?_
            refine mm_istore_n dX6_readNumbers_68 rfl (by decide) rfl ?_
            refine mm_aload_n dX6_readNumbers_69 rfl rfl ?_
            refine mm_getS dX6_readNumbers_70 fX6_12 sh_8 rfl gr_8_0 ?_
            refine mm_iload_n dX6_readNumbers_73 rfl rfl ?_
            refine mm_aload_n dX6_readNumbers_74 rfl rfl ?_
            refine mm_iconst (x := 0) dX6_readNumbers_75 (by decide) ?_
            refine mm_bipush (x := 99) dX6_readNumbers_76 (by decide) ?_
            refine mm_cV (Y1 := YX6_readNumber) dX6_readNumbers_78 lX6_65 vX6_readNumber (R2m) sh_8 rfl rfl (by simp [Value.category]) ?_
            refine mm_cV (Y1 := YX5_addCounter) dX6_readNumbers_81 lX6_73 vX5_addCounter (MA) sh_9 rfl rfl (by simp [Value.category]) ?_
            refine mm_goto 135 dX6_readNumbers_84 (by decide) ?_
            exact mm_retE dX6_readNumbers_135 rfl rfl
        · exact absurd c_3 (by decide)
      by_cases hz : (rd B n (rd B n (nx B n pos, 0) 0 1200) 0 99).2 = 0
      · have e : mcl B n A bt dt pos = .ok (addK A (num B n (nx B n pos, 0).1) (num B n (rd B n (nx B n pos, 0) 0 1200).1), bt, dt, (rd B n (rd B n (nx B n pos, 0) 0 1200) 0 99).1) := by unfold mcl; rw [if_neg (show ¬ kd B n pos = 21 by omega), if_pos hk, if_neg hfull, if_pos hz]
        rw [e]
        refine ⟨ge, ?_, fT, (by have q := tE; rw [hz] at q; exact q), vE, by rw [fT8 fe fch]; exact hb, by rw [fT8 fe fch]; exact hd, by show mn A ≤ 12; omega, by show mk A + 1 ≤ 4; omega, hb1, hd1⟩
        refine mm_M.of [some (.ref 8), none] rfl rfl (Nat.le_of_ble_eq_true rfl) ?_
        refine mm_aload_n dX6_readClause_0 rfl rfl ?_
        refine mm_getS dX6_readClause_1 fX6_18 sh_8 rfl gr_8_1 ?_
        refine mm_cV (Y1 := YX8_kind) dX6_readClause_4 lX6_41 vX8_kind (M1) sh_4 rfl rfl (by simp [Value.category]) ?_
        refine mm_istore_n dX6_readClause_7 rfl (by decide) rfl ?_
        refine mm_iload_n dX6_readClause_8 rfl rfl ?_
        refine mm_bipush (x := 21) dX6_readClause_9 (by decide) ?_
        refine mm_icmp_eq 43 dX6_readClause_11 (by decide) (fun c_11 => ?_) (fun c_11 => ?_)
        · exact absurd ((nI_eq (b := 21) (by omega) (by omega)).mp c_11) (by omega)
        · refine mm_iload_n dX6_readClause_14 rfl rfl ?_
          refine mm_bipush (x := 26) dX6_readClause_15 (by decide) ?_
          refine mm_icmp_eq 43 dX6_readClause_17 (by decide) (fun c_17 => ?_) (fun c_17 => ?_)
          · refine mm_aload_n dX6_readClause_43 rfl rfl ?_
            refine mm_iload_n dX6_readClause_44 rfl rfl ?_
            refine mm_cV (Y1 := YX6_isTooMany) dX6_readClause_45 lX6_55 vX6_isTooMany (MT _ rfl) sh_8 rfl rfl (by simp [Value.category]) ?_
            refine mm_if_eq 62 dX6_readClause_48 (by decide) (fun c_48 => ?_) (fun c_48 => ?_)
            · refine mm_aload_n dX6_readClause_62 rfl rfl ?_
              refine mm_getS dX6_readClause_63 fX6_18 sh_8 rfl gr_8_1 ?_
              refine mm_cV (Y1 := YX8_step) dX6_readClause_66 lX6_45 vX8_step (S0m) sh_4 rfl rfl (by simp [Value.category]) ?_
              refine mm_aload_n dX6_readClause_69 rfl rfl ?_
              refine mm_iload_n dX6_readClause_70 rfl rfl ?_
              refine mm_cV (Y1 := YX6_readNumbers) dX6_readClause_71 lX6_59 vX6_readNumbers (MR) sh_8 rfl rfl (by simp [Value.category]) ?_
              exact mm_retE dX6_readClause_74 rfl rfl
            · exact absurd (pI_n0.mp c_48) hfull
          · exact absurd (by rw [hk]; rfl) c_17
      · have e : mcl B n A bt dt pos = .error (rd B n (rd B n (nx B n pos, 0) 0 1200) 0 99).2 := by unfold mcl; rw [if_neg (show ¬ kd B n pos = 21 by omega), if_pos hk, if_neg hfull, if_neg hz]
        rw [e]
        refine ⟨ge, ?_, fT, (rd B n (rd B n (nx B n pos, 0) 0 1200) 0 99).1, tE, hz, L2.2⟩
        refine mm_M.of [some (.ref 8), none] rfl rfl (Nat.le_of_ble_eq_true rfl) ?_
        refine mm_aload_n dX6_readClause_0 rfl rfl ?_
        refine mm_getS dX6_readClause_1 fX6_18 sh_8 rfl gr_8_1 ?_
        refine mm_cV (Y1 := YX8_kind) dX6_readClause_4 lX6_41 vX8_kind (M1) sh_4 rfl rfl (by simp [Value.category]) ?_
        refine mm_istore_n dX6_readClause_7 rfl (by decide) rfl ?_
        refine mm_iload_n dX6_readClause_8 rfl rfl ?_
        refine mm_bipush (x := 21) dX6_readClause_9 (by decide) ?_
        refine mm_icmp_eq 43 dX6_readClause_11 (by decide) (fun c_11 => ?_) (fun c_11 => ?_)
        · exact absurd ((nI_eq (b := 21) (by omega) (by omega)).mp c_11) (by omega)
        · refine mm_iload_n dX6_readClause_14 rfl rfl ?_
          refine mm_bipush (x := 26) dX6_readClause_15 (by decide) ?_
          refine mm_icmp_eq 43 dX6_readClause_17 (by decide) (fun c_17 => ?_) (fun c_17 => ?_)
          · refine mm_aload_n dX6_readClause_43 rfl rfl ?_
            refine mm_iload_n dX6_readClause_44 rfl rfl ?_
            refine mm_cV (Y1 := YX6_isTooMany) dX6_readClause_45 lX6_55 vX6_isTooMany (MT _ rfl) sh_8 rfl rfl (by simp [Value.category]) ?_
            refine mm_if_eq 62 dX6_readClause_48 (by decide) (fun c_48 => ?_) (fun c_48 => ?_)
            · refine mm_aload_n dX6_readClause_62 rfl rfl ?_
              refine mm_getS dX6_readClause_63 fX6_18 sh_8 rfl gr_8_1 ?_
              refine mm_cV (Y1 := YX8_step) dX6_readClause_66 lX6_45 vX8_step (S0m) sh_4 rfl rfl (by simp [Value.category]) ?_
              refine mm_aload_n dX6_readClause_69 rfl rfl ?_
              refine mm_iload_n dX6_readClause_70 rfl rfl ?_
              refine mm_cV (Y1 := YX6_readNumbers) dX6_readClause_71 lX6_59 vX6_readNumbers (MR) sh_8 rfl rfl (by simp [Value.category]) ?_
              exact mm_retE dX6_readClause_74 rfl rfl
            · exact absurd (pI_n0.mp c_48) hfull
          · exact absurd (by rw [hk]; rfl) c_17
  have hk26 : ¬ kd B n pos = 26 := hk
  clear hk
  by_cases hk : kd B n pos = 27
  · have MT : ∀ v, v = (nI bt) → mm_M (d + 2) YX6_isTooMany [.ref 8, .int (nI (kd B n pos))] h (some (.int v)) h := by
      intro v hv
      rw [hk]
      refine mm_M.of [some (.ref 8), some (.int (nI 27))] rfl rfl (Nat.le_of_ble_eq_true rfl) ?_
      refine mm_iload_n dX6_isTooMany_0 rfl rfl ?_
      refine mm_lookup (off := 70) 71 dX6_isTooMany_1 (by decide) (by decide) (by decide) ?_
      refine mm_aload_n dX6_isTooMany_71 rfl rfl ?_
      refine mm_getI dX6_isTooMany_72 fX6_25 sh_8 rfl ?_
      exact mm_zretE dX6_isTooMany_75 rfl (by rw [hv]; rcases (show bt = 0 ∨ bt = 1 by omega) with z | z <;> (rw [z] <;> rfl)) (by rw [hv]; exact hb) rfl
    by_cases hfull : ¬ bt = 0
    · have e : mcl B n A bt dt pos = .error (1 + 8 * pos + 4) := by unfold mcl; rw [if_neg (show ¬ kd B n pos = 21 by omega), if_neg (show ¬ kd B n pos = 26 by omega), if_pos hk, if_pos hfull]
      rw [e]
      refine ⟨f4, ?_, pM8_4 F4f, fin4 4 (by decide) f4 F4t⟩
      refine mm_M.of [some (.ref 8), none] rfl rfl (Nat.le_of_ble_eq_true rfl) ?_
      refine mm_aload_n dX6_readClause_0 rfl rfl ?_
      refine mm_getS dX6_readClause_1 fX6_18 sh_8 rfl gr_8_1 ?_
      refine mm_cV (Y1 := YX8_kind) dX6_readClause_4 lX6_41 vX8_kind (M1) sh_4 rfl rfl (by simp [Value.category]) ?_
      refine mm_istore_n dX6_readClause_7 rfl (by decide) rfl ?_
      refine mm_iload_n dX6_readClause_8 rfl rfl ?_
      refine mm_bipush (x := 21) dX6_readClause_9 (by decide) ?_
      refine mm_icmp_eq 43 dX6_readClause_11 (by decide) (fun c_11 => ?_) (fun c_11 => ?_)
      · exact absurd ((nI_eq (b := 21) (by omega) (by omega)).mp c_11) (by omega)
      · refine mm_iload_n dX6_readClause_14 rfl rfl ?_
        refine mm_bipush (x := 26) dX6_readClause_15 (by decide) ?_
        refine mm_icmp_eq 43 dX6_readClause_17 (by decide) (fun c_17 => ?_) (fun c_17 => ?_)
        · exact absurd ((nI_eq (b := 26) (by omega) (by omega)).mp c_17) (by omega)
        · refine mm_iload_n dX6_readClause_20 rfl rfl ?_
          refine mm_bipush (x := 27) dX6_readClause_21 (by decide) ?_
          refine mm_icmp_eq 43 dX6_readClause_23 (by decide) (fun c_23 => ?_) (fun c_23 => ?_)
          · refine mm_aload_n dX6_readClause_43 rfl rfl ?_
            refine mm_iload_n dX6_readClause_44 rfl rfl ?_
            refine mm_cV (Y1 := YX6_isTooMany) dX6_readClause_45 lX6_55 vX6_isTooMany (MT _ rfl) sh_8 rfl rfl (by simp [Value.category]) ?_
            refine mm_if_eq 62 dX6_readClause_48 (by decide) (fun c_48 => ?_) (fun c_48 => ?_)
            · exact absurd ((nI_eq (b := 0) (by omega) (by omega)).mp c_48) hfull
            · refine mm_aload_n dX6_readClause_51 rfl rfl ?_
              refine mm_getS dX6_readClause_52 fX6_18 sh_8 rfl gr_8_1 ?_
              refine mm_iconst (x := 4) dX6_readClause_55 (by decide) ?_
              refine mm_cV (Y1 := YX8_fail) dX6_readClause_56 lX6_51 vX8_fail (F4m) sh_4 rfl rfl (by simp [Value.category]) ?_
              refine mm_goto 74 dX6_readClause_59 (by decide) ?_
              exact mm_retE dX6_readClause_74 rfl rfl
          · exact absurd (by rw [hk]; rfl) c_23
    · skip
      obtain ⟨g1, R1m, R1t, R1f⟩ := mX6_readNumber d g0 B n hn (nx B n pos) 0 (by decide) S0t 0 999
      have L1 : (rd B n (nx B n pos, 0) 0 999).1 ≤ n ∧ (rd B n (nx B n pos, 0) 0 999).2 < 4000 := rd_lt hn (s := (nx B n pos, 0)) hnx (by show 0 < 4000; decide) 0 999
      have fch : frm (onep 4) h g1 := S0f.trans R1f
      have hVm : viewD g1 A := viewD_f hV fch (fun c hc => by simp [onep]; omega)
      obtain ⟨ge, ege⟩ : ∃ ge : mm_H, ge = (mm_up (mm_up g1.1 9 10 (num B n (nx B n pos))) 8 2 1, g1.2.1, g1.2.2) := ⟨_, rfl⟩
      have fe : frm (rg 8 17) g1 ge := by rw [ege]; exact ((frm.refl _ g1).up (c := 9) rfl).up (c := 8) rfl
      have fT : frm pM8 h ge := (pM8_4 fch).trans (fe.mono (fun c hc => by simp only [pM8, Bool.or_eq_false_iff, rg, decide_eq_false_iff_not] at hc ⊢; omega))
      have tE : TX B n ge (rd B n (nx B n pos, 0) 0 999).1 (rd B n (nx B n pos, 0) 0 999).2 := TX_f R1t fe ⟨rfl, rfl, rfl, rfl⟩
      have vE : viewD ge (setB A (num B n (nx B n pos))) := by
        obtain ⟨a1, a2, a3, a4, a5, a6⟩ := hVm
        rw [ege]; unfold viewD; dsimp only
        refine ⟨by rw [mm_up_n (by decide), mm_up_k (by decide)]; exact a1, by rw [mm_up_n (by decide), mm_up_k (by decide)]; exact a2, ?_, ?_, fun c hc => ?_, fun c hc => ?_⟩
        · rw [mm_up_n (by decide), mm_up_e]; rfl
        · rw [mm_up_n (by decide), mm_up_k (by decide)]; exact a4
        · (repeat rw [mm_up_n (by decide)]); exact a5 c hc
        · (repeat rw [mm_up_n (by decide)]); exact a6 c hc
      have e2 : ge.1 8 2 = 1 ∧ ge.1 8 3 = nI dt := by
        rw [ege]; dsimp only
        refine ⟨?_, ?_⟩
        · rw [mm_up_e]
        · rw [mm_up_k (by decide), mm_up_n (by decide), fch.i rfl]; exact hd
      have MR : mm_M (d + 2) YX6_readNumbers [.ref 8, .int (nI (kd B n pos))] g0 none ge := by
        rw [hk, ege]
        refine mm_M.of [some (.ref 8), some (.int (nI 27)), none, none, none] rfl rfl (Nat.le_of_ble_eq_true rfl) ?_
        refine mm_iload_n dX6_readNumbers_0 rfl rfl ?_
        refine mm_bipush (x := 21) dX6_readNumbers_1 (by decide) ?_
        refine mm_icmp_ne 54 dX6_readNumbers_3 (by decide) (fun c_3 => ?_) (fun c_3 => ?_)
        · refine mm_iload_n dX6_readNumbers_54 rfl rfl ?_
          refine mm_bipush (x := 26) dX6_readNumbers_55 (by decide) ?_
          refine mm_icmp_ne 87 dX6_readNumbers_57 (by decide) (fun c_57 => ?_) (fun c_57 => ?_)
          · refine mm_iload_n dX6_readNumbers_87 rfl rfl ?_
            refine mm_bipush (x := 27) dX6_readNumbers_88 (by decide) ?_
            refine mm_icmp_ne 116 dX6_readNumbers_90 (by decide) (fun c_90 => ?_) (fun c_90 => ?_)
            · exact absurd rfl c_90
            · refine mm_aload_n dX6_readNumbers_93 rfl rfl ?_
              refine mm_getS dX6_readNumbers_94 fX6_12 sh_8 rfl gr_8_0 ?_
              refine mm_aload_n dX6_readNumbers_97 rfl rfl ?_
              refine mm_iconst (x := 0) dX6_readNumbers_98 (by decide) ?_
              refine mm_sipush (x := 999) dX6_readNumbers_99 (by decide) ?_
              refine mm_cV (Y1 := YX6_readNumber) dX6_readNumbers_102 lX6_65 vX6_readNumber (R1m) sh_8 rfl rfl (by simp [Value.category]) ?_
              refine mm_putI dX6_readNumbers_105 fX6_77 sh_9 rfl rfl rfl ?_
              refine mm_aload_n dX6_readNumbers_108 rfl rfl ?_
              refine mm_iconst (x := 1) dX6_readNumbers_109 (by decide) ?_
              refine mm_putI dX6_readNumbers_110 fX6_25 sh_8 rfl rfl rfl ?_
              refine mm_goto 135 dX6_readNumbers_113 (by decide) ?_
              exact mm_retE dX6_readNumbers_135 rfl rfl
          · exact absurd c_57 (by decide)
        · exact absurd c_3 (by decide)
      by_cases hz : (rd B n (nx B n pos, 0) 0 999).2 = 0
      · have e : mcl B n A bt dt pos = .ok (setB A (num B n (nx B n pos)), 1, dt, (rd B n (nx B n pos, 0) 0 999).1) := by unfold mcl; rw [if_neg (show ¬ kd B n pos = 21 by omega), if_neg (show ¬ kd B n pos = 26 by omega), if_pos hk, if_neg hfull, if_pos hz]
        rw [e]
        refine ⟨ge, ?_, fT, (by have q := tE; rw [hz] at q; exact q), vE, e2.1, e2.2, h12, h4, Nat.le_refl _, hd1⟩
        refine mm_M.of [some (.ref 8), none] rfl rfl (Nat.le_of_ble_eq_true rfl) ?_
        refine mm_aload_n dX6_readClause_0 rfl rfl ?_
        refine mm_getS dX6_readClause_1 fX6_18 sh_8 rfl gr_8_1 ?_
        refine mm_cV (Y1 := YX8_kind) dX6_readClause_4 lX6_41 vX8_kind (M1) sh_4 rfl rfl (by simp [Value.category]) ?_
        refine mm_istore_n dX6_readClause_7 rfl (by decide) rfl ?_
        refine mm_iload_n dX6_readClause_8 rfl rfl ?_
        refine mm_bipush (x := 21) dX6_readClause_9 (by decide) ?_
        refine mm_icmp_eq 43 dX6_readClause_11 (by decide) (fun c_11 => ?_) (fun c_11 => ?_)
        · exact absurd ((nI_eq (b := 21) (by omega) (by omega)).mp c_11) (by omega)
        · refine mm_iload_n dX6_readClause_14 rfl rfl ?_
          refine mm_bipush (x := 26) dX6_readClause_15 (by decide) ?_
          refine mm_icmp_eq 43 dX6_readClause_17 (by decide) (fun c_17 => ?_) (fun c_17 => ?_)
          · exact absurd ((nI_eq (b := 26) (by omega) (by omega)).mp c_17) (by omega)
          · refine mm_iload_n dX6_readClause_20 rfl rfl ?_
            refine mm_bipush (x := 27) dX6_readClause_21 (by decide) ?_
            refine mm_icmp_eq 43 dX6_readClause_23 (by decide) (fun c_23 => ?_) (fun c_23 => ?_)
            · refine mm_aload_n dX6_readClause_43 rfl rfl ?_
              refine mm_iload_n dX6_readClause_44 rfl rfl ?_
              refine mm_cV (Y1 := YX6_isTooMany) dX6_readClause_45 lX6_55 vX6_isTooMany (MT _ rfl) sh_8 rfl rfl (by simp [Value.category]) ?_
              refine mm_if_eq 62 dX6_readClause_48 (by decide) (fun c_48 => ?_) (fun c_48 => ?_)
              · refine mm_aload_n dX6_readClause_62 rfl rfl ?_
                refine mm_getS dX6_readClause_63 fX6_18 sh_8 rfl gr_8_1 ?_
                refine mm_cV (Y1 := YX8_step) dX6_readClause_66 lX6_45 vX8_step (S0m) sh_4 rfl rfl (by simp [Value.category]) ?_
                refine mm_aload_n dX6_readClause_69 rfl rfl ?_
                refine mm_iload_n dX6_readClause_70 rfl rfl ?_
                refine mm_cV (Y1 := YX6_readNumbers) dX6_readClause_71 lX6_59 vX6_readNumbers (MR) sh_8 rfl rfl (by simp [Value.category]) ?_
                exact mm_retE dX6_readClause_74 rfl rfl
              · exact absurd (by rw [show bt = 0 from Decidable.not_not.mp hfull]; rfl) c_48
            · exact absurd (by rw [hk]; rfl) c_23
      · have e : mcl B n A bt dt pos = .error (rd B n (nx B n pos, 0) 0 999).2 := by unfold mcl; rw [if_neg (show ¬ kd B n pos = 21 by omega), if_neg (show ¬ kd B n pos = 26 by omega), if_pos hk, if_neg hfull, if_neg hz]
        rw [e]
        refine ⟨ge, ?_, fT, (rd B n (nx B n pos, 0) 0 999).1, tE, hz, L1.2⟩
        refine mm_M.of [some (.ref 8), none] rfl rfl (Nat.le_of_ble_eq_true rfl) ?_
        refine mm_aload_n dX6_readClause_0 rfl rfl ?_
        refine mm_getS dX6_readClause_1 fX6_18 sh_8 rfl gr_8_1 ?_
        refine mm_cV (Y1 := YX8_kind) dX6_readClause_4 lX6_41 vX8_kind (M1) sh_4 rfl rfl (by simp [Value.category]) ?_
        refine mm_istore_n dX6_readClause_7 rfl (by decide) rfl ?_
        refine mm_iload_n dX6_readClause_8 rfl rfl ?_
        refine mm_bipush (x := 21) dX6_readClause_9 (by decide) ?_
        refine mm_icmp_eq 43 dX6_readClause_11 (by decide) (fun c_11 => ?_) (fun c_11 => ?_)
        · exact absurd ((nI_eq (b := 21) (by omega) (by omega)).mp c_11) (by omega)
        · refine mm_iload_n dX6_readClause_14 rfl rfl ?_
          refine mm_bipush (x := 26) dX6_readClause_15 (by decide) ?_
          refine mm_icmp_eq 43 dX6_readClause_17 (by decide) (fun c_17 => ?_) (fun c_17 => ?_)
          · exact absurd ((nI_eq (b := 26) (by omega) (by omega)).mp c_17) (by omega)
          · refine mm_iload_n dX6_readClause_20 rfl rfl ?_
            refine mm_bipush (x := 27) dX6_readClause_21 (by decide) ?_
            refine mm_icmp_eq 43 dX6_readClause_23 (by decide) (fun c_23 => ?_) (fun c_23 => ?_)
            · refine mm_aload_n dX6_readClause_43 rfl rfl ?_
              refine mm_iload_n dX6_readClause_44 rfl rfl ?_
              refine mm_cV (Y1 := YX6_isTooMany) dX6_readClause_45 lX6_55 vX6_isTooMany (MT _ rfl) sh_8 rfl rfl (by simp [Value.category]) ?_
              refine mm_if_eq 62 dX6_readClause_48 (by decide) (fun c_48 => ?_) (fun c_48 => ?_)
              · refine mm_aload_n dX6_readClause_62 rfl rfl ?_
                refine mm_getS dX6_readClause_63 fX6_18 sh_8 rfl gr_8_1 ?_
                refine mm_cV (Y1 := YX8_step) dX6_readClause_66 lX6_45 vX8_step (S0m) sh_4 rfl rfl (by simp [Value.category]) ?_
                refine mm_aload_n dX6_readClause_69 rfl rfl ?_
                refine mm_iload_n dX6_readClause_70 rfl rfl ?_
                refine mm_cV (Y1 := YX6_readNumbers) dX6_readClause_71 lX6_59 vX6_readNumbers (MR) sh_8 rfl rfl (by simp [Value.category]) ?_
                exact mm_retE dX6_readClause_74 rfl rfl
              · exact absurd (by rw [show bt = 0 from Decidable.not_not.mp hfull]; rfl) c_48
            · exact absurd (by rw [hk]; rfl) c_23
  have hk27 : ¬ kd B n pos = 27 := hk
  clear hk
  by_cases hk : kd B n pos = 28
  · have MT : ∀ v, v = (nI dt) → mm_M (d + 2) YX6_isTooMany [.ref 8, .int (nI (kd B n pos))] h (some (.int v)) h := by
      intro v hv
      rw [hk]
      refine mm_M.of [some (.ref 8), some (.int (nI 28))] rfl rfl (Nat.le_of_ble_eq_true rfl) ?_
      refine mm_iload_n dX6_isTooMany_0 rfl rfl ?_
      refine mm_lookup (off := 75) 76 dX6_isTooMany_1 (by decide) (by decide) (by decide) ?_
      refine mm_aload_n dX6_isTooMany_76 rfl rfl ?_
      refine mm_getI dX6_isTooMany_77 fX6_29 sh_8 rfl ?_
      exact mm_zretE dX6_isTooMany_80 rfl (by rw [hv]; rcases (show dt = 0 ∨ dt = 1 by omega) with z | z <;> (rw [z] <;> rfl)) (by rw [hv]; exact hd) rfl
    by_cases hfull : ¬ dt = 0
    · have e : mcl B n A bt dt pos = .error (1 + 8 * pos + 4) := by unfold mcl; rw [if_neg (show ¬ kd B n pos = 21 by omega), if_neg (show ¬ kd B n pos = 26 by omega), if_neg (show ¬ kd B n pos = 27 by omega), if_pos hk, if_pos hfull]
      rw [e]
      refine ⟨f4, ?_, pM8_4 F4f, fin4 4 (by decide) f4 F4t⟩
      refine mm_M.of [some (.ref 8), none] rfl rfl (Nat.le_of_ble_eq_true rfl) ?_
      refine mm_aload_n dX6_readClause_0 rfl rfl ?_
      refine mm_getS dX6_readClause_1 fX6_18 sh_8 rfl gr_8_1 ?_
      refine mm_cV (Y1 := YX8_kind) dX6_readClause_4 lX6_41 vX8_kind (M1) sh_4 rfl rfl (by simp [Value.category]) ?_
      refine mm_istore_n dX6_readClause_7 rfl (by decide) rfl ?_
      refine mm_iload_n dX6_readClause_8 rfl rfl ?_
      refine mm_bipush (x := 21) dX6_readClause_9 (by decide) ?_
      refine mm_icmp_eq 43 dX6_readClause_11 (by decide) (fun c_11 => ?_) (fun c_11 => ?_)
      · exact absurd ((nI_eq (b := 21) (by omega) (by omega)).mp c_11) (by omega)
      · refine mm_iload_n dX6_readClause_14 rfl rfl ?_
        refine mm_bipush (x := 26) dX6_readClause_15 (by decide) ?_
        refine mm_icmp_eq 43 dX6_readClause_17 (by decide) (fun c_17 => ?_) (fun c_17 => ?_)
        · exact absurd ((nI_eq (b := 26) (by omega) (by omega)).mp c_17) (by omega)
        · refine mm_iload_n dX6_readClause_20 rfl rfl ?_
          refine mm_bipush (x := 27) dX6_readClause_21 (by decide) ?_
          refine mm_icmp_eq 43 dX6_readClause_23 (by decide) (fun c_23 => ?_) (fun c_23 => ?_)
          · exact absurd ((nI_eq (b := 27) (by omega) (by omega)).mp c_23) (by omega)
          · refine mm_iload_n dX6_readClause_26 rfl rfl ?_
            refine mm_bipush (x := 28) dX6_readClause_27 (by decide) ?_
            refine mm_icmp_eq 43 dX6_readClause_29 (by decide) (fun c_29 => ?_) (fun c_29 => ?_)
            · refine mm_aload_n dX6_readClause_43 rfl rfl ?_
              refine mm_iload_n dX6_readClause_44 rfl rfl ?_
              refine mm_cV (Y1 := YX6_isTooMany) dX6_readClause_45 lX6_55 vX6_isTooMany (MT _ rfl) sh_8 rfl rfl (by simp [Value.category]) ?_
              refine mm_if_eq 62 dX6_readClause_48 (by decide) (fun c_48 => ?_) (fun c_48 => ?_)
              · exact absurd ((nI_eq (b := 0) (by omega) (by omega)).mp c_48) hfull
              · refine mm_aload_n dX6_readClause_51 rfl rfl ?_
                refine mm_getS dX6_readClause_52 fX6_18 sh_8 rfl gr_8_1 ?_
                refine mm_iconst (x := 4) dX6_readClause_55 (by decide) ?_
                refine mm_cV (Y1 := YX8_fail) dX6_readClause_56 lX6_51 vX8_fail (F4m) sh_4 rfl rfl (by simp [Value.category]) ?_
                refine mm_goto 74 dX6_readClause_59 (by decide) ?_
                exact mm_retE dX6_readClause_74 rfl rfl
            · exact absurd (by rw [hk]; rfl) c_29
    · skip
      obtain ⟨g1, R1m, R1t, R1f⟩ := mX6_readNumber d g0 B n hn (nx B n pos) 0 (by decide) S0t 0 99
      have L1 : (rd B n (nx B n pos, 0) 0 99).1 ≤ n ∧ (rd B n (nx B n pos, 0) 0 99).2 < 4000 := rd_lt hn (s := (nx B n pos, 0)) hnx (by show 0 < 4000; decide) 0 99
      have fch : frm (onep 4) h g1 := S0f.trans R1f
      have hVm : viewD g1 A := viewD_f hV fch (fun c hc => by simp [onep]; omega)
      obtain ⟨ge, ege⟩ : ∃ ge : mm_H, ge = (mm_up (mm_up g1.1 9 11 (num B n (nx B n pos))) 8 3 1, g1.2.1, g1.2.2) := ⟨_, rfl⟩
      have fe : frm (rg 8 17) g1 ge := by rw [ege]; exact ((frm.refl _ g1).up (c := 9) rfl).up (c := 8) rfl
      have fT : frm pM8 h ge := (pM8_4 fch).trans (fe.mono (fun c hc => by simp only [pM8, Bool.or_eq_false_iff, rg, decide_eq_false_iff_not] at hc ⊢; omega))
      have tE : TX B n ge (rd B n (nx B n pos, 0) 0 99).1 (rd B n (nx B n pos, 0) 0 99).2 := TX_f R1t fe ⟨rfl, rfl, rfl, rfl⟩
      have vE : viewD ge (setF A (num B n (nx B n pos))) := by
        obtain ⟨a1, a2, a3, a4, a5, a6⟩ := hVm
        rw [ege]; unfold viewD; dsimp only
        refine ⟨by rw [mm_up_n (by decide), mm_up_k (by decide)]; exact a1, by rw [mm_up_n (by decide), mm_up_k (by decide)]; exact a2, ?_, ?_, fun c hc => ?_, fun c hc => ?_⟩
        · rw [mm_up_n (by decide), mm_up_k (by decide)]; exact a3
        · rw [mm_up_n (by decide), mm_up_e]; rfl
        · (repeat rw [mm_up_n (by decide)]); exact a5 c hc
        · (repeat rw [mm_up_n (by decide)]); exact a6 c hc
      have e2 : ge.1 8 2 = nI bt ∧ ge.1 8 3 = 1 := by
        rw [ege]; dsimp only
        refine ⟨?_, ?_⟩
        · rw [mm_up_k (by decide), mm_up_n (by decide), fch.i rfl]; exact hb
        · rw [mm_up_e]
      have MR : mm_M (d + 2) YX6_readNumbers [.ref 8, .int (nI (kd B n pos))] g0 none ge := by
        rw [hk, ege]
        refine mm_M.of [some (.ref 8), some (.int (nI 28)), none, none, none] rfl rfl (Nat.le_of_ble_eq_true rfl) ?_
        refine mm_iload_n dX6_readNumbers_0 rfl rfl ?_
        refine mm_bipush (x := 21) dX6_readNumbers_1 (by decide) ?_
        refine mm_icmp_ne 54 dX6_readNumbers_3 (by decide) (fun c_3 => ?_) (fun c_3 => ?_)
        · refine mm_iload_n dX6_readNumbers_54 rfl rfl ?_
          refine mm_bipush (x := 26) dX6_readNumbers_55 (by decide) ?_
          refine mm_icmp_ne 87 dX6_readNumbers_57 (by decide) (fun c_57 => ?_) (fun c_57 => ?_)
          · refine mm_iload_n dX6_readNumbers_87 rfl rfl ?_
            refine mm_bipush (x := 27) dX6_readNumbers_88 (by decide) ?_
            refine mm_icmp_ne 116 dX6_readNumbers_90 (by decide) (fun c_90 => ?_) (fun c_90 => ?_)
            · refine mm_aload_n dX6_readNumbers_116 rfl rfl ?_
              refine mm_getS dX6_readNumbers_117 fX6_12 sh_8 rfl gr_8_0 ?_
              refine mm_aload_n dX6_readNumbers_120 rfl rfl ?_
              refine mm_iconst (x := 0) dX6_readNumbers_121 (by decide) ?_
              refine mm_bipush (x := 99) dX6_readNumbers_122 (by decide) ?_
              refine mm_cV (Y1 := YX6_readNumber) dX6_readNumbers_124 lX6_65 vX6_readNumber (R1m) sh_8 rfl rfl (by simp [Value.category]) ?_
              refine mm_putI dX6_readNumbers_127 fX6_80 sh_9 rfl rfl rfl ?_
              refine mm_aload_n dX6_readNumbers_130 rfl rfl ?_
              refine mm_iconst (x := 1) dX6_readNumbers_131 (by decide) ?_
              refine mm_putI dX6_readNumbers_132 fX6_29 sh_8 rfl rfl rfl ?_
              exact mm_retE dX6_readNumbers_135 rfl rfl
            · exact absurd c_90 (by decide)
          · exact absurd c_57 (by decide)
        · exact absurd c_3 (by decide)
      by_cases hz : (rd B n (nx B n pos, 0) 0 99).2 = 0
      · have e : mcl B n A bt dt pos = .ok (setF A (num B n (nx B n pos)), bt, 1, (rd B n (nx B n pos, 0) 0 99).1) := by unfold mcl; rw [if_neg (show ¬ kd B n pos = 21 by omega), if_neg (show ¬ kd B n pos = 26 by omega), if_neg (show ¬ kd B n pos = 27 by omega), if_pos hk, if_neg hfull, if_pos hz]
        rw [e]
        refine ⟨ge, ?_, fT, (by have q := tE; rw [hz] at q; exact q), vE, e2.1, e2.2, h12, h4, hb1, Nat.le_refl _⟩
        refine mm_M.of [some (.ref 8), none] rfl rfl (Nat.le_of_ble_eq_true rfl) ?_
        refine mm_aload_n dX6_readClause_0 rfl rfl ?_
        refine mm_getS dX6_readClause_1 fX6_18 sh_8 rfl gr_8_1 ?_
        refine mm_cV (Y1 := YX8_kind) dX6_readClause_4 lX6_41 vX8_kind (M1) sh_4 rfl rfl (by simp [Value.category]) ?_
        refine mm_istore_n dX6_readClause_7 rfl (by decide) rfl ?_
        refine mm_iload_n dX6_readClause_8 rfl rfl ?_
        refine mm_bipush (x := 21) dX6_readClause_9 (by decide) ?_
        refine mm_icmp_eq 43 dX6_readClause_11 (by decide) (fun c_11 => ?_) (fun c_11 => ?_)
        · exact absurd ((nI_eq (b := 21) (by omega) (by omega)).mp c_11) (by omega)
        · refine mm_iload_n dX6_readClause_14 rfl rfl ?_
          refine mm_bipush (x := 26) dX6_readClause_15 (by decide) ?_
          refine mm_icmp_eq 43 dX6_readClause_17 (by decide) (fun c_17 => ?_) (fun c_17 => ?_)
          · exact absurd ((nI_eq (b := 26) (by omega) (by omega)).mp c_17) (by omega)
          · refine mm_iload_n dX6_readClause_20 rfl rfl ?_
            refine mm_bipush (x := 27) dX6_readClause_21 (by decide) ?_
            refine mm_icmp_eq 43 dX6_readClause_23 (by decide) (fun c_23 => ?_) (fun c_23 => ?_)
            · exact absurd ((nI_eq (b := 27) (by omega) (by omega)).mp c_23) (by omega)
            · refine mm_iload_n dX6_readClause_26 rfl rfl ?_
              refine mm_bipush (x := 28) dX6_readClause_27 (by decide) ?_
              refine mm_icmp_eq 43 dX6_readClause_29 (by decide) (fun c_29 => ?_) (fun c_29 => ?_)
              · refine mm_aload_n dX6_readClause_43 rfl rfl ?_
                refine mm_iload_n dX6_readClause_44 rfl rfl ?_
                refine mm_cV (Y1 := YX6_isTooMany) dX6_readClause_45 lX6_55 vX6_isTooMany (MT _ rfl) sh_8 rfl rfl (by simp [Value.category]) ?_
                refine mm_if_eq 62 dX6_readClause_48 (by decide) (fun c_48 => ?_) (fun c_48 => ?_)
                · refine mm_aload_n dX6_readClause_62 rfl rfl ?_
                  refine mm_getS dX6_readClause_63 fX6_18 sh_8 rfl gr_8_1 ?_
                  refine mm_cV (Y1 := YX8_step) dX6_readClause_66 lX6_45 vX8_step (S0m) sh_4 rfl rfl (by simp [Value.category]) ?_
                  refine mm_aload_n dX6_readClause_69 rfl rfl ?_
                  refine mm_iload_n dX6_readClause_70 rfl rfl ?_
                  refine mm_cV (Y1 := YX6_readNumbers) dX6_readClause_71 lX6_59 vX6_readNumbers (MR) sh_8 rfl rfl (by simp [Value.category]) ?_
                  exact mm_retE dX6_readClause_74 rfl rfl
                · exact absurd (by rw [show dt = 0 from Decidable.not_not.mp hfull]; rfl) c_48
              · exact absurd (by rw [hk]; rfl) c_29
      · have e : mcl B n A bt dt pos = .error (rd B n (nx B n pos, 0) 0 99).2 := by unfold mcl; rw [if_neg (show ¬ kd B n pos = 21 by omega), if_neg (show ¬ kd B n pos = 26 by omega), if_neg (show ¬ kd B n pos = 27 by omega), if_pos hk, if_neg hfull, if_neg hz]
        rw [e]
        refine ⟨ge, ?_, fT, (rd B n (nx B n pos, 0) 0 99).1, tE, hz, L1.2⟩
        refine mm_M.of [some (.ref 8), none] rfl rfl (Nat.le_of_ble_eq_true rfl) ?_
        refine mm_aload_n dX6_readClause_0 rfl rfl ?_
        refine mm_getS dX6_readClause_1 fX6_18 sh_8 rfl gr_8_1 ?_
        refine mm_cV (Y1 := YX8_kind) dX6_readClause_4 lX6_41 vX8_kind (M1) sh_4 rfl rfl (by simp [Value.category]) ?_
        refine mm_istore_n dX6_readClause_7 rfl (by decide) rfl ?_
        refine mm_iload_n dX6_readClause_8 rfl rfl ?_
        refine mm_bipush (x := 21) dX6_readClause_9 (by decide) ?_
        refine mm_icmp_eq 43 dX6_readClause_11 (by decide) (fun c_11 => ?_) (fun c_11 => ?_)
        · exact absurd ((nI_eq (b := 21) (by omega) (by omega)).mp c_11) (by omega)
        · refine mm_iload_n dX6_readClause_14 rfl rfl ?_
          refine mm_bipush (x := 26) dX6_readClause_15 (by decide) ?_
          refine mm_icmp_eq 43 dX6_readClause_17 (by decide) (fun c_17 => ?_) (fun c_17 => ?_)
          · exact absurd ((nI_eq (b := 26) (by omega) (by omega)).mp c_17) (by omega)
          · refine mm_iload_n dX6_readClause_20 rfl rfl ?_
            refine mm_bipush (x := 27) dX6_readClause_21 (by decide) ?_
            refine mm_icmp_eq 43 dX6_readClause_23 (by decide) (fun c_23 => ?_) (fun c_23 => ?_)
            · exact absurd ((nI_eq (b := 27) (by omega) (by omega)).mp c_23) (by omega)
            · refine mm_iload_n dX6_readClause_26 rfl rfl ?_
              refine mm_bipush (x := 28) dX6_readClause_27 (by decide) ?_
              refine mm_icmp_eq 43 dX6_readClause_29 (by decide) (fun c_29 => ?_) (fun c_29 => ?_)
              · refine mm_aload_n dX6_readClause_43 rfl rfl ?_
                refine mm_iload_n dX6_readClause_44 rfl rfl ?_
                refine mm_cV (Y1 := YX6_isTooMany) dX6_readClause_45 lX6_55 vX6_isTooMany (MT _ rfl) sh_8 rfl rfl (by simp [Value.category]) ?_
                refine mm_if_eq 62 dX6_readClause_48 (by decide) (fun c_48 => ?_) (fun c_48 => ?_)
                · refine mm_aload_n dX6_readClause_62 rfl rfl ?_
                  refine mm_getS dX6_readClause_63 fX6_18 sh_8 rfl gr_8_1 ?_
                  refine mm_cV (Y1 := YX8_step) dX6_readClause_66 lX6_45 vX8_step (S0m) sh_4 rfl rfl (by simp [Value.category]) ?_
                  refine mm_aload_n dX6_readClause_69 rfl rfl ?_
                  refine mm_iload_n dX6_readClause_70 rfl rfl ?_
                  refine mm_cV (Y1 := YX6_readNumbers) dX6_readClause_71 lX6_59 vX6_readNumbers (MR) sh_8 rfl rfl (by simp [Value.category]) ?_
                  exact mm_retE dX6_readClause_74 rfl rfl
                · exact absurd (by rw [show dt = 0 from Decidable.not_not.mp hfull]; rfl) c_48
              · exact absurd (by rw [hk]; rfl) c_29
  have e : mcl B n A bt dt pos = .error (1 + 8 * pos) := by unfold mcl; rw [if_neg hk21, if_neg hk26, if_neg hk27, if_neg hk]
  rw [e]
  refine ⟨f0, ?_, pM8_4 F0f, fin4 0 (by decide) f0 F0t⟩
  refine mm_M.of [some (.ref 8), none] rfl rfl (Nat.le_of_ble_eq_true rfl) ?_
  refine mm_aload_n dX6_readClause_0 rfl rfl ?_
  refine mm_getS dX6_readClause_1 fX6_18 sh_8 rfl gr_8_1 ?_
  refine mm_cV (Y1 := YX8_kind) dX6_readClause_4 lX6_41 vX8_kind (M1) sh_4 rfl rfl (by simp [Value.category]) ?_
  refine mm_istore_n dX6_readClause_7 rfl (by decide) rfl ?_
  refine mm_iload_n dX6_readClause_8 rfl rfl ?_
  refine mm_bipush (x := 21) dX6_readClause_9 (by decide) ?_
  refine mm_icmp_eq 43 dX6_readClause_11 (by decide) (fun c_11 => ?_) (fun c_11 => ?_)
  · exact absurd ((nI_eq (b := 21) (by omega) (by omega)).mp c_11) hk21
  · refine mm_iload_n dX6_readClause_14 rfl rfl ?_
    refine mm_bipush (x := 26) dX6_readClause_15 (by decide) ?_
    refine mm_icmp_eq 43 dX6_readClause_17 (by decide) (fun c_17 => ?_) (fun c_17 => ?_)
    · exact absurd ((nI_eq (b := 26) (by omega) (by omega)).mp c_17) hk26
    · refine mm_iload_n dX6_readClause_20 rfl rfl ?_
      refine mm_bipush (x := 27) dX6_readClause_21 (by decide) ?_
      refine mm_icmp_eq 43 dX6_readClause_23 (by decide) (fun c_23 => ?_) (fun c_23 => ?_)
      · exact absurd ((nI_eq (b := 27) (by omega) (by omega)).mp c_23) hk27
      · refine mm_iload_n dX6_readClause_26 rfl rfl ?_
        refine mm_bipush (x := 28) dX6_readClause_27 (by decide) ?_
        refine mm_icmp_eq 43 dX6_readClause_29 (by decide) (fun c_29 => ?_) (fun c_29 => ?_)
        · exact absurd ((nI_eq (b := 28) (by omega) (by omega)).mp c_29) hk
        · refine mm_aload_n dX6_readClause_32 rfl rfl ?_
          refine mm_getS dX6_readClause_33 fX6_18 sh_8 rfl gr_8_1 ?_
          refine mm_iconst (x := 0) dX6_readClause_36 (by decide) ?_
          refine mm_cV (Y1 := YX8_fail) dX6_readClause_37 lX6_51 vX8_fail (F0m) sh_4 rfl rfl (by simp [Value.category]) ?_
          refine mm_goto 74 dX6_readClause_40 (by decide) ?_
          exact mm_retE dX6_readClause_74 rfl rfl
