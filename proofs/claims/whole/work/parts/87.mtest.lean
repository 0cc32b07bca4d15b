/-! The reference reads a test. -/
theorem TS_mt {B : Nat → Int32} {n r p q : Nat} {s t : zl_S} {st : List Nat} {h g : mm_H} (T : TS B n h r s p st) (a : mt_fr h g) (S : zm_S B n g r t q) : TS B n g r t q st := T.v a.mc.mv S
set_option maxRecDepth 100000 in
set_option maxHeartbeats 4000000 in
theorem mX11_fact_n (d : Nat) (h : mm_H) (B : Nat → Int32) (n r p : Nat) (s : zl_S) (st : List Nat) (T : TS B n h r s p st) (hb : st.length ≤ s.1) (hk : kd B n s.1 = 30) (h10 : zs_d st < 10) : ∃ g q, mm_M (d + 9) YX11_fact [.ref 165] h (some (.int 0)) g ∧ mw_fr r h g ∧ TS B n g r (zl_a B n s) q (9 :: st) := by
  have hn4 := T.1.1.2.2.2.2.1
  have hby := T.1.1.2.2.2.2.2
  have hle := T.1.le
  obtain ⟨g1, MB, f1, S1⟩ := mX11_blanks_s (d + 7) h B n r p s T.1
  have T1 : TS B n g1 r s s.1 st := T.v f1.mc.mv S1
  have ep1 : g1.1 165 21 = nI s.1 := S1.1.2.1
  have MS1 := mX11_stood (d + 4) g1 B n s.1 0 S1.1 hle 14 (by decide) (by decide)
  have MG := mX11_sign (d + 8) g1 B n s.1 0 S1.1 (by omega)
  have ek : ki 14 = 30 := rfl
  rw [ek] at MS1
  obtain ⟨g2, M2, f2, T2⟩ := mX11_opens_d (d + 7) g1 B n r s.1 s st T1 (by omega) 9 (by decide) h10
  obtain ⟨g3, eg3⟩ : ∃ g : mm_H, g = (mm_up g2.1 165 21 (nI (s.1 + 3)), g2.2.1, g2.2.2) := ⟨_, rfl⟩
  have f3 : mt_fr g2 g3 := by rw [eg3]; exact mt_p g2 _
  have ep2 : g2.1 165 21 = nI s.1 := T2.1.1.2.1
  obtain ⟨hpos, een⟩ := en_w (i := 14) hle (by decide) (by decide) hk
  have een : en B n s.1 = s.1 + 3 := een
  have hen := en_bd (B := B) hpos
  have hnx : sk B n (s.1 + 3) = nx B n s.1 := by unfold nx; rw [if_neg (by omega), een]
  rw [pI_1 hk] at MS1
  have S3 : zm_S B n g3 r (zl_a B n s) (s.1 + 3) := T2.1.a f3 (by rw [eg3]; exact T2.1.1.p _) (by omega) hnx
  refine ⟨g3, s.1 + 3, ?_, (f1.mc.mv.mw.trans f2).trans f3.mc.mv.mw, TS_mt T2 f3 S3⟩
  refine mm_M.of [some (.ref 165)] rfl rfl (Nat.le_of_ble_eq_true rfl) ?_
  refine mm_aload_n dX11_fact_0 rfl rfl ?_
  refine mm_cV (Y1 := YX11_blanks) dX11_fact_1 lX11_231 vX11_blanks (MB) sh_165 rfl rfl (by simp [Value.category]) ?_
  refine mm_aload_n dX11_fact_4 rfl rfl ?_
  refine mm_ldcWS 14 dX11_fact_5 rfl ?_
  refine mm_cV (Y1 := YX11_stood) dX11_fact_8 lX11_234 vX11_stood (MS1) sh_165 rfl rfl (by simp [Value.category]) ?_
  refine mm_if_eq 32 dX11_fact_11 (by decide) (fun c_11 => ?_) (fun c_11 => ?_)
  · exact absurd c_11 (by decide)
  · refine mm_aload_n dX11_fact_14 rfl rfl ?_
    refine mm_bipush (x := 9) dX11_fact_15 (by decide) ?_
    refine mm_cV (Y1 := YX11_opens) dX11_fact_17 lX11_290 vX11_opens (M2) sh_165 rfl rfl (by simp [Value.category]) ?_
    refine mm_aload_n dX11_fact_20 rfl rfl ?_
    refine mm_dup dX11_fact_21 rfl ?_
    refine mm_getI dX11_fact_22 fX11_211 sh_165 rfl ?_
    refine mm_iconst (x := 3) dX11_fact_25 (by decide) ?_
    refine mm_iadd dX11_fact_26 ?_
    refine mm_putI dX11_fact_27 fX11_211 sh_165 rfl rfl rfl ?_
    refine mm_cast rfl rfl (g := g3) (by rw [eg3, ep2]; exact congrArg (fun z => (mm_up g2.1 165 21 z, g2.2.1, g2.2.2)) (nI_add s.1 3)) ?_
    refine mm_iconst (x := 0) dX11_fact_30 (by decide) ?_
    exact mm_zretE dX11_fact_31 rfl rfl rfl rfl
set_option maxRecDepth 100000 in
set_option maxHeartbeats 4000000 in
theorem mX11_fact_b (d : Nat) (h : mm_H) (B : Nat → Int32) (n r p : Nat) (s : zl_S) (st : List Nat) (T : TS B n h r s p st) (hb : st.length ≤ s.1) (hk : kd B n s.1 = 4) (h10 : zs_d st < 10) : ∃ g q, mm_M (d + 9) YX11_fact [.ref 165] h (some (.int 0)) g ∧ mw_fr r h g ∧ TS B n g r (zl_a B n s) q (12 :: st) := by
  have hn4 := T.1.1.2.2.2.2.1
  have hby := T.1.1.2.2.2.2.2
  have hle := T.1.le
  obtain ⟨g1, MB, f1, S1⟩ := mX11_blanks_s (d + 7) h B n r p s T.1
  have T1 : TS B n g1 r s s.1 st := T.v f1.mc.mv S1
  have ep1 : g1.1 165 21 = nI s.1 := S1.1.2.1
  have MS1 := mX11_stood (d + 4) g1 B n s.1 0 S1.1 hle 14 (by decide) (by decide)
  have MG := mX11_sign (d + 8) g1 B n s.1 0 S1.1 (by omega)
  have ek : ki 14 = 30 := rfl
  rw [ek] at MS1
  obtain ⟨g2, M2, f2, T2⟩ := mX11_opens_d (d + 7) g1 B n r s.1 s st T1 (by omega) 12 (by decide) h10
  obtain ⟨g3, eg3⟩ : ∃ g : mm_H, g = (mm_up g2.1 165 21 (nI (s.1 + 1)), g2.2.1, g2.2.2) := ⟨_, rfl⟩
  have f3 : mt_fr g2 g3 := by rw [eg3]; exact mt_p g2 _
  have ep2 : g2.1 165 21 = nI s.1 := T2.1.1.2.1
  obtain ⟨hpos, een, hnx⟩ := en_1 (B := B) (n := n) (p := s.1) (by omega)
  rw [pI_0 (show ¬ kd B n s.1 = 30 by omega)] at MS1
  rw [(sg_4 hby).mpr hk] at MG
  have S3 : zm_S B n g3 r (zl_a B n s) (s.1 + 1) := T2.1.a f3 (by rw [eg3]; exact T2.1.1.p _) (by omega) hnx
  refine ⟨g3, s.1 + 1, ?_, (f1.mc.mv.mw.trans f2).trans f3.mc.mv.mw, TS_mt T2 f3 S3⟩
  refine mm_M.of [some (.ref 165)] rfl rfl (Nat.le_of_ble_eq_true rfl) ?_
  refine mm_aload_n dX11_fact_0 rfl rfl ?_
  refine mm_cV (Y1 := YX11_blanks) dX11_fact_1 lX11_231 vX11_blanks (MB) sh_165 rfl rfl (by simp [Value.category]) ?_
  refine mm_aload_n dX11_fact_4 rfl rfl ?_
  refine mm_ldcWS 14 dX11_fact_5 rfl ?_
  refine mm_cV (Y1 := YX11_stood) dX11_fact_8 lX11_234 vX11_stood (MS1) sh_165 rfl rfl (by simp [Value.category]) ?_
  refine mm_if_eq 32 dX11_fact_11 (by decide) (fun c_11 => ?_) (fun c_11 => ?_)
  · refine mm_aload_n dX11_fact_32 rfl rfl ?_
    refine mm_cV (Y1 := YX11_sign) dX11_fact_33 lX11_214 vX11_sign (MG) sh_165 rfl rfl (by simp [Value.category]) ?_
    refine mm_bipush (x := 91) dX11_fact_36 (by decide) ?_
    refine mm_icmp_ne 59 dX11_fact_38 (by decide) (fun c_38 => ?_) (fun c_38 => ?_)
    · exact absurd c_38 (by decide)
    · refine mm_aload_n dX11_fact_41 rfl rfl ?_
      refine mm_bipush (x := 12) dX11_fact_42 (by decide) ?_
      refine mm_cV (Y1 := YX11_opens) dX11_fact_44 lX11_290 vX11_opens (M2) sh_165 rfl rfl (by simp [Value.category]) ?_
      refine mm_aload_n dX11_fact_47 rfl rfl ?_
      refine mm_dup dX11_fact_48 rfl ?_
      refine mm_getI dX11_fact_49 fX11_211 sh_165 rfl ?_
      refine mm_iconst (x := 1) dX11_fact_52 (by decide) ?_
      refine mm_iadd dX11_fact_53 ?_
      refine mm_putI dX11_fact_54 fX11_211 sh_165 rfl rfl rfl ?_
      refine mm_cast rfl rfl (g := g3) (by rw [eg3, ep2]; exact congrArg (fun z => (mm_up g2.1 165 21 z, g2.2.1, g2.2.2)) (nI_add s.1 1)) ?_
      refine mm_iconst (x := 0) dX11_fact_57 (by decide) ?_
      exact mm_zretE dX11_fact_58 rfl rfl rfl rfl
  · exact absurd c_11 (by decide)
theorem ME.of {B : Nat → Int32} {n r p q c : Nat} {s : zl_S} {h g : mm_H} (S : zm_S B n h r s q) (a : mw_fr r h g) (t : MT B n g p c) (hp : p ≤ n) (h1 : ¬ c = 0) (h2 : c < 4000) : ME B n g r c := by
  obtain ⟨-, -, -, -, -, h3, h4, -⟩ := S
  exact ⟨p, t, hp, h1, h2, by rw [a.2.1 23 (by decide) (by decide) (by decide) (by decide) (by decide) (by decide)]; exact h3, by rw [a.2.1 29 (by decide) (by decide) (by decide) (by decide) (by decide) (by decide)]; exact h4⟩
set_option maxRecDepth 100000 in
set_option maxHeartbeats 4000000 in
theorem mX11_fact_en (d : Nat) (h : mm_H) (B : Nat → Int32) (n r p : Nat) (s : zl_S) (st : List Nat) (T : TS B n h r s p st) (hb : st.length ≤ s.1) (hk : kd B n s.1 = 30) (h10 : zs_d st = 10) : ∃ g, mm_M (d + 9) YX11_fact [.ref 165] h (some (.int 0)) g ∧ mw_fr r h g ∧ ME B n g r (1 + 8 * s.1 + 2) := by
  have hn4 := T.1.1.2.2.2.2.1
  have hby := T.1.1.2.2.2.2.2
  have hle := T.1.le
  obtain ⟨g1, MB, f1, S1⟩ := mX11_blanks_s (d + 7) h B n r p s T.1
  have T1 : TS B n g1 r s s.1 st := T.v f1.mc.mv S1
  have ep1 : g1.1 165 21 = nI s.1 := S1.1.2.1
  have MS1 := mX11_stood (d + 4) g1 B n s.1 0 S1.1 hle 14 (by decide) (by decide)
  have MG := mX11_sign (d + 8) g1 B n s.1 0 S1.1 (by omega)
  have ek : ki 14 = 30 := rfl
  rw [ek] at MS1
  obtain ⟨g2, M2, f2, t2⟩ := mX11_opens_e (d + 7) g1 B n r s.1 s st T1 (by omega) 9 (by decide) h10
  obtain ⟨g3, eg3⟩ : ∃ g : mm_H, g = (mm_up g2.1 165 21 (nI (s.1 + 3)), g2.2.1, g2.2.2) := ⟨_, rfl⟩
  have f3 : mt_fr g2 g3 := by rw [eg3]; exact mt_p g2 _
  have ep2 : g2.1 165 21 = nI s.1 := t2.2.1
  obtain ⟨hpos, een⟩ := en_w (i := 14) hle (by decide) (by decide) hk
  have een : en B n s.1 = s.1 + 3 := een
  have hen := en_bd (B := B) hpos
  rw [pI_1 hk] at MS1
  have fA := (f1.mc.mv.mw.trans f2).trans f3.mc.mv.mw
  have t3 : MT B n g3 (s.1 + 3) (1 + 8 * s.1 + 2) := by rw [eg3]; exact t2.p _
  refine ⟨g3, ?_, fA, ME.of T.1 fA t3 (by omega) (by omega) (by omega)⟩
  refine mm_M.of [some (.ref 165)] rfl rfl (Nat.le_of_ble_eq_true rfl) ?_
  refine mm_aload_n dX11_fact_0 rfl rfl ?_
  refine mm_cV (Y1 := YX11_blanks) dX11_fact_1 lX11_231 vX11_blanks (MB) sh_165 rfl rfl (by simp [Value.category]) ?_
  refine mm_aload_n dX11_fact_4 rfl rfl ?_
  refine mm_ldcWS 14 dX11_fact_5 rfl ?_
  refine mm_cV (Y1 := YX11_stood) dX11_fact_8 lX11_234 vX11_stood (MS1) sh_165 rfl rfl (by simp [Value.category]) ?_
  refine mm_if_eq 32 dX11_fact_11 (by decide) (fun c_11 => ?_) (fun c_11 => ?_)
  · exact absurd c_11 (by decide)
  · refine mm_aload_n dX11_fact_14 rfl rfl ?_
    refine mm_bipush (x := 9) dX11_fact_15 (by decide) ?_
    refine mm_cV (Y1 := YX11_opens) dX11_fact_17 lX11_290 vX11_opens (M2) sh_165 rfl rfl (by simp [Value.category]) ?_
    refine mm_aload_n dX11_fact_20 rfl rfl ?_
    refine mm_dup dX11_fact_21 rfl ?_
    refine mm_getI dX11_fact_22 fX11_211 sh_165 rfl ?_
    refine mm_iconst (x := 3) dX11_fact_25 (by decide) ?_
    refine mm_iadd dX11_fact_26 ?_
    refine mm_putI dX11_fact_27 fX11_211 sh_165 rfl rfl rfl ?_
    refine mm_cast rfl rfl (g := g3) (by rw [eg3, ep2]; exact congrArg (fun z => (mm_up g2.1 165 21 z, g2.2.1, g2.2.2)) (nI_add s.1 3)) ?_
    refine mm_iconst (x := 0) dX11_fact_30 (by decide) ?_
    exact mm_zretE dX11_fact_31 rfl rfl rfl rfl
set_option maxRecDepth 100000 in
set_option maxHeartbeats 4000000 in
theorem mX11_fact_eb (d : Nat) (h : mm_H) (B : Nat → Int32) (n r p : Nat) (s : zl_S) (st : List Nat) (T : TS B n h r s p st) (hb : st.length ≤ s.1) (hk : kd B n s.1 = 4) (h10 : zs_d st = 10) : ∃ g, mm_M (d + 9) YX11_fact [.ref 165] h (some (.int 0)) g ∧ mw_fr r h g ∧ ME B n g r (1 + 8 * s.1 + 2) := by
  have hn4 := T.1.1.2.2.2.2.1
  have hby := T.1.1.2.2.2.2.2
  have hle := T.1.le
  obtain ⟨g1, MB, f1, S1⟩ := mX11_blanks_s (d + 7) h B n r p s T.1
  have T1 : TS B n g1 r s s.1 st := T.v f1.mc.mv S1
  have ep1 : g1.1 165 21 = nI s.1 := S1.1.2.1
  have MS1 := mX11_stood (d + 4) g1 B n s.1 0 S1.1 hle 14 (by decide) (by decide)
  have MG := mX11_sign (d + 8) g1 B n s.1 0 S1.1 (by omega)
  have ek : ki 14 = 30 := rfl
  rw [ek] at MS1
  obtain ⟨g2, M2, f2, t2⟩ := mX11_opens_e (d + 7) g1 B n r s.1 s st T1 (by omega) 12 (by decide) h10
  obtain ⟨g3, eg3⟩ : ∃ g : mm_H, g = (mm_up g2.1 165 21 (nI (s.1 + 1)), g2.2.1, g2.2.2) := ⟨_, rfl⟩
  have f3 : mt_fr g2 g3 := by rw [eg3]; exact mt_p g2 _
  have ep2 : g2.1 165 21 = nI s.1 := t2.2.1
  obtain ⟨hpos, een, hnx⟩ := en_1 (B := B) (n := n) (p := s.1) (by omega)
  rw [pI_0 (show ¬ kd B n s.1 = 30 by omega)] at MS1
  rw [(sg_4 hby).mpr hk] at MG
  have fA := (f1.mc.mv.mw.trans f2).trans f3.mc.mv.mw
  have t3 : MT B n g3 (s.1 + 1) (1 + 8 * s.1 + 2) := by rw [eg3]; exact t2.p _
  refine ⟨g3, ?_, fA, ME.of T.1 fA t3 (by omega) (by omega) (by omega)⟩
  refine mm_M.of [some (.ref 165)] rfl rfl (Nat.le_of_ble_eq_true rfl) ?_
  refine mm_aload_n dX11_fact_0 rfl rfl ?_
  refine mm_cV (Y1 := YX11_blanks) dX11_fact_1 lX11_231 vX11_blanks (MB) sh_165 rfl rfl (by simp [Value.category]) ?_
  refine mm_aload_n dX11_fact_4 rfl rfl ?_
  refine mm_ldcWS 14 dX11_fact_5 rfl ?_
  refine mm_cV (Y1 := YX11_stood) dX11_fact_8 lX11_234 vX11_stood (MS1) sh_165 rfl rfl (by simp [Value.category]) ?_
  refine mm_if_eq 32 dX11_fact_11 (by decide) (fun c_11 => ?_) (fun c_11 => ?_)
  · refine mm_aload_n dX11_fact_32 rfl rfl ?_
    refine mm_cV (Y1 := YX11_sign) dX11_fact_33 lX11_214 vX11_sign (MG) sh_165 rfl rfl (by simp [Value.category]) ?_
    refine mm_bipush (x := 91) dX11_fact_36 (by decide) ?_
    refine mm_icmp_ne 59 dX11_fact_38 (by decide) (fun c_38 => ?_) (fun c_38 => ?_)
    · exact absurd c_38 (by decide)
    · refine mm_aload_n dX11_fact_41 rfl rfl ?_
      refine mm_bipush (x := 12) dX11_fact_42 (by decide) ?_
      refine mm_cV (Y1 := YX11_opens) dX11_fact_44 lX11_290 vX11_opens (M2) sh_165 rfl rfl (by simp [Value.category]) ?_
      refine mm_aload_n dX11_fact_47 rfl rfl ?_
      refine mm_dup dX11_fact_48 rfl ?_
      refine mm_getI dX11_fact_49 fX11_211 sh_165 rfl ?_
      refine mm_iconst (x := 1) dX11_fact_52 (by decide) ?_
      refine mm_iadd dX11_fact_53 ?_
      refine mm_putI dX11_fact_54 fX11_211 sh_165 rfl rfl rfl ?_
      refine mm_cast rfl rfl (g := g3) (by rw [eg3, ep2]; exact congrArg (fun z => (mm_up g2.1 165 21 z, g2.2.1, g2.2.2)) (nI_add s.1 1)) ?_
      refine mm_iconst (x := 0) dX11_fact_57 (by decide) ?_
      exact mm_zretE dX11_fact_58 rfl rfl rfl rfl
  · exact absurd c_11 (by decide)
set_option maxRecDepth 100000 in
set_option maxHeartbeats 4000000 in
theorem mX11_fact_c (d : Nat) (h : mm_H) (B : Nat → Int32) (n r p : Nat) (s : zl_S) (st : List Nat) (T : TS B n h r s p st) (hb : st.length ≤ s.1) (hr : r < 6) (hk : ¬ kd B n s.1 = 30) (hk4 : ¬ kd B n s.1 = 4) (hJ : zl_J 0 s) (fu : Nat) (hfu : n ≤ fu) : ∃ g, mm_M (d + 9) YX11_fact [.ref 165] h (some (.int 1)) g ∧ mv_fr r h g ∧ MR0 B n g r (zl_k B n fu s) := by
  have hn4 := T.1.1.2.2.2.2.1
  have hby := T.1.1.2.2.2.2.2
  have hle := T.1.le
  obtain ⟨g1, MB, f1, S1⟩ := mX11_blanks_s (d + 7) h B n r p s T.1
  have T1 : TS B n g1 r s s.1 st := T.v f1.mc.mv S1
  have ep1 : g1.1 165 21 = nI s.1 := S1.1.2.1
  have MS1 := mX11_stood (d + 4) g1 B n s.1 0 S1.1 hle 14 (by decide) (by decide)
  have MG := mX11_sign (d + 8) g1 B n s.1 0 S1.1 (by omega)
  have ek : ki 14 = 30 := rfl
  rw [ek] at MS1
  obtain ⟨g2, M2, f2, R2⟩ := mX11_compared d g1 B n r s.1 hr s S1 hJ fu hfu
  rw [pI_0 hk] at MS1
  have n1 : ¬ sgV B n s.1 = 91 := fun z => hk4 ((sg_4 hby).mp z)
  refine ⟨g2, ?_, f1.mc.mv.trans f2, R2⟩
  refine mm_M.of [some (.ref 165)] rfl rfl (Nat.le_of_ble_eq_true rfl) ?_
  refine mm_aload_n dX11_fact_0 rfl rfl ?_
  refine mm_cV (Y1 := YX11_blanks) dX11_fact_1 lX11_231 vX11_blanks (MB) sh_165 rfl rfl (by simp [Value.category]) ?_
  refine mm_aload_n dX11_fact_4 rfl rfl ?_
  refine mm_ldcWS 14 dX11_fact_5 rfl ?_
  refine mm_cV (Y1 := YX11_stood) dX11_fact_8 lX11_234 vX11_stood (MS1) sh_165 rfl rfl (by simp [Value.category]) ?_
  refine mm_if_eq 32 dX11_fact_11 (by decide) (fun c_11 => ?_) (fun c_11 => ?_)
  · refine mm_aload_n dX11_fact_32 rfl rfl ?_
    refine mm_cV (Y1 := YX11_sign) dX11_fact_33 lX11_214 vX11_sign (MG) sh_165 rfl rfl (by simp [Value.category]) ?_
    refine mm_bipush (x := 91) dX11_fact_36 (by decide) ?_
    refine mm_icmp_ne 59 dX11_fact_38 (by decide) (fun c_38 => ?_) (fun c_38 => ?_)
    · refine mm_aload_n dX11_fact_59 rfl rfl ?_
      refine mm_cV (Y1 := YX11_compared) dX11_fact_60 lX11_293 vX11_compared (M2) sh_165 rfl rfl (by simp [Value.category]) ?_
      refine mm_iconst (x := 1) dX11_fact_63 (by decide) ?_
      exact mm_zretE dX11_fact_64 rfl rfl rfl rfl
    · exact absurd c_38 n1
  · exact absurd c_11 (by decide)
def ME1 (B : Nat → Int32) (n : Nat) (h : mm_H) (r c : Nat) : Prop := ∃ p, MT B n h p c ∧ p ≤ n + 1 ∧ ¬ c = 0 ∧ c < 4000 ∧ h.1 165 23 = nI r ∧ h.1 165 29 = 10
theorem ME.m1 {B : Nat → Int32} {n r c : Nat} {h : mm_H} (S : ME B n h r c) : ME1 B n h r c := by
  obtain ⟨p, a, b, c⟩ := S
  exact ⟨p, a, by omega, c⟩
theorem ME1.f0 {B : Nat → Int32} {n r c : Nat} {h : mm_H} (S : ME1 B n h r c) : ¬ h.1 165 22 = 0 := by
  obtain ⟨p, t, -, c0, c4, -⟩ := S
  exact fun z => c0 ((nI_eq (b := 0) (by omega) (by omega)).mp (t.2.2.1.symm.trans z))
theorem zl_k_fwd {B : Nat → Int32} {n fu : Nat} {s t : zl_S} (hp : s.1 ≤ n) (h : zl_k B n fu s = .ok t) : zl_f n s t 12 := by
  unfold zl_k at h
  obtain ⟨s1, a1, h⟩ := zl_b_inv h
  obtain ⟨s2, a2, h⟩ := zl_b_inv h
  obtain ⟨s3, a3, h⟩ := zl_b_inv h
  cases h
  have b1 := zl_m_fwd hp a1
  have b2 := zl_g_fwd b1.1 a2
  have b3 := zl_m_fwd b2.1 a3
  exact ((b1.trans b2).trans b3).zl_e
theorem zs_o_1 {k : Nat} {st : List Nat} (h : ¬ k = 12) : zs_o (k :: st) = zs_o st + 1 := by
  show (if k = 12 then 0 else 1) + zs_o st = _
  rw [if_neg h, Nat.add_comm]
theorem zs_o_0 {st : List Nat} : zs_o (12 :: st) = zs_o st := by
  show (if 12 = 12 then 0 else 1) + zs_o st = _
  rw [if_pos rfl, Nat.zero_add]
set_option maxRecDepth 100000 in
set_option maxHeartbeats 4000000 in
theorem mX11_test (d : Nat) (h : mm_H) (B : Nat → Int32) (n r p : Nat) (hr : r < 6) (s : zl_S) (S : zm_S B n h r s p) (h26 : h.1 165 26 = 0) (hJ : zl_J 0 s) (fu : Nat) (hfu : n + 3 * (n - s.1) + 5 ≤ fu) : ∃ g, mm_M (d + 10) YX11_test [.ref 165] h none g ∧ mw_fr r h g ∧ zs_E (fun t => zm_S B n g r t t.1 ∧ g.1 165 26 = 0) (ME1 B n g r) (zl_x B n fu 1 0 s) := by
  have hn4 := S.1.2.2.2.2.1
  have hby := S.1.2.2.2.2.2
  have hle := S.le
  have hv := S.2.2.2.2.2.2.2.2
  obtain ⟨P, eP⟩ : ∃ P : Option Value → mm_H → Prop, P = fun v g => v = none ∧ mw_fr r h g ∧ zs_E (fun t => zm_S B n g r t t.1 ∧ g.1 165 26 = 0) (ME1 B n g r) (zl_x B n fu 1 0 s) := ⟨_, rfl⟩
  suffices hE : mm_E (d + 10) YX11_test 0 [some (.ref 165), none, none, none, none] [] h P by
    rw [eP] at hE
    obtain ⟨v, g, hR, rfl, h1⟩ := hE
    exact ⟨g, mm_M.of _ rfl rfl (Nat.le_of_ble_eq_true rfl) hR, h1⟩
  obtain ⟨Z1, eZ1⟩ : ∃ Z : List Nat → zl_S → Prop, Z = fun st s => ∀ gg p x3 x4, mw_fr r h gg → TS B n gg r s p st → st.length ≤ s.1 → zl_J (3 * zs_o st) s → mm_E (d + 10) YX11_test 9 [some (.ref 165), some (.int 1), some (.int 1), x3, x4] [] gg P := ⟨_, rfl⟩
  obtain ⟨Z0, eZ0⟩ : ∃ Z : List Nat → zl_S → Prop, Z = fun st s => ∀ gg p x3 x4, mw_fr r h gg → TS B n gg r s p st → st.length ≤ s.1 → zl_J (3 * zs_o st + 12) s → mm_E (d + 10) YX11_test 9 [some (.ref 165), some (.int 0), some (.int 1), x3, x4] [] gg P := ⟨_, rfl⟩
  obtain ⟨Z2, eZ2⟩ : ∃ Z : List Nat → zl_S → Prop, Z = fun st s => ∀ gg, mw_fr r h gg → TS B n gg r s s.1 st → st.length ≤ s.1 → zl_J (3 * zs_o st + 12) s → mm_E (d + 10) YX11_test 73 [some (.ref 165), some (.int 0), some (.int 1), some (.int (pI (kd B n s.1 = 31))), some (.int (pI (kd B n s.1 = 32)))] [] gg P := ⟨_, rfl⟩
  obtain ⟨Z3, eZ3⟩ : ∃ Z : List Nat → zl_S → Prop, Z = fun st s => ∀ gg x3 x4, mw_fr r h gg → TS B n gg r s s.1 st → st.length ≤ s.1 → zl_J (3 * zs_o st + 12) s → mm_E (d + 10) YX11_test 137 [some (.ref 165), some (.int 0), some (.int 1), x3, x4] [] gg P := ⟨_, rfl⟩
  obtain ⟨ZE, eZE⟩ : ∃ Z : Nat → Prop, Z = fun c => ∀ gg w x3 x4, mw_fr r h gg → ME1 B n gg r c → mm_E (d + 10) YX11_test 9 [some (.ref 165), some (.int w), some (.int 1), x3, x4] [] gg P := ⟨_, rfl⟩
  have J5 : ∀ st s, Z2 (zs_q st s).1 (zs_q st s).2 → Z0 st s := by
    intro st s H
    rw [eZ2] at H
    rw [eZ0]
    intro gg p x3 x4 fg T hb hJ
    have hle := T.1.le
    have f0 := T.1.f0
    obtain ⟨g1, M1, f1, T1⟩ := mX11_answers (d + 8) gg B n r p hr s st T (by omega) (zl_J_le hJ (by omega)) 9 30 (by decide)
    obtain ⟨a1, a2, a3, a4, a5⟩ := zs_p_f (k := 9) (t := 30) (by decide) st s
    obtain ⟨st1, e1⟩ : ∃ x, x = (zs_p 9 30 st s).1 := ⟨_, rfl⟩
    obtain ⟨s1, e2⟩ : ∃ x, x = (zs_p 9 30 st s).2 := ⟨_, rfl⟩
    have J1 := a5 12 hJ
    unfold zs_q at H
    rw [← e1, ← e2] at H T1 J1
    rw [← e2] at a1
    rw [← e1] at a3
    obtain ⟨g2, M2, f2, S2⟩ := mX11_blanks_s (d + 8) g1 B n r p s1 T1.1
    have T2 : TS B n g2 r s1 s1.1 st1 := TS_mt T1 f2 S2
    have M3 := mX11_stood (d + 5) g2 B n s1.1 0 S2.1 S2.le 15 (by decide) (by decide)
    have M4 := mX11_stood (d + 5) g2 B n s1.1 0 S2.1 S2.le 16 (by decide) (by decide)
    rw [show ki 15 = 31 from rfl] at M3
    rw [show ki 16 = 32 from rfl] at M4
    obtain ⟨g3, M5, f5, T5⟩ := mX11_answers (d + 8) g2 B n r s1.1 hr s1 st1 T2 (by omega) (zl_J_le J1 (by omega)) 10 31 (by decide)
    obtain ⟨b1, b2, b3, b4, b5⟩ := zs_p_f (k := 10) (t := 31) (by decide) st1 s1
    have J3 := b5 12 J1
    rw [← b1] at T5 M3 M4
    have K := H g3 (((fg.trans f1).trans f2.mc.mv.mw).trans f5) T5 (by rw [b1]; omega) J3
    refine mm_Es (fun _ _ => mm_iload_n dX11_test_9 rfl rfl) ?_
    refine mm_Eb (fun _ _ => mm_if_eq 202 dX11_test_10 (by decide)) (fun c_10 => ?_) (fun c_10 => ?_)
    · exact absurd c_10 (by decide)
    · refine mm_Es (fun _ _ => mm_aload_n dX11_test_13 rfl rfl) ?_
      refine mm_Es (fun _ _ => mm_getI dX11_test_14 fX11_208 sh_165 rfl) ?_
      refine mm_Ebn (fun _ _ => mm_if_ne 202 dX11_test_17 (by decide)) (fun c_17 => ?_) (fun c_17 => ?_)
      · exact absurd f0 c_17
      · refine mm_Es (fun _ _ => mm_iload_n dX11_test_20 rfl rfl) ?_
        refine mm_Eb (fun _ _ => mm_if_eq 40 dX11_test_21 (by decide)) (fun c_21 => ?_) (fun c_21 => ?_)
        · refine mm_Es (fun _ _ => mm_aload_n dX11_test_40 rfl rfl) ?_
          refine mm_Es (fun _ _ => mm_bipush (x := 9) dX11_test_41 (by decide)) ?_
          refine mm_Es (fun _ _ => mm_cV (Y1 := YX11_answers) dX11_test_43 lX11_299 vX11_answers (M1) sh_165 rfl rfl (by simp [Value.category])) ?_
          refine mm_Es (fun _ _ => mm_aload_n dX11_test_46 rfl rfl) ?_
          refine mm_Es (fun _ _ => mm_cV (Y1 := YX11_blanks) dX11_test_47 lX11_231 vX11_blanks (M2) sh_165 rfl rfl (by simp [Value.category])) ?_
          refine mm_Es (fun _ _ => mm_aload_n dX11_test_50 rfl rfl) ?_
          refine mm_Es (fun _ _ => mm_ldcWS 15 dX11_test_51 rfl) ?_
          refine mm_Es (fun _ _ => mm_cV (Y1 := YX11_stood) dX11_test_54 lX11_234 vX11_stood (M3) sh_165 rfl rfl (by simp [Value.category])) ?_
          refine mm_Es (fun _ _ => mm_istore_n dX11_test_57 rfl (by decide) rfl) ?_
          refine mm_Es (fun _ _ => mm_aload_n dX11_test_58 rfl rfl) ?_
          refine mm_Es (fun _ _ => mm_ldcWS 16 dX11_test_59 rfl) ?_
          refine mm_Es (fun _ _ => mm_cV (Y1 := YX11_stood) dX11_test_62 lX11_234 vX11_stood (M4) sh_165 rfl rfl (by simp [Value.category])) ?_
          refine mm_Es (fun _ _ => mm_istore dX11_test_65 (by decide) rfl) ?_
          refine mm_Es (fun _ _ => mm_aload_n dX11_test_67 rfl rfl) ?_
          refine mm_Es (fun _ _ => mm_bipush (x := 10) dX11_test_68 (by decide)) ?_
          refine mm_Es (fun _ _ => mm_cV (Y1 := YX11_answers) dX11_test_70 lX11_299 vX11_answers (M5) sh_165 rfl rfl (by simp [Value.category])) ?_
          exact K
        · exact absurd c_21 (by decide)
  have hE0 : ∀ c, (∀ g, mw_fr r h g → ME1 B n g r c → P none g) → ZE c := by
    intro c H
    rw [eZE]
    intro gg w x3 x4 fg E
    have f0 := E.f0
    have H := H gg fg E
    refine mm_Es (fun _ _ => mm_iload_n dX11_test_9 rfl rfl) ?_
    refine mm_Eb (fun _ _ => mm_if_eq 202 dX11_test_10 (by decide)) (fun c_10 => ?_) (fun c_10 => ?_)
    · exact absurd c_10 (by decide)
    · refine mm_Es (fun _ _ => mm_aload_n dX11_test_13 rfl rfl) ?_
      refine mm_Es (fun _ _ => mm_getI dX11_test_14 fX11_208 sh_165 rfl) ?_
      refine mm_Ebn (fun _ _ => mm_if_ne 202 dX11_test_17 (by decide)) (fun c_17 => ?_) (fun c_17 => ?_)
      · refine mm_Er (mm_return dX11_test_202 rfl) ?_
        exact H
      · exact absurd c_17 f0
  have r1 : ∀ st s, kd B n s.1 = 30 → zs_d st < 10 → Z1 (9 :: st) (zl_a B n s) → Z1 st s := by
    intro st s hk h10 H
    rw [eZ1] at H ⊢
    intro gg p x3 x4 fg T hb hJ
    have hle := T.1.le
    have f0 := T.1.f0
    obtain ⟨g1, q, M1, f1, T1⟩ := mX11_fact_n d gg B n r p s st T hb hk h10
    obtain ⟨c1, c2, c3⟩ := zl_a_bd (B := B) (s := s) hle (by omega)
    have n3 := nx_30 (B := B) hle (Or.inl hk)
    have J1 : zl_J (3 * zs_o (9 :: st)) (zl_a B n s) := by
      rw [zs_o_1 (by decide)]
      unfold zl_J at hJ ⊢
      show 3 * s.2.2.length + 3 * (zs_o st + 1) ≤ 6 * s.2.1 + nx B n s.1
      omega
    have K := H g1 q x3 x4 (fg.trans f1) T1 (by rw [List.length_cons]; omega) J1
    refine mm_Es (fun _ _ => mm_iload_n dX11_test_9 rfl rfl) ?_
    refine mm_Eb (fun _ _ => mm_if_eq 202 dX11_test_10 (by decide)) (fun c_10 => ?_) (fun c_10 => ?_)
    · exact absurd c_10 (by decide)
    · refine mm_Es (fun _ _ => mm_aload_n dX11_test_13 rfl rfl) ?_
      refine mm_Es (fun _ _ => mm_getI dX11_test_14 fX11_208 sh_165 rfl) ?_
      refine mm_Ebn (fun _ _ => mm_if_ne 202 dX11_test_17 (by decide)) (fun c_17 => ?_) (fun c_17 => ?_)
      · exact absurd f0 c_17
      · refine mm_Es (fun _ _ => mm_iload_n dX11_test_20 rfl rfl) ?_
        refine mm_Eb (fun _ _ => mm_if_eq 40 dX11_test_21 (by decide)) (fun c_21 => ?_) (fun c_21 => ?_)
        · exact absurd c_21 (by decide)
        · refine mm_Es (fun _ _ => mm_aload_n dX11_test_24 rfl rfl) ?_
          refine mm_Es (fun _ _ => mm_cV (Y1 := YX11_fact) dX11_test_25 lX11_296 vX11_fact (M1) sh_165 rfl rfl (by simp [Value.category])) ?_
          refine mm_Ebn (fun _ _ => mm_if_ne 35 dX11_test_28 (by decide)) (fun c_28 => ?_) (fun c_28 => ?_)
          · exact absurd c_28 (by decide)
          · refine mm_Es (fun _ _ => mm_iconst (x := 1) dX11_test_31 (by decide)) ?_
            refine mm_Es (fun _ _ => mm_goto 36 dX11_test_32 (by decide)) ?_
            refine mm_Es (fun _ _ => mm_istore_n dX11_test_36 rfl (by decide) rfl) ?_
            refine mm_Es (fun _ _ => mm_goto 9 dX11_test_37 (by decide)) ?_
            exact K
  have r3 : ∀ st s, kd B n s.1 = 4 → zs_d st < 10 → Z1 (12 :: st) (zl_a B n s) → Z1 st s := by
    intro st s hk h10 H
    rw [eZ1] at H ⊢
    intro gg p x3 x4 fg T hb hJ
    have hle := T.1.le
    have f0 := T.1.f0
    obtain ⟨g1, q, M1, f1, T1⟩ := mX11_fact_b d gg B n r p s st T hb hk h10
    obtain ⟨c1, c2, c3⟩ := zl_a_bd (B := B) (s := s) hle (by omega)
    have J1 : zl_J (3 * zs_o (12 :: st)) (zl_a B n s) := by rw [zs_o_0]; exact zl_J_le (c3 _ hJ) (by omega)
    have K := H g1 q x3 x4 (fg.trans f1) T1 (by rw [List.length_cons]; omega) J1
    refine mm_Es (fun _ _ => mm_iload_n dX11_test_9 rfl rfl) ?_
    refine mm_Eb (fun _ _ => mm_if_eq 202 dX11_test_10 (by decide)) (fun c_10 => ?_) (fun c_10 => ?_)
    · exact absurd c_10 (by decide)
    · refine mm_Es (fun _ _ => mm_aload_n dX11_test_13 rfl rfl) ?_
      refine mm_Es (fun _ _ => mm_getI dX11_test_14 fX11_208 sh_165 rfl) ?_
      refine mm_Ebn (fun _ _ => mm_if_ne 202 dX11_test_17 (by decide)) (fun c_17 => ?_) (fun c_17 => ?_)
      · exact absurd f0 c_17
      · refine mm_Es (fun _ _ => mm_iload_n dX11_test_20 rfl rfl) ?_
        refine mm_Eb (fun _ _ => mm_if_eq 40 dX11_test_21 (by decide)) (fun c_21 => ?_) (fun c_21 => ?_)
        · exact absurd c_21 (by decide)
        · refine mm_Es (fun _ _ => mm_aload_n dX11_test_24 rfl rfl) ?_
          refine mm_Es (fun _ _ => mm_cV (Y1 := YX11_fact) dX11_test_25 lX11_296 vX11_fact (M1) sh_165 rfl rfl (by simp [Value.category])) ?_
          refine mm_Ebn (fun _ _ => mm_if_ne 35 dX11_test_28 (by decide)) (fun c_28 => ?_) (fun c_28 => ?_)
          · exact absurd c_28 (by decide)
          · refine mm_Es (fun _ _ => mm_iconst (x := 1) dX11_test_31 (by decide)) ?_
            refine mm_Es (fun _ _ => mm_goto 36 dX11_test_32 (by decide)) ?_
            refine mm_Es (fun _ _ => mm_istore_n dX11_test_36 rfl (by decide) rfl) ?_
            refine mm_Es (fun _ _ => mm_goto 9 dX11_test_37 (by decide)) ?_
            exact K
  have r2 : ∀ st s, kd B n s.1 = 30 ∨ kd B n s.1 = 4 → zs_d st = 10 → ZE (1 + 8 * s.1 + 2) → Z1 st s := by
    intro st s hk h10 H
    rw [eZ1]
    rw [eZE] at H
    intro gg p x3 x4 fg T hb hJ
    have f0 := T.1.f0
    obtain ⟨g1, M1, f1, E1⟩ : ∃ g, mm_M (d + 9) YX11_fact [.ref 165] gg (some (.int 0)) g ∧ mw_fr r gg g ∧ ME B n g r (1 + 8 * s.1 + 2) := by
      rcases hk with z | z
      · exact mX11_fact_en d gg B n r p s st T hb z h10
      · exact mX11_fact_eb d gg B n r p s st T hb z h10
    have K := H g1 1 x3 x4 (fg.trans f1) E1.m1
    refine mm_Es (fun _ _ => mm_iload_n dX11_test_9 rfl rfl) ?_
    refine mm_Eb (fun _ _ => mm_if_eq 202 dX11_test_10 (by decide)) (fun c_10 => ?_) (fun c_10 => ?_)
    · exact absurd c_10 (by decide)
    · refine mm_Es (fun _ _ => mm_aload_n dX11_test_13 rfl rfl) ?_
      refine mm_Es (fun _ _ => mm_getI dX11_test_14 fX11_208 sh_165 rfl) ?_
      refine mm_Ebn (fun _ _ => mm_if_ne 202 dX11_test_17 (by decide)) (fun c_17 => ?_) (fun c_17 => ?_)
      · exact absurd f0 c_17
      · refine mm_Es (fun _ _ => mm_iload_n dX11_test_20 rfl rfl) ?_
        refine mm_Eb (fun _ _ => mm_if_eq 40 dX11_test_21 (by decide)) (fun c_21 => ?_) (fun c_21 => ?_)
        · exact absurd c_21 (by decide)
        · refine mm_Es (fun _ _ => mm_aload_n dX11_test_24 rfl rfl) ?_
          refine mm_Es (fun _ _ => mm_cV (Y1 := YX11_fact) dX11_test_25 lX11_296 vX11_fact (M1) sh_165 rfl rfl (by simp [Value.category])) ?_
          refine mm_Ebn (fun _ _ => mm_if_ne 35 dX11_test_28 (by decide)) (fun c_28 => ?_) (fun c_28 => ?_)
          · exact absurd c_28 (by decide)
          · refine mm_Es (fun _ _ => mm_iconst (x := 1) dX11_test_31 (by decide)) ?_
            refine mm_Es (fun _ _ => mm_goto 36 dX11_test_32 (by decide)) ?_
            refine mm_Es (fun _ _ => mm_istore_n dX11_test_36 rfl (by decide) rfl) ?_
            refine mm_Es (fun _ _ => mm_goto 9 dX11_test_37 (by decide)) ?_
            exact K
  have r4 : ∀ st s fu, n ≤ fu → ¬ kd B n s.1 = 30 → ¬ kd B n s.1 = 4 → zs_E (fun t => Z2 (zs_q st t).1 (zs_q st t).2) ZE (zl_k B n fu s) → Z1 st s := by
    intro st s fu hfu k1 k2 H
    rw [eZ1]
    intro gg p x3 x4 fg T hb hJ
    have f0 := T.1.f0
    have hle := T.1.le
    obtain ⟨g1, M1, f1, R1⟩ := mX11_fact_c d gg B n r p s st T hb hr k1 k2 (zl_J_le hJ (by omega)) fu hfu
    have K : mm_E (d + 10) YX11_test 9 [some (.ref 165), some (.int 0), some (.int 1), x3, x4] [] g1 P := by
      cases e : zl_k B n fu s with
      | error c =>
        rw [e] at R1 H
        replace H : ZE c := H
        rw [eZE] at H
        exact H g1 0 x3 x4 (fg.trans f1.mw) R1.m1
      | ok t =>
        rw [e] at R1 H
        have H := J5 st t H
        rw [eZ0] at H
        obtain ⟨w1, w2, w3, w4⟩ := zl_k_fwd hle e
        exact H g1 t.1 x3 x4 (fg.trans f1.mw) (T.v f1 R1) (by omega) (w4 _ hJ)
    refine mm_Es (fun _ _ => mm_iload_n dX11_test_9 rfl rfl) ?_
    refine mm_Eb (fun _ _ => mm_if_eq 202 dX11_test_10 (by decide)) (fun c_10 => ?_) (fun c_10 => ?_)
    · exact absurd c_10 (by decide)
    · refine mm_Es (fun _ _ => mm_aload_n dX11_test_13 rfl rfl) ?_
      refine mm_Es (fun _ _ => mm_getI dX11_test_14 fX11_208 sh_165 rfl) ?_
      refine mm_Ebn (fun _ _ => mm_if_ne 202 dX11_test_17 (by decide)) (fun c_17 => ?_) (fun c_17 => ?_)
      · exact absurd f0 c_17
      · refine mm_Es (fun _ _ => mm_iload_n dX11_test_20 rfl rfl) ?_
        refine mm_Eb (fun _ _ => mm_if_eq 40 dX11_test_21 (by decide)) (fun c_21 => ?_) (fun c_21 => ?_)
        · exact absurd c_21 (by decide)
        · refine mm_Es (fun _ _ => mm_aload_n dX11_test_24 rfl rfl) ?_
          refine mm_Es (fun _ _ => mm_cV (Y1 := YX11_fact) dX11_test_25 lX11_296 vX11_fact (M1) sh_165 rfl rfl (by simp [Value.category])) ?_
          refine mm_Ebn (fun _ _ => mm_if_ne 35 dX11_test_28 (by decide)) (fun c_28 => ?_) (fun c_28 => ?_)
          · refine mm_Es (fun _ _ => mm_iconst (x := 0) dX11_test_35 (by decide)) ?_
            refine mm_Es (fun _ _ => mm_istore_n dX11_test_36 rfl (by decide) rfl) ?_
            refine mm_Es (fun _ _ => mm_goto 9 dX11_test_37 (by decide)) ?_
            exact K
          · exact absurd c_28 (by decide)
  have r5 : ∀ st s, kd B n s.1 = 31 → Z1 (10 :: st) (zl_a B n s) → Z2 st s := by
    intro st s hk H
    rw [eZ1] at H
    rw [eZ2]
    intro gg fg T hb hJ
    have hle := T.1.le
    rw [pI_1 hk, pI_0 (show ¬ kd B n s.1 = 32 by omega)]
    obtain ⟨hpos, een⟩ := en_w (i := 15) hle (by decide) (by decide) hk
    have een : en B n s.1 = s.1 + 3 := een
    have hen := en_bd (B := B) hpos
    have hnx : sk B n (s.1 + 3) = nx B n s.1 := by unfold nx; rw [if_neg (by omega), een]
    obtain ⟨c1, c2, c3⟩ := zl_a_bd (B := B) (s := s) hle (by omega)
    obtain ⟨g1, M1, f1, T1⟩ := mX11_opens_s (d + 8) gg B n r s.1 s st T (by omega) 10 (by decide)
    obtain ⟨g2, eg2⟩ : ∃ g : mm_H, g = (mm_up g1.1 165 21 (nI (s.1 + 3)), g1.2.1, g1.2.2) := ⟨_, rfl⟩
    have f2 : mt_fr g1 g2 := by rw [eg2]; exact mt_p g1 _
    have ep : g1.1 165 21 = nI s.1 := T1.1.1.2.1
    have T2 : TS B n g2 r (zl_a B n s) (s.1 + 3) (10 :: st) := TS_mt T1 f2 (T1.1.a f2 (by rw [eg2]; exact T1.1.1.p _) (by omega) hnx)
    have K := H g2 (s.1 + 3) (some (.int 1)) (some (.int 0)) ((fg.trans f1).trans f2.mc.mv.mw) T2 (by rw [List.length_cons]; omega) (by rw [zs_o_1 (by decide)]; exact zl_J_le (c3 _ hJ) (by omega))
    refine mm_Es (fun _ _ => mm_iload_n dX11_test_73 rfl rfl) ?_
    refine mm_Ebn (fun _ _ => mm_if_ne 82 dX11_test_74 (by decide)) (fun c_74 => ?_) (fun c_74 => ?_)
    · refine mm_Es (fun _ _ => mm_iload dX11_test_82 rfl) ?_
      refine mm_Eb (fun _ _ => mm_if_eq 93 dX11_test_84 (by decide)) (fun c_84 => ?_) (fun c_84 => ?_)
      · refine mm_Es (fun _ _ => mm_aload_n dX11_test_93 rfl rfl) ?_
        refine mm_Es (fun _ _ => mm_iload_n dX11_test_94 rfl rfl) ?_
        refine mm_Eb (fun _ _ => mm_if_eq 103 dX11_test_95 (by decide)) (fun c_95 => ?_) (fun c_95 => ?_)
        · exact absurd c_95 (by decide)
        · refine mm_Es (fun _ _ => mm_bipush (x := 10) dX11_test_98 (by decide)) ?_
          refine mm_Es (fun _ _ => mm_goto 105 dX11_test_100 (by decide)) ?_
          refine mm_Es (fun _ _ => mm_cV (Y1 := YX11_opens) dX11_test_105 lX11_290 vX11_opens (M1) sh_165 rfl rfl (by simp [Value.category])) ?_
          refine mm_Es (fun _ _ => mm_aload_n dX11_test_108 rfl rfl) ?_
          refine mm_Es (fun _ _ => mm_dup dX11_test_109 rfl) ?_
          refine mm_Es (fun _ _ => mm_getI dX11_test_110 fX11_211 sh_165 rfl) ?_
          refine mm_Es (fun _ _ => mm_iload_n dX11_test_113 rfl rfl) ?_
          refine mm_Eb (fun _ _ => mm_if_eq 121 dX11_test_114 (by decide)) (fun c_114 => ?_) (fun c_114 => ?_)
          · exact absurd c_114 (by decide)
          · refine mm_Es (fun _ _ => mm_iconst (x := 3) dX11_test_117 (by decide)) ?_
            refine mm_Es (fun _ _ => mm_goto 122 dX11_test_118 (by decide)) ?_
            refine mm_Es (fun _ _ => mm_iadd dX11_test_122) ?_
            refine mm_Es (fun _ _ => mm_putI dX11_test_123 fX11_211 sh_165 rfl rfl rfl) ?_
            refine mm_Es (fun _ _ => mm_cast rfl rfl (g := g2) (by rw [eg2, ep]; exact congrArg (fun z => (mm_up g1.1 165 21 z, g1.2.1, g1.2.2)) (nI_add s.1 3))) ?_
            refine mm_Es (fun _ _ => mm_iconst (x := 1) dX11_test_126 (by decide)) ?_
            refine mm_Es (fun _ _ => mm_istore_n dX11_test_127 rfl (by decide) rfl) ?_
            refine mm_Es (fun _ _ => mm_goto 199 dX11_test_128 (by decide)) ?_
            refine mm_Es (fun _ _ => mm_goto 9 dX11_test_199 (by decide)) ?_
            exact K
      · exact absurd c_84 (by decide)
    · exact absurd c_74 (by decide)
  have r6 : ∀ st s, kd B n s.1 = 32 → Z1 (11 :: (zs_p 11 32 st s).1) (zl_a B n (zs_p 11 32 st s).2) → Z2 st s := by
    intro st s hk H
    rw [eZ1] at H
    rw [eZ2]
    intro gg fg T hb hJ
    have hle := T.1.le
    rw [pI_1 hk, pI_0 (show ¬ kd B n s.1 = 31 by omega)]
    obtain ⟨hpos, een⟩ := en_w (i := 16) hle (by decide) (by decide) hk
    have een : en B n s.1 = s.1 + 2 := een
    have hen := en_bd (B := B) hpos
    have hnx : sk B n (s.1 + 2) = nx B n s.1 := by unfold nx; rw [if_neg (by omega), een]
    obtain ⟨g0, M0, f0', T0⟩ := mX11_answers (d + 8) gg B n r s.1 hr s st T (by omega) (zl_J_le hJ (by omega)) 11 32 (by decide)
    obtain ⟨a1, a2, a3, a4, a5⟩ := zs_p_f (k := 11) (t := 32) (by decide) st s
    have J1 := a5 12 hJ
    obtain ⟨st1, e1⟩ : ∃ x, x = (zs_p 11 32 st s).1 := ⟨_, rfl⟩
    obtain ⟨s1, e2⟩ : ∃ x, x = (zs_p 11 32 st s).2 := ⟨_, rfl⟩
    rw [← e1, ← e2] at H T0 J1
    rw [← e2] at a1
    rw [← e1] at a3
    obtain ⟨c1, c2, c3⟩ := zl_a_bd (B := B) (s := s1) (by rw [a1]; exact hle) (by rw [a1]; omega)
    obtain ⟨g1, M1, f1, T1⟩ := mX11_opens_s (d + 8) g0 B n r s.1 s1 st1 T0 (by omega) 11 (by decide)
    obtain ⟨g2, eg2⟩ : ∃ g : mm_H, g = (mm_up g1.1 165 21 (nI (s.1 + 2)), g1.2.1, g1.2.2) := ⟨_, rfl⟩
    have f2 : mt_fr g1 g2 := by rw [eg2]; exact mt_p g1 _
    have ep : g1.1 165 21 = nI s.1 := T1.1.1.2.1
    have T2 : TS B n g2 r (zl_a B n s1) (s.1 + 2) (11 :: st1) := TS_mt T1 f2 (T1.1.a f2 (by rw [eg2]; exact T1.1.1.p _) (by omega) (by rw [a1]; exact hnx))
    have K := H g2 (s.1 + 2) (some (.int 0)) (some (.int 1)) (((fg.trans f0').trans f1).trans f2.mc.mv.mw) T2 (by rw [List.length_cons]; rw [a1] at c2; omega) (by rw [zs_o_1 (by decide)]; exact zl_J_le (c3 _ J1) (by omega))
    refine mm_Es (fun _ _ => mm_iload_n dX11_test_73 rfl rfl) ?_
    refine mm_Ebn (fun _ _ => mm_if_ne 82 dX11_test_74 (by decide)) (fun c_74 => ?_) (fun c_74 => ?_)
    · exact absurd c_74 (by decide)
    · refine mm_Es (fun _ _ => mm_iload dX11_test_77 rfl) ?_
      refine mm_Eb (fun _ _ => mm_if_eq 131 dX11_test_79 (by decide)) (fun c_79 => ?_) (fun c_79 => ?_)
      · exact absurd c_79 (by decide)
      · refine mm_Es (fun _ _ => mm_iload dX11_test_82 rfl) ?_
        refine mm_Eb (fun _ _ => mm_if_eq 93 dX11_test_84 (by decide)) (fun c_84 => ?_) (fun c_84 => ?_)
        · exact absurd c_84 (by decide)
        · refine mm_Es (fun _ _ => mm_aload_n dX11_test_87 rfl rfl) ?_
          refine mm_Es (fun _ _ => mm_bipush (x := 11) dX11_test_88 (by decide)) ?_
          refine mm_Es (fun _ _ => mm_cV (Y1 := YX11_answers) dX11_test_90 lX11_299 vX11_answers (M0) sh_165 rfl rfl (by simp [Value.category])) ?_
          refine mm_Es (fun _ _ => mm_aload_n dX11_test_93 rfl rfl) ?_
          refine mm_Es (fun _ _ => mm_iload_n dX11_test_94 rfl rfl) ?_
          refine mm_Eb (fun _ _ => mm_if_eq 103 dX11_test_95 (by decide)) (fun c_95 => ?_) (fun c_95 => ?_)
          · refine mm_Es (fun _ _ => mm_bipush (x := 11) dX11_test_103 (by decide)) ?_
            refine mm_Es (fun _ _ => mm_cV (Y1 := YX11_opens) dX11_test_105 lX11_290 vX11_opens (M1) sh_165 rfl rfl (by simp [Value.category])) ?_
            refine mm_Es (fun _ _ => mm_aload_n dX11_test_108 rfl rfl) ?_
            refine mm_Es (fun _ _ => mm_dup dX11_test_109 rfl) ?_
            refine mm_Es (fun _ _ => mm_getI dX11_test_110 fX11_211 sh_165 rfl) ?_
            refine mm_Es (fun _ _ => mm_iload_n dX11_test_113 rfl rfl) ?_
            refine mm_Eb (fun _ _ => mm_if_eq 121 dX11_test_114 (by decide)) (fun c_114 => ?_) (fun c_114 => ?_)
            · refine mm_Es (fun _ _ => mm_iconst (x := 2) dX11_test_121 (by decide)) ?_
              refine mm_Es (fun _ _ => mm_iadd dX11_test_122) ?_
              refine mm_Es (fun _ _ => mm_putI dX11_test_123 fX11_211 sh_165 rfl rfl rfl) ?_
              refine mm_Es (fun _ _ => mm_cast rfl rfl (g := g2) (by rw [eg2, ep]; exact congrArg (fun z => (mm_up g1.1 165 21 z, g1.2.1, g1.2.2)) (nI_add s.1 2))) ?_
              refine mm_Es (fun _ _ => mm_iconst (x := 1) dX11_test_126 (by decide)) ?_
              refine mm_Es (fun _ _ => mm_istore_n dX11_test_127 rfl (by decide) rfl) ?_
              refine mm_Es (fun _ _ => mm_goto 199 dX11_test_128 (by decide)) ?_
              refine mm_Es (fun _ _ => mm_goto 9 dX11_test_199 (by decide)) ?_
              exact K
            · exact absurd c_114 (by decide)
          · exact absurd c_95 (by decide)
  have r7 : ∀ st s, ¬ kd B n s.1 = 31 → ¬ kd B n s.1 = 32 → Z3 (zs_p 11 32 st s).1 (zs_p 11 32 st s).2 → Z2 st s := by
    intro st s k1 k2 H
    rw [eZ3] at H
    rw [eZ2]
    intro gg fg T hb hJ
    have hle := T.1.le
    rw [pI_0 k1, pI_0 k2]
    obtain ⟨g0, M0, f0', T0⟩ := mX11_answers (d + 8) gg B n r s.1 hr s st T (by omega) (zl_J_le hJ (by omega)) 11 32 (by decide)
    obtain ⟨a1, a2, a3, a4, a5⟩ := zs_p_f (k := 11) (t := 32) (by decide) st s
    have J1 := a5 12 hJ
    rw [← a1] at T0
    have K := H g0 (some (.int 0)) (some (.int 0)) (fg.trans f0') T0 (by rw [a1]; omega) J1
    refine mm_Es (fun _ _ => mm_iload_n dX11_test_73 rfl rfl) ?_
    refine mm_Ebn (fun _ _ => mm_if_ne 82 dX11_test_74 (by decide)) (fun c_74 => ?_) (fun c_74 => ?_)
    · exact absurd c_74 (by decide)
    · refine mm_Es (fun _ _ => mm_iload dX11_test_77 rfl) ?_
      refine mm_Eb (fun _ _ => mm_if_eq 131 dX11_test_79 (by decide)) (fun c_79 => ?_) (fun c_79 => ?_)
      · refine mm_Es (fun _ _ => mm_aload_n dX11_test_131 rfl rfl) ?_
        refine mm_Es (fun _ _ => mm_bipush (x := 11) dX11_test_132 (by decide)) ?_
        refine mm_Es (fun _ _ => mm_cV (Y1 := YX11_answers) dX11_test_134 lX11_299 vX11_answers (M0) sh_165 rfl rfl (by simp [Value.category])) ?_
        exact K
      · exact absurd c_79 (by decide)
  have r8 : ∀ st s, kd B n s.1 = 5 → Z2 (zs_q st (zl_a B n s)).1 (zs_q st (zl_a B n s)).2 → Z3 (12 :: st) s := by
    intro st s hk H
    have H := J5 st _ H
    rw [eZ0] at H
    rw [eZ3]
    intro gg x3 x4 fg T hb hJ
    have hle := T.1.le
    rw [List.length_cons] at hb
    have M0 : mm_M (d + 9) YX11_top [.ref 165] gg (some (.int 12)) gg := mX11_top (d + 9) gg B n r s.1 s (12 :: st) T (by rw [List.length_cons]; omega)
    have MG := mX11_sign (d + 9) gg B n s.1 0 T.1.1 (by omega)
    have ep0 : gg.1 165 21 = nI s.1 := T.1.1.2.1
    rw [(sg_5 hby).mpr hk] at MG
    obtain ⟨hpos, een, hnx⟩ := en_1 (B := B) (n := n) (p := s.1) (by omega)
    obtain ⟨c1, c2, c3⟩ := zl_a_bd (B := B) (s := s) hle (by omega)
    obtain ⟨g1, eg1⟩ : ∃ g : mm_H, g = (mm_up gg.1 165 21 (nI (s.1 + 1)), gg.2.1, gg.2.2) := ⟨_, rfl⟩
    have f1 : mt_fr gg g1 := by rw [eg1]; exact mt_p gg _
    have T1 : TS B n g1 r (zl_a B n s) (s.1 + 1) (12 :: st) := TS_mt T f1 (T.1.a f1 (by rw [eg1]; exact T.1.1.p _) (by omega) hnx)
    obtain ⟨g2, eg2⟩ : ∃ g : mm_H, g = (mm_up (mm_up g1.1 165 28 (nI st.length)) 165 26 (nI (zs_d st)), g1.2.1, g1.2.2) := ⟨_, rfl⟩
    obtain ⟨T2, f2⟩ := TS_pop T1 eg2
    have e28 : g1.1 165 28 = nI (st.length + 1) := T1.2.1
    have e26 : g1.1 165 26 = nI (zs_d (12 :: st)) := T1.2.2.2.1
    rw [zs_d_1 (Or.inr rfl)] at e26
    have K := H g2 (s.1 + 1) x3 x4 ((fg.trans f1.mc.mv.mw).trans f2) T2 (by omega) (by rw [zs_o_0] at hJ; exact zl_J_le (c3 _ hJ) (by omega))
    refine mm_Es (fun _ _ => mm_aload_n dX11_test_137 rfl rfl) ?_
    refine mm_Es (fun _ _ => mm_cV (Y1 := YX11_top) dX11_test_138 lX11_285 vX11_top (M0) sh_165 rfl rfl (by simp [Value.category])) ?_
    refine mm_Es (fun _ _ => mm_bipush (x := 12) dX11_test_141 (by decide)) ?_
    refine mm_Ebn (fun _ _ => mm_icmp_ne 197 dX11_test_143 (by decide)) (fun c_143 => ?_) (fun c_143 => ?_)
    · exact absurd c_143 (by decide)
    · refine mm_Es (fun _ _ => mm_aload_n dX11_test_146 rfl rfl) ?_
      refine mm_Es (fun _ _ => mm_cV (Y1 := YX11_sign) dX11_test_147 lX11_214 vX11_sign (MG) sh_165 rfl rfl (by simp [Value.category])) ?_
      refine mm_Es (fun _ _ => mm_bipush (x := 93) dX11_test_150 (by decide)) ?_
      refine mm_Eb (fun _ _ => mm_icmp_eq 164 dX11_test_152 (by decide)) (fun c_152 => ?_) (fun c_152 => ?_)
      · refine mm_Es (fun _ _ => mm_aload_n dX11_test_164 rfl rfl) ?_
        refine mm_Es (fun _ _ => mm_dup dX11_test_165 rfl) ?_
        refine mm_Es (fun _ _ => mm_getI dX11_test_166 fX11_211 sh_165 rfl) ?_
        refine mm_Es (fun _ _ => mm_iconst (x := 1) dX11_test_169 (by decide)) ?_
        refine mm_Es (fun _ _ => mm_iadd dX11_test_170) ?_
        refine mm_Es (fun _ _ => mm_putI dX11_test_171 fX11_211 sh_165 rfl rfl rfl) ?_
        refine mm_Es (fun _ _ => mm_cast rfl rfl (g := g1) (by rw [eg1, ep0, nI_succ])) ?_
        refine mm_Es (fun _ _ => mm_aload_n dX11_test_174 rfl rfl) ?_
        refine mm_Es (fun _ _ => mm_dup dX11_test_175 rfl) ?_
        refine mm_Es (fun _ _ => mm_getI dX11_test_176 fX11_279 sh_165 rfl) ?_
        refine mm_Es (fun _ _ => mm_iconst (x := 1) dX11_test_179 (by decide)) ?_
        refine mm_Es (fun _ _ => mm_isub dX11_test_180) ?_
        refine mm_Es (fun _ _ => mm_putI dX11_test_181 fX11_279 sh_165 rfl rfl rfl) ?_
        refine mm_Es (fun _ _ => mm_aload_n dX11_test_184 rfl rfl) ?_
        refine mm_Es (fun _ _ => mm_dup dX11_test_185 rfl) ?_
        refine mm_Es (fun _ _ => mm_getI dX11_test_186 fX11_282 sh_165 rfl) ?_
        refine mm_Es (fun _ _ => mm_iconst (x := 1) dX11_test_189 (by decide)) ?_
        refine mm_Es (fun _ _ => mm_isub dX11_test_190) ?_
        refine mm_Es (fun _ _ => mm_putI dX11_test_191 fX11_282 sh_165 rfl rfl rfl) ?_
        refine mm_Es (fun _ _ => mm_cast rfl rfl (g := g2) (by rw [eg2]; dsimp only; rw [mm_up_k (by decide), e28, e26, nI_succ, nI_succ]; simp)) ?_
        refine mm_Es (fun _ _ => mm_goto 199 dX11_test_194 (by decide)) ?_
        refine mm_Es (fun _ _ => mm_goto 9 dX11_test_199 (by decide)) ?_
        exact K
      · exact absurd c_152 (by decide)
  have r9 : ∀ st s, ¬ kd B n s.1 = 5 → ZE (1 + 8 * s.1) → Z3 (12 :: st) s := by
    intro st s hk H
    rw [eZE] at H
    rw [eZ3]
    intro gg x3 x4 fg T hb hJ
    have hle := T.1.le
    rw [List.length_cons] at hb
    have M0 : mm_M (d + 9) YX11_top [.ref 165] gg (some (.int 12)) gg := mX11_top (d + 9) gg B n r s.1 s (12 :: st) T (by rw [List.length_cons]; omega)
    have MG := mX11_sign (d + 9) gg B n s.1 0 T.1.1 (by omega)
    have ep0 : gg.1 165 21 = nI s.1 := T.1.1.2.1
    have n1 : ¬ sgV B n s.1 = 93 := fun z => hk ((sg_5 hby).mp z)
    have MF := mX11_fails (d + 9) gg B n s.1 0 T.1.1 (by omega) (by omega) s.1 0 (by omega) (by decide)
    rw [flt_0] at MF
    obtain ⟨g1, eg1⟩ : ∃ g : mm_H, g = (mm_up gg.1 165 22 (nI (1 + 8 * s.1)), gg.2.1, gg.2.2) := ⟨_, rfl⟩
    replace MF : mm_M (d + 9) YX11_fails [.ref 165, .int (nI 0), .int (nI s.1)] gg none g1 := by rw [eg1]; exact MF
    have f1 : mt_fr gg g1 := by rw [eg1]; exact mt_q gg _
    have t1 : MT B n g1 s.1 (1 + 8 * s.1) := by rw [eg1]; exact T.1.1.f _
    have ep1 : g1.1 165 21 = nI s.1 := t1.2.1
    obtain ⟨g2, eg2⟩ : ∃ g : mm_H, g = (mm_up g1.1 165 21 (nI (s.1 + 1)), g1.2.1, g1.2.2) := ⟨_, rfl⟩
    have f2 : mt_fr g1 g2 := by rw [eg2]; exact mt_p g1 _
    have t2 : MT B n g2 (s.1 + 1) (1 + 8 * s.1) := by rw [eg2]; exact t1.p _
    obtain ⟨g3, eg3⟩ : ∃ g : mm_H, g = (mm_up (mm_up g2.1 165 28 (g2.1 165 28 - 1)) 165 26 ((mm_up g2.1 165 28 (g2.1 165 28 - 1)) 165 26 - 1), g2.2.1, g2.2.2) := ⟨_, rfl⟩
    have f3 : mw_fr r g2 g3 := by
      rw [eg3]
      refine ⟨((frm.refl _ g2).up (c := 165) rfl).up (c := 165) rfl, fun j _ _ _ h4 _ h6 => ?_, fun i hi => ⟨?_, ?_⟩⟩ <;> dsimp only
      · rw [mm_up_k h4, mm_up_k h6]
      · rw [mm_up_n (by decide), mm_up_n (by decide)]
      · rw [mm_up_n (by decide), mm_up_n (by decide)]
    have t3 : MT B n g3 (s.1 + 1) (1 + 8 * s.1) := by
      obtain ⟨a1, a2, a3, a4, a5⟩ := t2
      rw [eg3]
      refine ⟨?_, ?_, ?_, fun i hi => ?_, a5⟩ <;> dsimp only
      · rw [mm_up_k (by decide), mm_up_k (by decide)]; exact a1
      · rw [mm_up_k (by decide), mm_up_k (by decide)]; exact a2
      · rw [mm_up_k (by decide), mm_up_k (by decide)]; exact a3
      · rw [mm_up_n (by decide), mm_up_n (by decide)]; exact a4 i hi
    have fA := (f1.mc.mv.mw.trans f2.mc.mv.mw).trans f3
    have E3 : ME1 B n g3 r (1 + 8 * s.1) := ⟨s.1 + 1, t3, by omega, by omega, by omega, by rw [fA.2.1 23 (by decide) (by decide) (by decide) (by decide) (by decide) (by decide)]; exact T.1.2.2.2.2.2.1, by rw [fA.2.1 29 (by decide) (by decide) (by decide) (by decide) (by decide) (by decide)]; exact T.1.2.2.2.2.2.2.1⟩
    have K := H g3 0 x3 x4 (fg.trans fA) E3
    refine mm_Es (fun _ _ => mm_aload_n dX11_test_137 rfl rfl) ?_
    refine mm_Es (fun _ _ => mm_cV (Y1 := YX11_top) dX11_test_138 lX11_285 vX11_top (M0) sh_165 rfl rfl (by simp [Value.category])) ?_
    refine mm_Es (fun _ _ => mm_bipush (x := 12) dX11_test_141 (by decide)) ?_
    refine mm_Ebn (fun _ _ => mm_icmp_ne 197 dX11_test_143 (by decide)) (fun c_143 => ?_) (fun c_143 => ?_)
    · exact absurd c_143 (by decide)
    · refine mm_Es (fun _ _ => mm_aload_n dX11_test_146 rfl rfl) ?_
      refine mm_Es (fun _ _ => mm_cV (Y1 := YX11_sign) dX11_test_147 lX11_214 vX11_sign (MG) sh_165 rfl rfl (by simp [Value.category])) ?_
      refine mm_Es (fun _ _ => mm_bipush (x := 93) dX11_test_150 (by decide)) ?_
      refine mm_Eb (fun _ _ => mm_icmp_eq 164 dX11_test_152 (by decide)) (fun c_152 => ?_) (fun c_152 => ?_)
      · exact absurd c_152 n1
      · refine mm_Es (fun _ _ => mm_aload_n dX11_test_155 rfl rfl) ?_
        refine mm_Es (fun _ _ => mm_iconst (x := 0) dX11_test_156 (by decide)) ?_
        refine mm_Es (fun _ _ => mm_aload_n dX11_test_157 rfl rfl) ?_
        refine mm_Es (fun _ _ => mm_getI dX11_test_158 fX11_211 sh_165 rfl) ?_
        refine mm_Es (fun _ _ => mm_cast (st' := [.int (nI s.1), .int (nI 0), .ref 165]) rfl (by rw [ep0] <;> rfl) rfl) ?_
        refine mm_Es (fun _ _ => mm_cV (Y1 := YX11_fails) dX11_test_161 lX11_247 vX11_fails (MF) sh_165 rfl rfl (by simp [Value.category])) ?_
        refine mm_Es (fun _ _ => mm_aload_n dX11_test_164 rfl rfl) ?_
        refine mm_Es (fun _ _ => mm_dup dX11_test_165 rfl) ?_
        refine mm_Es (fun _ _ => mm_getI dX11_test_166 fX11_211 sh_165 rfl) ?_
        refine mm_Es (fun _ _ => mm_iconst (x := 1) dX11_test_169 (by decide)) ?_
        refine mm_Es (fun _ _ => mm_iadd dX11_test_170) ?_
        refine mm_Es (fun _ _ => mm_putI dX11_test_171 fX11_211 sh_165 rfl rfl rfl) ?_
        refine mm_Es (fun _ _ => mm_cast rfl rfl (g := g2) (by rw [eg2, ep1, nI_succ])) ?_
        refine mm_Es (fun _ _ => mm_aload_n dX11_test_174 rfl rfl) ?_
        refine mm_Es (fun _ _ => mm_dup dX11_test_175 rfl) ?_
        refine mm_Es (fun _ _ => mm_getI dX11_test_176 fX11_279 sh_165 rfl) ?_
        refine mm_Es (fun _ _ => mm_iconst (x := 1) dX11_test_179 (by decide)) ?_
        refine mm_Es (fun _ _ => mm_isub dX11_test_180) ?_
        refine mm_Es (fun _ _ => mm_putI dX11_test_181 fX11_279 sh_165 rfl rfl rfl) ?_
        refine mm_Es (fun _ _ => mm_aload_n dX11_test_184 rfl rfl) ?_
        refine mm_Es (fun _ _ => mm_dup dX11_test_185 rfl) ?_
        refine mm_Es (fun _ _ => mm_getI dX11_test_186 fX11_282 sh_165 rfl) ?_
        refine mm_Es (fun _ _ => mm_iconst (x := 1) dX11_test_189 (by decide)) ?_
        refine mm_Es (fun _ _ => mm_isub dX11_test_190) ?_
        refine mm_Es (fun _ _ => mm_putI dX11_test_191 fX11_282 sh_165 rfl rfl rfl) ?_
        refine mm_Es (fun _ _ => mm_cast rfl rfl (g := g3) eg3.symm) ?_
        refine mm_Es (fun _ _ => mm_goto 199 dX11_test_194 (by decide)) ?_
        refine mm_Es (fun _ _ => mm_goto 9 dX11_test_199 (by decide)) ?_
        exact K
  have J8 : ∀ s, (∀ g, mw_fr r h g → zm_S B n g r s s.1 → g.1 165 26 = 0 → P none g) → Z3 [] s := by
    intro s H
    rw [eZ3]
    intro gg x3 x4 fg T hb hJ
    have M0 : mm_M (d + 9) YX11_top [.ref 165] gg (some (.int (-1))) gg := mX11_top (d + 9) gg B n r s.1 s [] T (by decide)
    have H := H gg fg T.1 T.2.2.2.1
    refine mm_Es (fun _ _ => mm_aload_n dX11_test_137 rfl rfl) ?_
    refine mm_Es (fun _ _ => mm_cV (Y1 := YX11_top) dX11_test_138 lX11_285 vX11_top (M0) sh_165 rfl rfl (by simp [Value.category])) ?_
    refine mm_Es (fun _ _ => mm_bipush (x := 12) dX11_test_141 (by decide)) ?_
    refine mm_Ebn (fun _ _ => mm_icmp_ne 197 dX11_test_143 (by decide)) (fun c_143 => ?_) (fun c_143 => ?_)
    · refine mm_Es (fun _ _ => mm_iconst (x := 0) dX11_test_197 (by decide)) ?_
      refine mm_Es (fun _ _ => mm_istore_n dX11_test_198 rfl (by decide) rfl) ?_
      refine mm_Es (fun _ _ => mm_goto 9 dX11_test_199 (by decide)) ?_
      refine mm_Es (fun _ _ => mm_iload_n dX11_test_9 rfl rfl) ?_
      refine mm_Eb (fun _ _ => mm_if_eq 202 dX11_test_10 (by decide)) (fun c_10 => ?_) (fun c_10 => ?_)
      · refine mm_Er (mm_return dX11_test_202 rfl) ?_
        exact H
      · exact absurd c_10 (by decide)
    · exact absurd c_143 (by decide)
  have main := (zt_main Z1 Z2 Z3 ZE r1 r2 r3 r4 r5 r6 r7 r8 r9 fu).2.1 [] s (Or.inl rfl) (by decide) hle hv hfu (by
    show zs_E (Z3 []) ZE (zl_x B n fu 1 0 s)
    cases e : zl_x B n fu 1 0 s with
    | error c => exact hE0 c (fun g fg E => by rw [eP, e]; exact ⟨rfl, fg, E⟩)
    | ok t => exact J8 t (fun g fg Sg e26 => by rw [eP, e]; exact ⟨rfl, fg, Sg, e26⟩))
  rw [eZ1] at main
  obtain ⟨g1, eg1⟩ : ∃ g : mm_H, g = (mm_up h.1 165 28 0, h.2.1, h.2.2) := ⟨_, rfl⟩
  have T1 : TS B n g1 r s p [] ∧ mw_fr r h g1 := by
    obtain ⟨⟨a1, a2, a3, a4, a5⟩, b1, b2, b3, b4, b5, b6, b7, b8⟩ := S
    subst eg1
    refine ⟨⟨⟨⟨?_, ?_, ?_, fun i hi => ?_, a5⟩, b1, b2, ?_, ?_, ?_, ?_, fun i hi => ?_, b8⟩, ?_, fun i hi => absurd hi (Nat.not_lt_zero i), ?_, fun x hx => absurd hx List.not_mem_nil⟩, (frm.refl _ h).up (c := 165) rfl, fun j _ _ _ _ _ h6 => ?_, fun i hi => ⟨?_, ?_⟩⟩ <;> dsimp only
    · rw [mm_up_k (by decide)]; exact a1
    · rw [mm_up_k (by decide)]; exact a2
    · rw [mm_up_k (by decide)]; exact a3
    · rw [mm_up_n (by decide)]; exact a4 i hi
    · rw [mm_up_k (by decide)]; exact b3
    · rw [mm_up_k (by decide)]; exact b4
    · rw [mm_up_k (by decide)]; exact b5
    · rw [mm_up_k (by decide)]; exact b6
    · rw [mm_up_n (by decide), mm_up_n (by decide)]; exact b7 i hi
    · rw [mm_up_e]; rfl
    · rw [mm_up_k (by decide)]; exact h26
    · rw [mm_up_k h6]
    · rw [mm_up_n (by decide)]
    · rw [mm_up_n (by decide)]
  have K := main g1 p none none T1.2 T1.1 (Nat.zero_le _) hJ
  refine mm_Es (fun _ _ => mm_aload_n dX11_test_0 rfl rfl) ?_
  refine mm_Es (fun _ _ => mm_iconst (x := 0) dX11_test_1 (by decide)) ?_
  refine mm_Es (fun _ _ => mm_putI dX11_test_2 fX11_279 sh_165 rfl rfl rfl) ?_
  refine mm_Es (fun _ _ => mm_cast rfl rfl (g := g1) eg1.symm) ?_
  refine mm_Es (fun _ _ => mm_iconst (x := 1) dX11_test_5 (by decide)) ?_
  refine mm_Es (fun _ _ => mm_istore_n dX11_test_6 rfl (by decide) rfl) ?_
  refine mm_Es (fun _ _ => mm_iconst (x := 1) dX11_test_7 (by decide)) ?_
  refine mm_Es (fun _ _ => mm_istore_n dX11_test_8 rfl (by decide) rfl) ?_
  exact K
