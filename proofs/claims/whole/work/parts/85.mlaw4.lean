/-! The reference reads a law: what waits (9 not, 10 and, 11 or, 12 a bracket). -/
/-- how deep; how many signs wait -/
def zs_d : List Nat → Nat
  | [] => 0
  | x :: st => (if x = 9 ∨ x = 12 then 1 else 0) + zs_d st
def zs_o : List Nat → Nat
  | [] => 0
  | x :: st => (if x = 12 then 0 else 1) + zs_o st
/-- all k's on top are answered -/
def zs_p (k t : Nat) : List Nat → zl_S → List Nat × zl_S
  | [], s => ([], s)
  | x :: st, s => if x = k then zs_p k t st (zl_e t s) else (x :: st, s)
theorem zs_p_f {k t : Nat} (hk : ¬ k = 12) : ∀ (st : List Nat) (s : zl_S), (zs_p k t st s).2.1 = s.1 ∧ (zs_p k t st s).2.2.1 = s.2.1 ∧ (zs_p k t st s).1.length ≤ st.length ∧ (∀ x, x ∈ (zs_p k t st s).1 → x ∈ st) ∧ ∀ y, zl_J (3 * zs_o st + y) s → zl_J (3 * zs_o (zs_p k t st s).1 + y) (zs_p k t st s).2 := by
  intro st
  induction st with
  | nil => intro s; exact ⟨rfl, rfl, Nat.le_refl _, fun x hx => hx, fun y hy => hy⟩
  | cons x st ih =>
    intro s
    simp only [zs_p]
    by_cases c : x = k
    · rw [if_pos c]
      obtain ⟨a1, a2, a3, a4, a5⟩ := ih (zl_e t s)
      refine ⟨a1, a2, Nat.le_succ_of_le a3, fun z hz => List.mem_cons_of_mem _ (a4 z hz), fun y hy => a5 y (zl_e_J ?_)⟩
      have e : zs_o (x :: st) = 1 + zs_o st := by show (if x = 12 then 0 else 1) + zs_o st = _; rw [if_neg (by omega)]
      rw [e] at hy
      exact zl_J_le hy (by omega)
    · rw [if_neg c]
      exact ⟨rfl, rfl, Nat.le_refl _, fun x hx => hx, fun y hy => hy⟩
def pMW : Nat → Bool := fun c => c == 165 || c == 186 || c == 187 || c == 193
def mw_fr (r : Nat) (h g : mm_H) : Prop := frm pMW h g ∧ (∀ j, j ≠ 21 → j ≠ 22 → j ≠ 25 → j ≠ 26 → j ≠ 27 → j ≠ 28 → g.1 165 j = h.1 165 j) ∧ ∀ k, (k < 300 * r ∨ 300 * r + 300 ≤ k) → g.1 186 k = h.1 186 k ∧ g.1 187 k = h.1 187 k
theorem mw_fr.refl (r : Nat) (h : mm_H) : mw_fr r h h := ⟨frm.refl _ _, fun _ _ _ _ _ _ _ => rfl, fun _ _ => ⟨rfl, rfl⟩⟩
theorem mw_fr.trans {r : Nat} {h g k : mm_H} (a : mw_fr r h g) (b : mw_fr r g k) : mw_fr r h k := ⟨a.1.trans b.1, fun j h1 h2 h3 h4 h5 h6 => (b.2.1 j h1 h2 h3 h4 h5 h6).trans (a.2.1 j h1 h2 h3 h4 h5 h6), fun i hi => ⟨(b.2.2 i hi).1.trans (a.2.2 i hi).1, (b.2.2 i hi).2.trans (a.2.2 i hi).2⟩⟩
theorem mv_fr.mw {r : Nat} {h g : mm_H} (a : mv_fr r h g) : mw_fr r h g := ⟨a.1.mono (fun c hc => by simp only [pMV, pMW, Bool.or_eq_false_iff] at hc ⊢; exact hc.1), fun j h1 h2 h3 _ h5 _ => a.2.1 j h1 h2 h3 h5, a.2.2⟩
/-- the reader and what waits -/
def TS (B : Nat → Int32) (n : Nat) (h : mm_H) (r : Nat) (s : zl_S) (p : Nat) (st : List Nat) : Prop := zm_S B n h r s p ∧ h.1 165 28 = nI st.length ∧ (∀ i, i < st.length → h.1 193 i = nI (st.getD (st.length - 1 - i) 0)) ∧ h.1 165 26 = nI (zs_d st) ∧ ∀ x, x ∈ st → x < 100
theorem TS.v {B : Nat → Int32} {n r p q : Nat} {s t : zl_S} {st : List Nat} {h g : mm_H} (T : TS B n h r s p st) (a : mv_fr r h g) (S : zm_S B n g r t q) : TS B n g r t q st := ⟨S, by rw [a.2.1 28 (by decide) (by decide) (by decide) (by decide)]; exact T.2.1, fun i hi => by rw [a.1.i (c := 193) rfl]; exact T.2.2.1 i hi, by rw [a.2.1 26 (by decide) (by decide) (by decide) (by decide)]; exact T.2.2.2.1, T.2.2.2.2⟩
set_option maxRecDepth 100000 in
set_option maxHeartbeats 4000000 in
theorem mX11_top (d : Nat) (h : mm_H) (B : Nat → Int32) (n r p : Nat) (s : zl_S) (st : List Nat) (T : TS B n h r s p st) (hl : st.length ≤ 401) : mm_M d YX11_top [.ref 165] h (some (.int (match st with | [] => -1 | x :: _ => nI x))) h := by
  obtain ⟨-, h28, hc, -⟩ := T
  cases st with
  | nil =>
    refine mm_M.of [some (.ref 165)] rfl rfl (Nat.le_of_ble_eq_true rfl) ?_
    refine mm_aload_n dX11_top_0 rfl rfl ?_
    refine mm_getI dX11_top_1 fX11_279 sh_165 rfl ?_
    refine mm_if_ne 11 dX11_top_4 (by decide) (fun c_4 => ?_) (fun c_4 => ?_)
    · exact absurd h28 c_4
    · refine mm_iconst (x := (-1)) dX11_top_7 (by decide) ?_
      refine mm_goto 22 dX11_top_8 (by decide) ?_
      exact mm_iretE dX11_top_22 rfl rfl rfl
  | cons x st =>
    have e : h.1 193 st.length = nI x := by
      have := hc st.length (by rw [List.length_cons]; omega)
      rw [show (x :: st).length - 1 - st.length = 0 by rw [List.length_cons]; omega] at this
      exact this
    rw [List.length_cons] at h28 hl
    refine mm_M.of [some (.ref 165)] rfl rfl (Nat.le_of_ble_eq_true rfl) ?_
    refine mm_aload_n dX11_top_0 rfl rfl ?_
    refine mm_getI dX11_top_1 fX11_279 sh_165 rfl ?_
    refine mm_if_ne 11 dX11_top_4 (by decide) (fun c_4 => ?_) (fun c_4 => ?_)
    · refine mm_aload_n dX11_top_11 rfl rfl ?_
      refine mm_getS dX11_top_12 fX11_96 sh_165 rfl gr_165_40 ?_
      refine mm_aload_n dX11_top_15 rfl rfl ?_
      refine mm_getI dX11_top_16 fX11_279 sh_165 rfl ?_
      refine mm_iconst (x := 1) dX11_top_19 (by decide) ?_
      refine mm_isub dX11_top_20 ?_
      refine mm_iald (st.length) dX11_top_21 sh_193 (by rw [h28, nI_succ]; simp) (by omega) ?_
      exact mm_iretE dX11_top_22 rfl e rfl
    · exact absurd ((nI_eq (b := 0) (by omega) (by omega)).mp (h28.symm.trans c_4)) (by omega)
theorem TS_push {B : Nat → Int32} {n r p k dd : Nat} {s : zl_S} {st : List Nat} {h g : mm_H} (T : TS B n h r s p st) (hk : k < 100) (ed : dd = (if k = 9 ∨ k = 12 then 1 else 0)) (eg : g = (mm_up (mm_up (mm_up h.1 165 26 (nI (zs_d st + dd))) 193 st.length (nI k)) 165 28 (nI (st.length + 1)), h.2.1, h.2.2)) : TS B n g r s p (k :: st) ∧ mw_fr r h g := by
  obtain ⟨⟨⟨a1, a2, a3, a4, a5⟩, b1, b2, b3, b4, b5, b6, b7, b8⟩, c1, c2, c3, c4⟩ := T
  subst eg
  refine ⟨⟨⟨⟨?_, ?_, ?_, fun i hi => ?_, a5⟩, b1, b2, ?_, ?_, ?_, ?_, fun i hi => ?_, b8⟩, ?_, fun i hi => ?_, ?_, fun x hx => ?_⟩, ?_⟩
  · dsimp only; rw [mm_up_k (by decide), mm_up_n (by decide), mm_up_k (by decide)]; exact a1
  · dsimp only; rw [mm_up_k (by decide), mm_up_n (by decide), mm_up_k (by decide)]; exact a2
  · dsimp only; rw [mm_up_k (by decide), mm_up_n (by decide), mm_up_k (by decide)]; exact a3
  · dsimp only; rw [mm_up_n (by decide), mm_up_n (by decide), mm_up_n (by decide)]; exact a4 i hi
  · dsimp only; rw [mm_up_k (by decide), mm_up_n (by decide), mm_up_k (by decide)]; exact b3
  · dsimp only; rw [mm_up_k (by decide), mm_up_n (by decide), mm_up_k (by decide)]; exact b4
  · dsimp only; rw [mm_up_k (by decide), mm_up_n (by decide), mm_up_k (by decide)]; exact b5
  · dsimp only; rw [mm_up_k (by decide), mm_up_n (by decide), mm_up_k (by decide)]; exact b6
  · dsimp only; rw [mm_up_n (by decide), mm_up_n (by decide), mm_up_n (by decide), mm_up_n (by decide), mm_up_n (by decide), mm_up_n (by decide)]; exact b7 i hi
  · dsimp only; rw [mm_up_e, List.length_cons]
  · dsimp only
    rw [List.length_cons] at hi
    rw [mm_up_n (by decide), List.length_cons]
    by_cases z : i = st.length
    · rw [z, mm_up_e, show st.length + 1 - 1 - st.length = 0 by omega]; rfl
    · rw [mm_up_k z, mm_up_n (by decide), c2 i (by omega), show st.length + 1 - 1 - i = (st.length - 1 - i) + 1 by omega]; rfl
  · dsimp only
    rw [mm_up_k (by decide), mm_up_n (by decide), mm_up_e, ed]
    show nI (zs_d st + _) = nI (_ + zs_d st)
    rw [Nat.add_comm]
  · rcases List.mem_cons.mp hx with y | y
    · omega
    · exact c4 x y
  · refine ⟨(((frm.refl _ h).up (c := 165) rfl).up (c := 193) rfl).up (c := 165) rfl, fun j _ _ _ h4 _ h6 => ?_, fun i hi => ⟨?_, ?_⟩⟩ <;> dsimp only
    · rw [mm_up_k h6, mm_up_n (by decide), mm_up_k h4]
    · rw [mm_up_n (by decide), mm_up_n (by decide), mm_up_n (by decide)]
    · rw [mm_up_n (by decide), mm_up_n (by decide), mm_up_n (by decide)]
set_option maxRecDepth 100000 in
set_option maxHeartbeats 4000000 in
theorem mX11_opens_s (d : Nat) (h : mm_H) (B : Nat → Int32) (n r p : Nat) (s : zl_S) (st : List Nat) (T : TS B n h r s p st) (hl : st.length ≤ 401) (k : Nat) (hk : k = 10 ∨ k = 11) : ∃ g, mm_M (d + 1) YX11_opens [.ref 165, .int (nI k)] h none g ∧ mw_fr r h g ∧ TS B n g r s p (k :: st) := by
  have T0 := T
  obtain ⟨-, h28, -, h26, -⟩ := T
  obtain ⟨g, eg⟩ : ∃ g : mm_H, g = (mm_up (mm_up (mm_up h.1 165 26 (nI (zs_d st + 0))) 193 st.length (nI k)) 165 28 (nI (st.length + 1)), h.2.1, h.2.2) := ⟨_, rfl⟩
  obtain ⟨T1, f1⟩ := TS_push T0 (k := k) (by omega) (by rw [if_neg (by omega)]) eg
  refine ⟨g, ?_, f1, T1⟩
  rw [Nat.add_zero, up_self h26] at eg
  refine mm_M.of [some (.ref 165), some (.int (nI k))] rfl rfl (Nat.le_of_ble_eq_true rfl) ?_
  refine mm_iload_n dX11_opens_0 rfl rfl ?_
  refine mm_bipush (x := 9) dX11_opens_1 (by decide) ?_
  refine mm_icmp_eq 12 dX11_opens_3 (by decide) (fun c_3 => ?_) (fun c_3 => ?_)
  · exact absurd ((nI_eq (b := 9) (by omega) (by omega)).mp c_3) (by omega)
  · refine mm_iload_n dX11_opens_6 rfl rfl ?_
    refine mm_bipush (x := 12) dX11_opens_7 (by decide) ?_
    refine mm_icmp_ne 40 dX11_opens_9 (by decide) (fun c_9 => ?_) (fun c_9 => ?_)
    · refine mm_aload_n dX11_opens_40 rfl rfl ?_
      refine mm_getS dX11_opens_41 fX11_96 sh_165 rfl gr_165_40 ?_
      refine mm_aload_n dX11_opens_44 rfl rfl ?_
      refine mm_getI dX11_opens_45 fX11_279 sh_165 rfl ?_
      refine mm_iload_n dX11_opens_48 rfl rfl ?_
      refine mm_iast (st.length) dX11_opens_49 sh_193 h28 (by omega) ?_
      refine mm_aload_n dX11_opens_50 rfl rfl ?_
      refine mm_dup dX11_opens_51 rfl ?_
      refine mm_getI dX11_opens_52 fX11_279 sh_165 rfl ?_
      refine mm_iconst (x := 1) dX11_opens_55 (by decide) ?_
      refine mm_iadd dX11_opens_56 ?_
      refine mm_putI dX11_opens_57 fX11_279 sh_165 rfl rfl rfl ?_
      exact mm_retE dX11_opens_60 rfl (by rw [eg]; dsimp only; rw [mm_up_n (by decide), h28, nI_succ])
    · exact absurd ((nI_eq (b := 12) (by omega) (by omega)).mp c_9) (by omega)
set_option maxRecDepth 100000 in
set_option maxHeartbeats 4000000 in
theorem mX11_opens_d (d : Nat) (h : mm_H) (B : Nat → Int32) (n r p : Nat) (s : zl_S) (st : List Nat) (T : TS B n h r s p st) (hl : st.length ≤ 401) (k : Nat) (hk : k = 9 ∨ k = 12) (h10 : zs_d st < 10) : ∃ g, mm_M (d + 1) YX11_opens [.ref 165, .int (nI k)] h none g ∧ mw_fr r h g ∧ TS B n g r s p (k :: st) := by
  have T0 := T
  obtain ⟨-, h28, -, h26, -⟩ := T
  obtain ⟨g, eg⟩ : ∃ g : mm_H, g = (mm_up (mm_up (mm_up h.1 165 26 (nI (zs_d st + 1))) 193 st.length (nI k)) 165 28 (nI (st.length + 1)), h.2.1, h.2.2) := ⟨_, rfl⟩
  obtain ⟨T1, f1⟩ := TS_push T0 (k := k) (by omega) (by rw [if_pos hk]) eg
  refine ⟨g, ?_, f1, T1⟩
  have K12 : mm_R (d + 1) YX11_opens 12 [some (.ref 165), some (.int (nI k))] [] h none g := by
    refine mm_aload_n dX11_opens_12 rfl rfl ?_
    refine mm_getI dX11_opens_13 fX11_282 sh_165 rfl ?_
    refine mm_bipush (x := 10) dX11_opens_16 (by decide) ?_
    refine mm_icmp_ne 30 dX11_opens_18 (by decide) (fun c_18 => ?_) (fun c_18 => ?_)
    · refine mm_aload_n dX11_opens_30 rfl rfl ?_
      refine mm_dup dX11_opens_31 rfl ?_
      refine mm_getI dX11_opens_32 fX11_282 sh_165 rfl ?_
      refine mm_iconst (x := 1) dX11_opens_35 (by decide) ?_
      refine mm_iadd dX11_opens_36 ?_
      refine mm_putI dX11_opens_37 fX11_282 sh_165 rfl rfl rfl ?_
      refine mm_aload_n dX11_opens_40 rfl rfl ?_
      refine mm_getS dX11_opens_41 fX11_96 sh_165 rfl gr_165_40 ?_
      refine mm_aload_n dX11_opens_44 rfl rfl ?_
      refine mm_getI dX11_opens_45 fX11_279 sh_165 rfl ?_
      refine mm_iload_n dX11_opens_48 rfl rfl ?_
      refine mm_iast (st.length) dX11_opens_49 sh_193 (by dsimp only; rw [mm_up_k (by decide)]; exact h28) (by omega) ?_
      refine mm_aload_n dX11_opens_50 rfl rfl ?_
      refine mm_dup dX11_opens_51 rfl ?_
      refine mm_getI dX11_opens_52 fX11_279 sh_165 rfl ?_
      refine mm_iconst (x := 1) dX11_opens_55 (by decide) ?_
      refine mm_iadd dX11_opens_56 ?_
      refine mm_putI dX11_opens_57 fX11_279 sh_165 rfl rfl rfl ?_
      exact mm_retE dX11_opens_60 rfl (by rw [eg]; dsimp only; rw [mm_up_n (by decide), mm_up_k (by decide), h28, nI_succ, h26, nI_succ])
    · exact absurd ((nI_eq (b := 10) (by omega) (by omega)).mp (h26.symm.trans c_18)) (by omega)
  refine mm_M.of [some (.ref 165), some (.int (nI k))] rfl rfl (Nat.le_of_ble_eq_true rfl) ?_
  refine mm_iload_n dX11_opens_0 rfl rfl ?_
  refine mm_bipush (x := 9) dX11_opens_1 (by decide) ?_
  refine mm_icmp_eq 12 dX11_opens_3 (by decide) (fun c_3 => ?_) (fun c_3 => ?_)
  · exact K12
  · refine mm_iload_n dX11_opens_6 rfl rfl ?_
    refine mm_bipush (x := 12) dX11_opens_7 (by decide) ?_
    refine mm_icmp_ne 40 dX11_opens_9 (by decide) (fun c_9 => ?_) (fun c_9 => ?_)
    · exact absurd hk (fun z => z.elim (fun q => absurd (by rw [q]; rfl) c_3) (fun q => absurd (by rw [q]; rfl) c_9))
    · exact K12
set_option maxRecDepth 100000 in
set_option maxHeartbeats 4000000 in
theorem mX11_opens_e (d : Nat) (h : mm_H) (B : Nat → Int32) (n r p : Nat) (s : zl_S) (st : List Nat) (T : TS B n h r s p st) (hl : st.length ≤ 401) (k : Nat) (hk : k = 9 ∨ k = 12) (h10 : zs_d st = 10) : ∃ g, mm_M (d + 1) YX11_opens [.ref 165, .int (nI k)] h none g ∧ mw_fr r h g ∧ MT B n g p (1 + 8 * p + 2) := by
  have hn4 := T.1.1.2.2.2.2.1
  have hpn := T.1.2.1
  have MF := mX11_fails d h B n p 0 T.1.1 (by omega) (by omega) p 2 (by omega) (by decide)
  rw [flt_0] at MF
  have T0 := T
  obtain ⟨-, h28, -, h26, -⟩ := T0
  have t1 := T.1.1.f (1 + 8 * p + 2)
  obtain ⟨g1, eg1⟩ : ∃ g : mm_H, g = (mm_up h.1 165 22 (nI (1 + 8 * p + 2)), h.2.1, h.2.2) := ⟨_, rfl⟩
  rw [← eg1] at MF t1
  have f1 : mt_fr h g1 := by rw [eg1]; exact mt_q h _
  have e21 : g1.1 165 21 = nI p := t1.2.1
  have e28 : g1.1 165 28 = nI st.length := by rw [f1.2 28 (by decide) (by decide)]; exact h28
  have ep : h.1 165 21 = nI p := T.1.1.2.1
  obtain ⟨g, eg⟩ : ∃ g : mm_H, g = (mm_up (mm_up (mm_up g1.1 165 26 (g1.1 165 26 + 1)) 193 st.length (nI k)) 165 28 (nI (st.length + 1)), g1.2.1, g1.2.2) := ⟨_, rfl⟩
  refine ⟨g, ?_, f1.mc.mv.mw.trans ?_, ?_⟩
  · have K12 : mm_R (d + 1) YX11_opens 12 [some (.ref 165), some (.int (nI k))] [] h none g := by
      refine mm_aload_n dX11_opens_12 rfl rfl ?_
      refine mm_getI dX11_opens_13 fX11_282 sh_165 rfl ?_
      refine mm_bipush (x := 10) dX11_opens_16 (by decide) ?_
      refine mm_icmp_ne 30 dX11_opens_18 (by decide) (fun c_18 => ?_) (fun c_18 => ?_)
      · exact absurd (by rw [h26, h10]; rfl) c_18
      · refine mm_aload_n dX11_opens_21 rfl rfl ?_
        refine mm_iconst (x := 2) dX11_opens_22 (by decide) ?_
        refine mm_aload_n dX11_opens_23 rfl rfl ?_
        refine mm_getI dX11_opens_24 fX11_211 sh_165 rfl ?_
        refine mm_cast (st' := [.int (nI p), .int (nI 2), .ref 165]) rfl (by rw [ep] <;> rfl) rfl ?_
        refine mm_cV (Y1 := YX11_fails) dX11_opens_27 lX11_247 vX11_fails (MF) sh_165 rfl rfl (by simp [Value.category]) ?_
        refine mm_aload_n dX11_opens_30 rfl rfl ?_
        refine mm_dup dX11_opens_31 rfl ?_
        refine mm_getI dX11_opens_32 fX11_282 sh_165 rfl ?_
        refine mm_iconst (x := 1) dX11_opens_35 (by decide) ?_
        refine mm_iadd dX11_opens_36 ?_
        refine mm_putI dX11_opens_37 fX11_282 sh_165 rfl rfl rfl ?_
        refine mm_aload_n dX11_opens_40 rfl rfl ?_
        refine mm_getS dX11_opens_41 fX11_96 sh_165 rfl gr_165_40 ?_
        refine mm_aload_n dX11_opens_44 rfl rfl ?_
        refine mm_getI dX11_opens_45 fX11_279 sh_165 rfl ?_
        refine mm_iload_n dX11_opens_48 rfl rfl ?_
        refine mm_iast (st.length) dX11_opens_49 sh_193 (by dsimp only; rw [mm_up_k (by decide)]; exact e28) (by omega) ?_
        refine mm_aload_n dX11_opens_50 rfl rfl ?_
        refine mm_dup dX11_opens_51 rfl ?_
        refine mm_getI dX11_opens_52 fX11_279 sh_165 rfl ?_
        refine mm_iconst (x := 1) dX11_opens_55 (by decide) ?_
        refine mm_iadd dX11_opens_56 ?_
        refine mm_putI dX11_opens_57 fX11_279 sh_165 rfl rfl rfl ?_
        exact mm_retE dX11_opens_60 rfl (by rw [eg]; dsimp only; rw [mm_up_n (by decide), mm_up_k (by decide), e28, nI_succ])
    refine mm_M.of [some (.ref 165), some (.int (nI k))] rfl rfl (Nat.le_of_ble_eq_true rfl) ?_
    refine mm_iload_n dX11_opens_0 rfl rfl ?_
    refine mm_bipush (x := 9) dX11_opens_1 (by decide) ?_
    refine mm_icmp_eq 12 dX11_opens_3 (by decide) (fun c_3 => ?_) (fun c_3 => ?_)
    · exact K12
    · refine mm_iload_n dX11_opens_6 rfl rfl ?_
      refine mm_bipush (x := 12) dX11_opens_7 (by decide) ?_
      refine mm_icmp_ne 40 dX11_opens_9 (by decide) (fun c_9 => ?_) (fun c_9 => ?_)
      · exact absurd hk (fun z => z.elim (fun q => absurd (by rw [q]; rfl) c_3) (fun q => absurd (by rw [q]; rfl) c_9))
      · exact K12
  · rw [eg]
    refine ⟨(((frm.refl _ g1).up (c := 165) rfl).up (c := 193) rfl).up (c := 165) rfl, fun j _ _ _ h4 _ h6 => ?_, fun i hi => ⟨?_, ?_⟩⟩ <;> dsimp only
    · rw [mm_up_k h6, mm_up_n (by decide), mm_up_k h4]
    · rw [mm_up_n (by decide), mm_up_n (by decide), mm_up_n (by decide)]
    · rw [mm_up_n (by decide), mm_up_n (by decide), mm_up_n (by decide)]
  · obtain ⟨a1, a2, a3, a4, a5⟩ := t1
    rw [eg]
    refine ⟨?_, ?_, ?_, fun i hi => ?_, a5⟩ <;> dsimp only
    · rw [mm_up_k (by decide), mm_up_n (by decide), mm_up_k (by decide)]; exact a1
    · rw [mm_up_k (by decide), mm_up_n (by decide), mm_up_k (by decide)]; exact a2
    · rw [mm_up_k (by decide), mm_up_n (by decide), mm_up_k (by decide)]; exact a3
    · rw [mm_up_n (by decide), mm_up_n (by decide), mm_up_n (by decide)]; exact a4 i hi
theorem TS_pop {B : Nat → Int32} {n r p k : Nat} {s : zl_S} {st : List Nat} {h g : mm_H} (T : TS B n h r s p (k :: st)) (eg : g = (mm_up (mm_up h.1 165 28 (nI st.length)) 165 26 (nI (zs_d st)), h.2.1, h.2.2)) : TS B n g r s p st ∧ mw_fr r h g := by
  obtain ⟨⟨⟨a1, a2, a3, a4, a5⟩, b1, b2, b3, b4, b5, b6, b7, b8⟩, c1, c2, c3, c4⟩ := T
  subst eg
  refine ⟨⟨⟨⟨?_, ?_, ?_, fun i hi => ?_, a5⟩, b1, b2, ?_, ?_, ?_, ?_, fun i hi => ?_, b8⟩, ?_, fun i hi => ?_, ?_, fun x hx => c4 x (List.mem_cons_of_mem _ hx)⟩, ?_⟩
  · dsimp only; rw [mm_up_k (by decide), mm_up_k (by decide)]; exact a1
  · dsimp only; rw [mm_up_k (by decide), mm_up_k (by decide)]; exact a2
  · dsimp only; rw [mm_up_k (by decide), mm_up_k (by decide)]; exact a3
  · dsimp only; rw [mm_up_n (by decide), mm_up_n (by decide)]; exact a4 i hi
  · dsimp only; rw [mm_up_k (by decide), mm_up_k (by decide)]; exact b3
  · dsimp only; rw [mm_up_k (by decide), mm_up_k (by decide)]; exact b4
  · dsimp only; rw [mm_up_k (by decide), mm_up_k (by decide)]; exact b5
  · dsimp only; rw [mm_up_k (by decide), mm_up_k (by decide)]; exact b6
  · dsimp only; rw [mm_up_n (by decide), mm_up_n (by decide), mm_up_n (by decide), mm_up_n (by decide)]; exact b7 i hi
  · dsimp only; rw [mm_up_k (by decide), mm_up_e]
  · dsimp only
    rw [mm_up_n (by decide), mm_up_n (by decide), c2 i (by rw [List.length_cons]; omega), List.length_cons, show st.length + 1 - 1 - i = (st.length - 1 - i) + 1 by omega]; rfl
  · dsimp only; rw [mm_up_e]
  · refine ⟨((frm.refl _ h).up (c := 165) rfl).up (c := 165) rfl, fun j _ _ _ h4 _ h6 => ?_, fun i hi => ⟨?_, ?_⟩⟩ <;> dsimp only
    · rw [mm_up_k h4, mm_up_k h6]
    · rw [mm_up_n (by decide), mm_up_n (by decide)]
    · rw [mm_up_n (by decide), mm_up_n (by decide)]
set_option maxRecDepth 100000 in
set_option maxHeartbeats 4000000 in
theorem mX11_answers (d : Nat) (h : mm_H) (B : Nat → Int32) (n r p : Nat) (hr : r < 6) (s : zl_S) (st : List Nat) (T : TS B n h r s p st) (hl : st.length ≤ 401) (hJ : zl_J (3 * zs_o st) s) (k t : Nat) (hk : (k = 9 ∧ t = 30) ∨ (k = 10 ∧ t = 31) ∨ (k = 11 ∧ t = 32)) : ∃ g, mm_M (d + 1) YX11_answers [.ref 165, .int (nI k)] h none g ∧ mw_fr r h g ∧ TS B n g r (zs_p k t st s).2 p (zs_p k t st s).1 := by
  suffices hE : mm_E (d + 1) YX11_answers 0 [some (.ref 165), some (.int (nI k))] [] h (fun v g => v = none ∧ mw_fr r h g ∧ TS B n g r (zs_p k t st s).2 p (zs_p k t st s).1) by
    obtain ⟨v, g, hR, rfl, h1⟩ := hE
    exact ⟨g, mm_M.of _ rfl rfl (Nat.le_of_ble_eq_true rfl) hR, h1⟩
  have hn4 := T.1.1.2.2.2.2.1
  have key : ∀ (st : List Nat) (s : zl_S) gg, TS B n gg r s p st → st.length ≤ 401 → zl_J (3 * zs_o st) s → mw_fr r h gg → mm_E (d + 1) YX11_answers 0 [some (.ref 165), some (.int (nI k))] [] gg (fun v g => v = none ∧ mw_fr r h g ∧ TS B n g r (zs_p k t st s).2 p (zs_p k t st s).1) := by
    intro st
    induction st with
    | nil =>
      intro s gg T hl hJ fg
      have MT0 := mX11_top d gg B n r p s [] T hl
      have kn : ¬ (-1 : Int32) = nI k := by
        rcases hk with z | z | z
        · rw [z.1]; decide
        · rw [z.1]; decide
        · rw [z.1]; decide
      refine mm_Es (fun _ _ => mm_aload_n dX11_answers_0 rfl rfl) ?_
      refine mm_Es (fun _ _ => mm_cV (Y1 := YX11_top) dX11_answers_1 lX11_285 vX11_top (MT0) sh_165 rfl rfl (by simp [Value.category])) ?_
      refine mm_Es (fun _ _ => mm_iload_n dX11_answers_4 rfl rfl) ?_
      refine mm_Ebn (fun _ _ => mm_icmp_ne 54 dX11_answers_5 (by decide)) (fun c_5 => ?_) (fun c_5 => ?_)
      · refine mm_Er (mm_return dX11_answers_54 rfl) ?_
        exact ⟨rfl, fg, T⟩
      · exact absurd c_5 kn
    | cons x st ih =>
      intro s gg T hl hJ fg
      have MT0 := mX11_top d gg B n r p s (x :: st) T hl
      have hx := T.2.2.2.2 x List.mem_cons_self
      simp only [zs_p]
      by_cases c : x = k
      · subst c
        rw [if_pos rfl]
        have f0 := T.1.f0
        have hle := T.1.le
        have hv := T.1.2.2.2.2.2.2.2.2
        have hl0 := zl_J_len hn4 hle hv hJ
        have eo : zs_o (x :: st) = 1 + zs_o st := by show (if x = 12 then 0 else 1) + zs_o st = _; rw [if_neg (by omega)]
        have ht : isBin t ∨ t = 30 := by rcases hk with z | z | z <;> (unfold isBin; omega)
        have ers : rs (100000 + t) = x := by
          rcases hk with z | z | z
          · rw [z.1, z.2]; rfl
          · rw [z.1, z.2]; rfl
          · rw [z.1, z.2]; rfl
        obtain ⟨g1, M1, f1, S1⟩ := mX11_entry_t d gg B n r p hr s T.1 (by omega) (100000 + t) (nI x) 0 (by rw [ers]) (by rw [rs_b ht]; rfl)
        have T1 : TS B n g1 r (zl_e t s) p (x :: st) := T.v f1 S1
        obtain ⟨g2, eg2⟩ : ∃ g : mm_H, g = (mm_up (mm_up g1.1 165 28 (nI st.length)) 165 26 (nI (zs_d st)), g1.2.1, g1.2.2) := ⟨_, rfl⟩
        obtain ⟨T2, f2⟩ := TS_pop T1 eg2
        have K := ih (zl_e t s) g2 T2 (by rw [List.length_cons] at hl; omega) (zl_e_J (by rw [eo] at hJ; exact zl_J_le hJ (by omega))) ((fg.trans f1.mw).trans f2)
        have e28 : g1.1 165 28 = nI (st.length + 1) := T1.2.1
        have e26 : g1.1 165 26 = nI ((if x = 9 ∨ x = 12 then 1 else 0) + zs_d st) := T1.2.2.2.1
        have Ek : ∀ y : Int32, g1.1 165 26 - y = nI (zs_d st) → (mm_up (mm_up g1.1 165 28 (g1.1 165 28 - 1)) 165 26 ((mm_up g1.1 165 28 (g1.1 165 28 - 1)) 165 26 - y), g1.2.1, g1.2.2) = g2 := by
          intro y hy
          rw [mm_up_k (by decide), hy, e28, nI_succ, eg2]; simp
        have y1 : x = 9 → g1.1 165 26 - 1 = nI (zs_d st) := fun z => by rw [e26, if_pos (Or.inl z), Nat.add_comm, nI_succ]; simp
        have y0 : ¬ x = 9 → g1.1 165 26 - 0 = nI (zs_d st) := fun z => by rw [e26, if_neg (by omega), Nat.zero_add]; simp
        refine mm_Es (fun _ _ => mm_aload_n dX11_answers_0 rfl rfl) ?_
        refine mm_Es (fun _ _ => mm_cV (Y1 := YX11_top) dX11_answers_1 lX11_285 vX11_top (MT0) sh_165 rfl rfl (by simp [Value.category])) ?_
        refine mm_Es (fun _ _ => mm_iload_n dX11_answers_4 rfl rfl) ?_
        refine mm_Ebn (fun _ _ => mm_icmp_ne 54 dX11_answers_5 (by decide)) (fun c_5 => ?_) (fun c_5 => ?_)
        · exact absurd rfl c_5
        · refine mm_Es (fun _ _ => mm_aload_n dX11_answers_8 rfl rfl) ?_
          refine mm_Es (fun _ _ => mm_getI dX11_answers_9 fX11_208 sh_165 rfl) ?_
          refine mm_Ebn (fun _ _ => mm_if_ne 54 dX11_answers_12 (by decide)) (fun c_12 => ?_) (fun c_12 => ?_)
          · exact absurd f0 c_12
          · refine mm_Es (fun _ _ => mm_aload_n dX11_answers_15 rfl rfl) ?_
            refine mm_Es (fun _ _ => mm_iload_n dX11_answers_16 rfl rfl) ?_
            refine mm_Es (fun _ _ => mm_iconst (x := 0) dX11_answers_17 (by decide)) ?_
            refine mm_Es (fun _ _ => mm_cV (Y1 := YX11_entry) dX11_answers_18 lX11_263 vX11_entry (M1) sh_165 rfl rfl (by simp [Value.category])) ?_
            refine mm_Es (fun _ _ => mm_aload_n dX11_answers_21 rfl rfl) ?_
            refine mm_Es (fun _ _ => mm_dup dX11_answers_22 rfl) ?_
            refine mm_Es (fun _ _ => mm_getI dX11_answers_23 fX11_279 sh_165 rfl) ?_
            refine mm_Es (fun _ _ => mm_iconst (x := 1) dX11_answers_26 (by decide)) ?_
            refine mm_Es (fun _ _ => mm_isub dX11_answers_27) ?_
            refine mm_Es (fun _ _ => mm_putI dX11_answers_28 fX11_279 sh_165 rfl rfl rfl) ?_
            refine mm_Es (fun _ _ => mm_aload_n dX11_answers_31 rfl rfl) ?_
            refine mm_Es (fun _ _ => mm_dup dX11_answers_32 rfl) ?_
            refine mm_Es (fun _ _ => mm_getI dX11_answers_33 fX11_282 sh_165 rfl) ?_
            refine mm_Es (fun _ _ => mm_iload_n dX11_answers_36 rfl rfl) ?_
            refine mm_Es (fun _ _ => mm_bipush (x := 9) dX11_answers_37 (by decide)) ?_
            refine mm_Ebn (fun _ _ => mm_icmp_ne 46 dX11_answers_39 (by decide)) (fun c_39 => ?_) (fun c_39 => ?_)
            · refine mm_Es (fun _ _ => mm_iconst (x := 0) dX11_answers_46 (by decide)) ?_
              refine mm_Es (fun _ _ => mm_isub dX11_answers_47) ?_
              refine mm_Es (fun _ _ => mm_putI dX11_answers_48 fX11_282 sh_165 rfl rfl rfl) ?_
              refine mm_Es (fun _ _ => mm_cast rfl rfl (g := g2) (by first | exact Ek 1 (y1 ((nI_eq (b := 9) (by omega) (by omega)).mp c_39)) | exact Ek 0 (y0 (fun z => c_39 (by rw [z]; rfl))))) ?_
              refine mm_Es (fun _ _ => mm_goto 0 dX11_answers_51 (by decide)) ?_
              exact K
            · refine mm_Es (fun _ _ => mm_iconst (x := 1) dX11_answers_42 (by decide)) ?_
              refine mm_Es (fun _ _ => mm_goto 47 dX11_answers_43 (by decide)) ?_
              refine mm_Es (fun _ _ => mm_isub dX11_answers_47) ?_
              refine mm_Es (fun _ _ => mm_putI dX11_answers_48 fX11_282 sh_165 rfl rfl rfl) ?_
              refine mm_Es (fun _ _ => mm_cast rfl rfl (g := g2) (by first | exact Ek 1 (y1 ((nI_eq (b := 9) (by omega) (by omega)).mp c_39)) | exact Ek 0 (y0 (fun z => c_39 (by rw [z]; rfl))))) ?_
              refine mm_Es (fun _ _ => mm_goto 0 dX11_answers_51 (by decide)) ?_
              exact K
      · rw [if_neg c]
        refine mm_Es (fun _ _ => mm_aload_n dX11_answers_0 rfl rfl) ?_
        refine mm_Es (fun _ _ => mm_cV (Y1 := YX11_top) dX11_answers_1 lX11_285 vX11_top (MT0) sh_165 rfl rfl (by simp [Value.category])) ?_
        refine mm_Es (fun _ _ => mm_iload_n dX11_answers_4 rfl rfl) ?_
        refine mm_Ebn (fun _ _ => mm_icmp_ne 54 dX11_answers_5 (by decide)) (fun c_5 => ?_) (fun c_5 => ?_)
        · refine mm_Er (mm_return dX11_answers_54 rfl) ?_
          exact ⟨rfl, fg, T⟩
        · exact absurd ((nI_eq (a := x) (b := k) (by omega) (by omega)).mp c_5) c
  exact key st s h T hl hJ (mw_fr.refl r h)
