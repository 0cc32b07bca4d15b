/-! Those that sound, by their notes; noteOf, strengthOf, isWithin, putInOrder. -/
/-- a row's first entries are the list's -/
def rrep (f : Nat → Int32) (l : List Nat) : Prop := ∀ k, k < l.length → f k = nI (l.getD k 0)
/-- where one of note kc goes, looked for from the top -/
def posD (key : Nat → Int32) (kc : Int32) (l : List Nat) : Nat → Nat
  | 0 => 0
  | p + 1 => if key (l.getD p 0) ≤ kc then p + 1 else posD key kc l p
theorem posD_le {key : Nat → Int32} {kc : Int32} {l : List Nat} : ∀ m, posD key kc l m ≤ m := by
  intro m
  induction m with
  | zero => exact Nat.le_refl _
  | succ p ih => simp only [posD]; split <;> omega
theorem posD_gt {key : Nat → Int32} {kc : Int32} {l : List Nat} : ∀ m p, posD key kc l m ≤ p → p < m → ¬ key (l.getD p 0) ≤ kc := by
  intro m
  induction m with
  | zero => intro p _ h; omega
  | succ q ih =>
    intro p h1 h2
    simp only [posD] at h1
    split at h1
    · omega
    · rename_i hn
      rcases (show p < q ∨ p = q by omega) with z | z
      · exact ih p h1 z
      · subst z; exact hn
theorem posD_at {key : Nat → Int32} {kc : Int32} {l : List Nat} : ∀ m w, posD key kc l m = w + 1 → key (l.getD w 0) ≤ kc := by
  intro m
  induction m with
  | zero => intro w h; simp [posD] at h
  | succ q ih =>
    intro w h
    simp only [posD] at h
    split at h
    · rename_i hy
      have : w = q := by omega
      subst this; exact hy
    · exact ih w h
def insO (key : Nat → Int32) (c : Nat) (l : List Nat) : List Nat := l.take (posD key (key c) l l.length) ++ c :: l.drop (posD key (key c) l l.length)
theorem insO_len (key : Nat → Int32) (c : Nat) (l : List Nat) : (insO key c l).length = l.length + 1 := by
  have := posD_le (key := key) (kc := key c) (l := l) l.length
  simp only [insO, List.length_append, List.length_take, List.length_cons, List.length_drop]
  omega
theorem insO_mem (key : Nat → Int32) (c : Nat) (l : List Nat) (x : Nat) : x ∈ insO key c l → x = c ∨ x ∈ l := by
  intro h
  simp only [insO, List.mem_append, List.mem_cons] at h
  rcases h with h | h | h
  · exact Or.inr (List.mem_of_mem_take h)
  · exact Or.inl h
  · exact Or.inr (List.mem_of_mem_drop h)
theorem insO_rrep {f : Nat → Int32} {key : Nat → Int32} {c : Nat} {l : List Nat} (h : rrep f l) : rrep (sp_ins f (posD key (key c) l l.length) (nI c) l.length) (insO key c l) := by
  have hp := posD_le (key := key) (kc := key c) (l := l) l.length
  intro k hk
  rw [insO_len] at hk
  generalize hP : posD key (key c) l l.length = p at *
  simp only [insO, hP, sp_ins, upd, sp_shf]
  rw [List.getD_eq_getElem?_getD]
  rcases (show k < p ∨ k = p ∨ p < k by omega) with z | z | z
  · have h1 : ¬ k = p := by omega
    have h2 : ¬ (p < k ∧ k ≤ l.length) := by omega
    rw [if_neg h1, if_neg h2, h k (by omega), List.getElem?_append_left (by rw [List.length_take]; omega), List.getElem?_take_of_lt z, ← List.getD_eq_getElem?_getD]
  · subst z
    rw [if_pos rfl, List.getElem?_append_right (by rw [List.length_take]; omega)]
    have : k - (List.take k l).length = 0 := by rw [List.length_take]; omega
    rw [this]
    rfl
  · have h1 : ¬ k = p := by omega
    have h2 : p < k ∧ k ≤ l.length := by omega
    rw [if_neg h1, if_pos h2, h (k - 1) (by omega), List.getElem?_append_right (by rw [List.length_take]; omega)]
    obtain ⟨w, hw⟩ : ∃ w, k - (List.take p l).length = w + 1 := ⟨k - p - 1, by rw [List.length_take]; omega⟩
    rw [hw, List.getElem?_cons_succ, List.getElem?_drop]
    have : p + w = k - 1 := by rw [List.length_take] at hw; omega
    rw [this, ← List.getD_eq_getElem?_getD]
/-- it can be heard -/
def aud (str : Nat → Int32) (deaf : Int32) (i : Nat) : Prop := ¬ str i ≤ 0 ∧ ¬ str i < deaf
noncomputable def ordL (key str : Nat → Int32) (deaf set : Int32) : Nat → List Nat
  | 0 => []
  | i + 1 => by
    classical
    exact if sp_bit set i = 1 ∧ aud str deaf i then insO key i (ordL key str deaf set i) else ordL key str deaf set i
theorem ordL_y {key str : Nat → Int32} {deaf set : Int32} {i : Nat} (h : sp_bit set i = 1 ∧ aud str deaf i) : ordL key str deaf set (i + 1) = insO key i (ordL key str deaf set i) := by
  simp only [ordL]; rw [if_pos h]
theorem ordL_n {key str : Nat → Int32} {deaf set : Int32} {i : Nat} (h : ¬ (sp_bit set i = 1 ∧ aud str deaf i)) : ordL key str deaf set (i + 1) = ordL key str deaf set i := by
  simp only [ordL]; rw [if_neg h]
theorem ordL_len {key str : Nat → Int32} {deaf set : Int32} (n : Nat) : (ordL key str deaf set n).length ≤ n := by
  induction n with
  | zero => simp [ordL]
  | succ i ih =>
    by_cases h : sp_bit set i = 1 ∧ aud str deaf i
    · rw [ordL_y h, insO_len]; omega
    · rw [ordL_n h]; omega
theorem ordL_mem {key str : Nat → Int32} {deaf set : Int32} (n : Nat) : ∀ x, x ∈ ordL key str deaf set n → x < n ∧ sp_bit set x = 1 ∧ aud str deaf x := by
  induction n with
  | zero => intro x h; simp [ordL] at h
  | succ i ih =>
    intro x hx
    by_cases h : sp_bit set i = 1 ∧ aud str deaf i
    · rw [ordL_y h] at hx
      rcases insO_mem _ _ _ _ hx with rfl | hx
      · exact ⟨by omega, h.1, h.2⟩
      · obtain ⟨a, b⟩ := ih x hx; exact ⟨by omega, b⟩
    · rw [ordL_n h] at hx
      obtain ⟨a, b⟩ := ih x hx
      exact ⟨by omega, b⟩
theorem getD_mem {l : List Nat} {k : Nat} (h : k < l.length) : l.getD k 0 ∈ l := by
  rw [List.getD_eq_getElem?_getD, List.getElem?_eq_getElem h]
  exact List.getElem_mem h
set_option maxRecDepth 100000 in
set_option maxHeartbeats 4000000 in
theorem mX1_noteOf (d : Nat) (h : mm_H) (c : Nat) (hc : c < 12) (s : Nat) (hs : h.1 150 c = nI s) (hs2 : s < 1728) : mm_M d YX1_noteOf [.ref 145, .int (nI c)] h (some (.int (h.1 146 s))) h := by
  refine mm_M.of [some (.ref 145), some (.int (nI c))] rfl rfl (Nat.le_of_ble_eq_true rfl) ?_
  refine mm_aload_n dX1_noteOf_0 rfl rfl ?_
  refine mm_getS dX1_noteOf_1 fX1_13 sh_145 rfl gr_145_3 ?_
  refine mm_aload_n dX1_noteOf_4 rfl rfl ?_
  refine mm_getS dX1_noteOf_5 fX1_29 sh_145 rfl gr_145_7 ?_
  refine mm_iload_n dX1_noteOf_8 rfl rfl ?_
  refine mm_iald (c) dX1_noteOf_9 sh_150 rfl hc ?_
  refine mm_iald (s) dX1_noteOf_10 sh_146 hs hs2 ?_
  exact mm_iretE dX1_noteOf_11 rfl rfl rfl
set_option maxRecDepth 100000 in
set_option maxHeartbeats 4000000 in
theorem mX1_strengthOf (d : Nat) (h : mm_H) (c : Nat) (hc : c < 12) (s : Nat) (hs : h.1 150 c = nI s) (hs2 : s < 1728) : mm_M d YX1_strengthOf [.ref 145, .int (nI c)] h (some (.int (h.1 147 s))) h := by
  refine mm_M.of [some (.ref 145), some (.int (nI c))] rfl rfl (Nat.le_of_ble_eq_true rfl) ?_
  refine mm_aload_n dX1_strengthOf_0 rfl rfl ?_
  refine mm_getS dX1_strengthOf_1 fX1_17 sh_145 rfl gr_145_4 ?_
  refine mm_aload_n dX1_strengthOf_4 rfl rfl ?_
  refine mm_getS dX1_strengthOf_5 fX1_29 sh_145 rfl gr_145_7 ?_
  refine mm_iload_n dX1_strengthOf_8 rfl rfl ?_
  refine mm_iald (c) dX1_strengthOf_9 sh_150 rfl hc ?_
  refine mm_iald (s) dX1_strengthOf_10 sh_147 hs hs2 ?_
  exact mm_iretE dX1_strengthOf_11 rfl rfl rfl
set_option maxRecDepth 100000 in
set_option maxHeartbeats 4000000 in
theorem mX1_isWithin (d : Nat) (h : mm_H) (x : Int32) : mm_M d YX1_isWithin [.ref 145, .int x] h (some (.int (bI (x < h.1 65 10 ∨ x = 0)))) h := by
  refine mm_M.of [some (.ref 145), some (.int x)] rfl rfl (Nat.le_of_ble_eq_true rfl) ?_
  refine mm_iload_n dX1_isWithin_0 rfl rfl ?_
  refine mm_aload_n dX1_isWithin_1 rfl rfl ?_
  refine mm_getS dX1_isWithin_2 fX1_44 sh_145 rfl gr_145_0 ?_
  refine mm_getI dX1_isWithin_5 fX1_147 sh_65 rfl ?_
  refine mm_icmp_lt 15 dX1_isWithin_8 (by decide) (fun c_8 => ?_) (fun c_8 => ?_)
  · refine mm_iconst (x := 1) dX1_isWithin_15 (by decide) ?_
    refine mm_goto 20 dX1_isWithin_16 (by decide) ?_
    exact mm_zretE dX1_isWithin_20 rfl (bI_nar _) (by first | exact (bI_1 (Or.inl c_8)).symm | exact (bI_1 (Or.inr c_12)).symm | exact (bI_0 (fun z => z.elim c_8 c_12)).symm) rfl
  · refine mm_iload_n dX1_isWithin_11 rfl rfl ?_
    refine mm_if_ne 19 dX1_isWithin_12 (by decide) (fun c_12 => ?_) (fun c_12 => ?_)
    · refine mm_iconst (x := 0) dX1_isWithin_19 (by decide) ?_
      exact mm_zretE dX1_isWithin_20 rfl (bI_nar _) (by first | exact (bI_1 (Or.inl c_8)).symm | exact (bI_1 (Or.inr c_12)).symm | exact (bI_0 (fun z => z.elim c_8 c_12)).symm) rfl
    · refine mm_iconst (x := 1) dX1_isWithin_15 (by decide) ?_
      refine mm_goto 20 dX1_isWithin_16 (by decide) ?_
      exact mm_zretE dX1_isWithin_20 rfl (bI_nar _) (by first | exact (bI_1 (Or.inl c_8)).symm | exact (bI_1 (Or.inr c_12)).symm | exact (bI_0 (fun z => z.elim c_8 c_12)).symm) rfl
set_option maxRecDepth 100000 in
set_option maxHeartbeats 4000000 in
theorem mX1_putInOrder (d : Nat) (h : mm_H) (key : Nat → Int32) (c : Nat) (hc : c < 12) (l : List Nat) (hl : l.length < 12) (hn : h.1 145 9 = nI l.length) (hr : rrep (h.1 151) l) (hk : ∀ j, j ∈ l ∨ j = c → j < 12 ∧ ∃ s, s < 1728 ∧ h.1 150 j = nI s ∧ h.1 146 s = key j) : mm_M (d + 1) YX1_putInOrder [.ref 145, .int (nI c)] h none (mm_up (mm_row h.1 151 (sp_ins (h.1 151) (posD key (key c) l l.length) (nI c) l.length)) 145 9 (nI (l.length + 1)), h.2.1, h.2.2) := by
  refine mm_M.of [some (.ref 145), some (.int (nI c)), none] rfl rfl (Nat.le_of_ble_eq_true rfl) ?_
  obtain ⟨-, sc, c1, c2, c3⟩ := hk c (Or.inr rfl)
  have hP := posD_le (key := key) (kc := key c) (l := l) l.length
  have K5 : ∀ k, k ≤ l.length - (posD key (key c) l l.length) → mm_R (d + 1) YX1_putInOrder 5 [some (.ref 145), some (.int (nI c)), some (.int (nI (l.length - k)))] [] (mm_row h.1 151 (sp_shf (h.1 151) (l.length - k) l.length), h.2.1, h.2.2) none (mm_up (mm_row h.1 151 (sp_ins (h.1 151) (posD key (key c) l l.length) (nI c) l.length)) 145 9 (nI (l.length + 1)), h.2.1, h.2.2) := by
    refine mm_down (l.length - (posD key (key c) l l.length)) ?_ (fun k hk2 ih => ?_)
    · have e1 : l.length - (l.length - (posD key (key c) l l.length)) = (posD key (key c) l l.length) := by omega
      rw [e1]
      have K49 : mm_R (d + 1) YX1_putInOrder 49 [some (.ref 145), some (.int (nI c)), some (.int (nI (posD key (key c) l l.length)))] [] (mm_row h.1 151 (sp_shf (h.1 151) ((posD key (key c) l l.length)) l.length), h.2.1, h.2.2) none (mm_up (mm_row h.1 151 (sp_ins (h.1 151) (posD key (key c) l l.length) (nI c) l.length)) 145 9 (nI (l.length + 1)), h.2.1, h.2.2) := by
        refine mm_aload_n dX1_putInOrder_49 rfl rfl ?_
        refine mm_getS dX1_putInOrder_50 fX1_32 sh_145 rfl gr_145_8 ?_
        refine mm_iload_n dX1_putInOrder_53 rfl rfl ?_
        refine mm_iload_n dX1_putInOrder_54 rfl rfl ?_
        refine mm_iast ((posD key (key c) l l.length)) dX1_putInOrder_55 sh_151 rfl (by omega) ?_
        refine mm_aload_n dX1_putInOrder_56 rfl rfl ?_
        refine mm_dup dX1_putInOrder_57 rfl ?_
        refine mm_getI dX1_putInOrder_58 fX1_70 sh_145 rfl ?_
        refine mm_iconst (x := 1) dX1_putInOrder_61 (by decide) ?_
        refine mm_iadd dX1_putInOrder_62 ?_
        refine mm_putI dX1_putInOrder_63 fX1_70 sh_145 rfl rfl rfl ?_
        exact mm_retE dX1_putInOrder_66 rfl (by dsimp only; rw [mm_up_row, mm_row_n (show 145 ≠ 151 by decide), hn, show nI l.length + 1 = nI (l.length + 1) from (nI_succ _).symm]; rfl)
      refine mm_iload_n dX1_putInOrder_5 rfl rfl ?_
      refine mm_if_le 49 dX1_putInOrder_6 (by decide) (fun c_6 => ?_) (fun c_6 => ?_)
      · exact K49
      · obtain ⟨w, hw⟩ : ∃ w, (posD key (key c) l l.length) = w + 1 := by
          rcases Nat.eq_zero_or_pos (posD key (key c) l l.length) with z | z
          · rw [z] at c_6; exact absurd (by decide) c_6
          · exact ⟨(posD key (key c) l l.length) - 1, by omega⟩
        have hkw := posD_at _ _ hw
        obtain ⟨w1, sw, w2, w3, w4⟩ := hk (l.getD w 0) (Or.inl (getD_mem (by omega)))
        have ew : sp_shf (h.1 151) (posD key (key c) l l.length) l.length w = nI (l.getD w 0) := by
          have : ¬ ((posD key (key c) l l.length) < w ∧ w ≤ l.length) := by omega
          simp only [sp_shf, if_neg this]
          exact hr w (by omega)
        refine mm_aload_n dX1_putInOrder_9 rfl rfl ?_
        refine mm_aload_n dX1_putInOrder_10 rfl rfl ?_
        refine mm_getS dX1_putInOrder_11 fX1_32 sh_145 rfl gr_145_8 ?_
        refine mm_iload_n dX1_putInOrder_14 rfl rfl ?_
        refine mm_iconst (x := 1) dX1_putInOrder_15 (by decide) ?_
        refine mm_isub dX1_putInOrder_16 ?_
        refine mm_iald (w) dX1_putInOrder_17 sh_151 (by rw [hw]; exact nI_pred w) (by omega) ?_
        refine mm_cast (st' := [.int (nI (l.getD w 0)), .ref 145]) rfl (by dsimp only; rw [mm_row_s, ew]) rfl ?_
        refine mm_cV (Y1 := YX1_noteOf) dX1_putInOrder_18 lX1_132 vX1_noteOf (mX1_noteOf d (mm_row h.1 151 (sp_shf (h.1 151) ((posD key (key c) l l.length)) l.length), h.2.1, h.2.2) (l.getD w 0) (by omega) sw (by dsimp only; rw [mm_row_n (by decide)]; assumption) (by assumption)) sh_145 rfl rfl (by simp [Value.category]) ?_
        refine mm_aload_n dX1_putInOrder_21 rfl rfl ?_
        refine mm_iload_n dX1_putInOrder_22 rfl rfl ?_
        refine mm_cV (Y1 := YX1_noteOf) dX1_putInOrder_23 lX1_132 vX1_noteOf (mX1_noteOf d (mm_row h.1 151 (sp_shf (h.1 151) ((posD key (key c) l l.length)) l.length), h.2.1, h.2.2) c (by omega) sc (by dsimp only; rw [mm_row_n (by decide)]; assumption) (by assumption)) sh_145 rfl rfl (by simp [Value.category]) ?_
        refine mm_icmp_le 49 dX1_putInOrder_26 (by decide) (fun c_26 => ?_) (fun c_26 => ?_)
        · exact K49
        · exfalso
          dsimp only at c_26
          rw [mm_row_n (show 146 ≠ 151 by decide), w4, c3] at c_26
          exact c_26 hkw
    · obtain ⟨w, hw⟩ : ∃ w, l.length - k = w + 1 := ⟨l.length - k - 1, by omega⟩
      have hw2 : l.length - (k + 1) = w := by omega
      rw [hw2] at ih
      rw [hw]
      have hkw := posD_gt (key := key) (kc := key c) (l := l) l.length w (by omega) (by omega)
      obtain ⟨w1, sw, w2, w3, w4⟩ := hk (l.getD w 0) (Or.inl (getD_mem (by omega)))
      have ew : sp_shf (h.1 151) (w + 1) l.length w = nI (l.getD w 0) := by
        have : ¬ (w + 1 < w ∧ w ≤ l.length) := by omega
        simp only [sp_shf, if_neg this]
        exact hr w (by omega)
      refine mm_iload_n dX1_putInOrder_5 rfl rfl ?_
      refine mm_if_le 49 dX1_putInOrder_6 (by decide) (fun c_6 => ?_) (fun c_6 => ?_)
      · exact absurd c_6 (nI_nle (by omega) (by omega))
      · refine mm_aload_n dX1_putInOrder_9 rfl rfl ?_
        refine mm_aload_n dX1_putInOrder_10 rfl rfl ?_
        refine mm_getS dX1_putInOrder_11 fX1_32 sh_145 rfl gr_145_8 ?_
        refine mm_iload_n dX1_putInOrder_14 rfl rfl ?_
        refine mm_iconst (x := 1) dX1_putInOrder_15 (by decide) ?_
        refine mm_isub dX1_putInOrder_16 ?_
        refine mm_iald (w) dX1_putInOrder_17 sh_151 (nI_pred w) (by omega) ?_
        refine mm_cast (st' := [.int (nI (l.getD w 0)), .ref 145]) rfl (by dsimp only; rw [mm_row_s, ew]) rfl ?_
        refine mm_cV (Y1 := YX1_noteOf) dX1_putInOrder_18 lX1_132 vX1_noteOf (mX1_noteOf d (mm_row h.1 151 (sp_shf (h.1 151) (w + 1) l.length), h.2.1, h.2.2) (l.getD w 0) (by omega) sw (by dsimp only; rw [mm_row_n (by decide)]; assumption) (by assumption)) sh_145 rfl rfl (by simp [Value.category]) ?_
        refine mm_aload_n dX1_putInOrder_21 rfl rfl ?_
        refine mm_iload_n dX1_putInOrder_22 rfl rfl ?_
        refine mm_cV (Y1 := YX1_noteOf) dX1_putInOrder_23 lX1_132 vX1_noteOf (mX1_noteOf d (mm_row h.1 151 (sp_shf (h.1 151) (w + 1) l.length), h.2.1, h.2.2) c (by omega) sc (by dsimp only; rw [mm_row_n (by decide)]; assumption) (by assumption)) sh_145 rfl rfl (by simp [Value.category]) ?_
        refine mm_icmp_le 49 dX1_putInOrder_26 (by decide) (fun c_26 => ?_) (fun c_26 => ?_)
        · exfalso
          dsimp only at c_26
          rw [mm_row_n (show 146 ≠ 151 by decide), w4, c3] at c_26
          exact hkw c_26
        · refine mm_aload_n dX1_putInOrder_29 rfl rfl ?_
          refine mm_getS dX1_putInOrder_30 fX1_32 sh_145 rfl gr_145_8 ?_
          refine mm_iload_n dX1_putInOrder_33 rfl rfl ?_
          refine mm_aload_n dX1_putInOrder_34 rfl rfl ?_
          refine mm_getS dX1_putInOrder_35 fX1_32 sh_145 rfl gr_145_8 ?_
          refine mm_iload_n dX1_putInOrder_38 rfl rfl ?_
          refine mm_iconst (x := 1) dX1_putInOrder_39 (by decide) ?_
          refine mm_isub dX1_putInOrder_40 ?_
          refine mm_iald (w) dX1_putInOrder_41 sh_151 (nI_pred w) (by omega) ?_
          refine mm_iast (w + 1) dX1_putInOrder_42 sh_151 rfl (by omega) ?_
          refine mm_iinc dX1_putInOrder_43 rfl rfl rfl ?_
          refine mm_goto 5 dX1_putInOrder_46 (by decide) ?_
          refine mm_cast (by rw [nI_m1]; rfl) rfl ?_ ih
          dsimp only
          rw [mm_up_row, mm_row_s, sp_shf_s _ _ _ (by omega)]
  refine mm_aload_n dX1_putInOrder_0 rfl rfl ?_
  refine mm_getI dX1_putInOrder_1 fX1_70 sh_145 rfl ?_
  refine mm_istore_n dX1_putInOrder_4 rfl (by decide) rfl ?_
  exact mm_cast (by rw [hn]; rfl) rfl (by rw [Nat.sub_zero, sp_shf_q, mm_row_self]) (K5 0 (Nat.zero_le _))
