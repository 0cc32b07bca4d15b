/-! The words of a coin that falls with others: loudest, asks; loudestOf, tellWords. -/
/-- the greatest strength of a set among the first coins -/
def sp_lm (st : Nat → Int32) (set : Int32) : Nat → Int32
  | 0 => 0
  | i + 1 => if sp_bit set i = 1 then (if st i ≤ sp_lm st set i then sp_lm st set i else st i) else sp_lm st set i
/-- which coin has it first -/
def sp_lo (st : Nat → Int32) (set : Int32) : Nat → Option Nat
  | 0 => none
  | i + 1 => if sp_bit set i = 1 then (match sp_lo st set i with
    | none => some i
    | some l => if st i ≤ st l then some l else some i) else sp_lo st set i
def oI (o : Option Nat) : Int32 := match o with
  | none => -1
  | some l => nI l
theorem sp_lo_lt {st : Nat → Int32} {set : Int32} : ∀ {n l : Nat}, sp_lo st set n = some l → l < n := by
  intro n
  induction n with
  | zero => intro l h; simp [sp_lo] at h
  | succ i ih =>
    intro l h
    simp only [sp_lo] at h
    split at h
    · split at h
      · cases h; omega
      · rename_i l0 e
        have := ih e
        split at h <;> cases h <;> omega
    · have := ih h; omega
theorem sp_lo_lm {st : Nat → Int32} {set : Int32} : ∀ (n : Nat), (∀ j, j < n → 0 < st j) → (sp_lo st set n = none → sp_lm st set n = 0) ∧ (∀ l, sp_lo st set n = some l → sp_lm st set n = st l) := by
  intro n
  induction n with
  | zero => intro _; exact ⟨fun _ => rfl, fun l h => by simp [sp_lo] at h⟩
  | succ i ih =>
    intro hp
    obtain ⟨i1, i2⟩ := ih (fun j hj => hp j (by omega))
    have hpi := hp i (by omega)
    simp only [sp_lo, sp_lm]
    by_cases hb : sp_bit set i = 1
    · rw [if_pos hb, if_pos hb]
      cases e : sp_lo st set i with
      | none =>
        rw [i1 e]
        have : ¬ st i ≤ 0 := by rw [Int32.le_iff_toInt_le]; rw [Int32.lt_iff_toInt_lt] at hpi; omega
        rw [if_neg this]
        refine ⟨fun z => by simp at z, fun l z => ?_⟩
        simp at z
        rw [z]
      | some l0 =>
        rw [i2 l0 e]
        by_cases hle : st i ≤ st l0
        · simp only [if_pos hle]
          refine ⟨fun z => by simp at z, fun l z => ?_⟩
          simp at z
          rw [z]
        · simp only [if_neg hle]
          refine ⟨fun z => by simp at z, fun l z => ?_⟩
          simp at z
          rw [z]
    · rw [if_neg hb, if_neg hb]
      exact ⟨i1, i2⟩
theorem sp_lo_some {st : Nat → Int32} {set : Int32} : ∀ {n c : Nat}, c < n → sp_bit set c = 1 → ∃ l, sp_lo st set n = some l := by
  intro n
  induction n with
  | zero => intro c h; omega
  | succ i ih =>
    intro c hc hb
    simp only [sp_lo]
    by_cases hbi : sp_bit set i = 1
    · rw [if_pos hbi]
      cases sp_lo st set i with
      | none => exact ⟨i, rfl⟩
      | some l => by_cases z : st i ≤ st l
                  · exact ⟨l, by simp [z]⟩
                  · exact ⟨i, by simp [z]⟩
    · rw [if_neg hbi]
      have : c ≠ i := fun z => hbi (z ▸ hb)
      exact ih (show c < i by omega) hb
/-- the words: note, strength, worth, falls, cracks, coin, down, damp, many, loudest -/
def wds (nt st wo fa tg : Nat → Int32) (dn dm many ld : Int32) (c : Nat) : Nat → Int64 := fun j => match j with
  | 0 => (nt c).toInt64
  | 1 => (st c).toInt64
  | 2 => (wo c).toInt64
  | 3 => (fa c).toInt64
  | 4 => (sp_crack fa tg c).toInt64
  | 5 => (nI c).toInt64
  | 6 => dn.toInt64
  | 7 => dm.toInt64
  | 8 => many.toInt64
  | _ => ld.toInt64
/-- nothing of the words is read beyond the tenth -/
def wat (f : Nat → Int64) (w : Nat → Int64) : Prop := ∀ j, j < 10 → f j = w j
set_option maxRecDepth 100000 in
set_option maxHeartbeats 4000000 in
theorem mX11_loudest (d : Nat) (h : mm_H) (n : Nat) (hn : h.1 166 0 = nI n) (h12 : n ≤ 12) (set : Int32) : mm_M (d + 1) YX11_loudest [.ref 165, .int set] h (some (.int (sp_lm (h.1 168) set n))) h := by
  refine mm_M.of [some (.ref 165), some (.int set), none, none] rfl rfl (Nat.le_of_ble_eq_true rfl) ?_
  have K4 : ∀ i, i ≤ n → mm_R (d + 1) YX11_loudest 4 [some (.ref 165), some (.int set), some (.int (sp_lm (h.1 168) set i)), some (.int (nI i))] [] h (some (.int (sp_lm (h.1 168) set n))) h := by
    refine mm_down n ?_ (fun i hi ih => ?_)
    · refine mm_iload_n dX11_loudest_4 rfl rfl ?_
      refine mm_aload_n dX11_loudest_5 rfl rfl ?_
      refine mm_getS dX11_loudest_6 fX11_9 sh_165 rfl gr_165_1 ?_
      refine mm_iconst (x := 0) dX11_loudest_9 (by decide) ?_
      refine mm_iald (0) dX11_loudest_10 sh_166 rfl (by decide) ?_
      refine mm_icmp_ge 49 dX11_loudest_11 (by decide) (fun c_11 => ?_) (fun c_11 => ?_)
      · refine mm_iload_n dX11_loudest_49 rfl rfl ?_
        exact mm_iretE dX11_loudest_50 rfl rfl rfl
      · exact absurd (by rw [hn]; exact nI_le (Nat.le_refl _) (by omega)) c_11
    · refine mm_iload_n dX11_loudest_4 rfl rfl ?_
      refine mm_aload_n dX11_loudest_5 rfl rfl ?_
      refine mm_getS dX11_loudest_6 fX11_9 sh_165 rfl gr_165_1 ?_
      refine mm_iconst (x := 0) dX11_loudest_9 (by decide) ?_
      refine mm_iald (0) dX11_loudest_10 sh_166 rfl (by decide) ?_
      refine mm_icmp_ge 49 dX11_loudest_11 (by decide) (fun c_11 => ?_) (fun c_11 => ?_)
      · exact absurd (by rw [hn] at c_11; exact c_11) (nI_ge hi (by omega))
      · refine mm_iload_n dX11_loudest_14 rfl rfl ?_
        refine mm_iload_n dX11_loudest_15 rfl rfl ?_
        refine mm_cS (Y1 := YX11_has) dX11_loudest_16 lX11_177 sX11_has (mX11_has d h set i) rfl rfl (by simp [Value.category]) ?_
        refine mm_if_eq 41 dX11_loudest_19 (by decide) (fun c_19 => ?_) (fun c_19 => ?_)
        · refine mm_iload_n dX11_loudest_41 rfl rfl ?_
          refine mm_istore_n dX11_loudest_42 rfl (by decide) rfl ?_
          refine mm_iinc dX11_loudest_43 rfl rfl rfl ?_
          refine mm_goto 4 dX11_loudest_46 (by decide) ?_
          exact mm_cast (by rw [nI_succ]; simp only [sp_lm]; first | (rw [bI_e0] at c_19; rw [if_neg c_19]; rfl) | (rw [bI_n0] at c_19; rw [if_pos c_19]; first | (rw [if_pos c_29]; rfl) | (rw [if_neg c_29]; rfl))) rfl rfl ih
        · refine mm_aload_n dX11_loudest_22 rfl rfl ?_
          refine mm_getS dX11_loudest_23 fX11_16 sh_165 rfl gr_165_3 ?_
          refine mm_iload_n dX11_loudest_26 rfl rfl ?_
          refine mm_iald (i) dX11_loudest_27 sh_168 rfl (by omega) ?_
          refine mm_iload_n dX11_loudest_28 rfl rfl ?_
          refine mm_icmp_le 41 dX11_loudest_29 (by decide) (fun c_29 => ?_) (fun c_29 => ?_)
          · refine mm_iload_n dX11_loudest_41 rfl rfl ?_
            refine mm_istore_n dX11_loudest_42 rfl (by decide) rfl ?_
            refine mm_iinc dX11_loudest_43 rfl rfl rfl ?_
            refine mm_goto 4 dX11_loudest_46 (by decide) ?_
            exact mm_cast (by rw [nI_succ]; simp only [sp_lm]; first | (rw [bI_e0] at c_19; rw [if_neg c_19]; rfl) | (rw [bI_n0] at c_19; rw [if_pos c_19]; first | (rw [if_pos c_29]; rfl) | (rw [if_neg c_29]; rfl))) rfl rfl ih
          · refine mm_aload_n dX11_loudest_32 rfl rfl ?_
            refine mm_getS dX11_loudest_33 fX11_16 sh_165 rfl gr_165_3 ?_
            refine mm_iload_n dX11_loudest_36 rfl rfl ?_
            refine mm_iald (i) dX11_loudest_37 sh_168 rfl (by omega) ?_
            refine mm_goto 42 dX11_loudest_38 (by decide) ?_
            refine mm_istore_n dX11_loudest_42 rfl (by decide) rfl ?_
            refine mm_iinc dX11_loudest_43 rfl rfl rfl ?_
            refine mm_goto 4 dX11_loudest_46 (by decide) ?_
            exact mm_cast (by rw [nI_succ]; simp only [sp_lm]; first | (rw [bI_e0] at c_19; rw [if_neg c_19]; rfl) | (rw [bI_n0] at c_19; rw [if_pos c_19]; first | (rw [if_pos c_29]; rfl) | (rw [if_neg c_29]; rfl))) rfl rfl ih
  refine mm_iconst (x := 0) dX11_loudest_0 (by decide) ?_
  refine mm_istore_n dX11_loudest_1 rfl (by decide) rfl ?_
  refine mm_iconst (x := 0) dX11_loudest_2 (by decide) ?_
  refine mm_istore_n dX11_loudest_3 rfl (by decide) rfl ?_
  exact K4 0 (Nat.zero_le _)
set_option maxRecDepth 100000 in
set_option maxHeartbeats 4000000 in
theorem mX11_asks (d : Nat) (h : mm_H) (n : Nat) (hn : h.1 166 0 = nI n) (h12 : n ≤ 12) (k a c : Nat) (hk : k < 4) (ha : a < 4096) (hc : c < 12) (ht : ¬ h.1 170 c ≤ 0) : ∃ g, mm_M (d + 2) YX11_asks [.ref 165, .int (nI k), .int (nI a), .int (nI c)] h none (h.1, mm_rowL h.2.1 194 g, h.2.2) ∧ wat g (wds (h.1 167) (h.1 168) (h.1 169) (h.1 181) (h.1 170) (h.1 171 k) (h.1 172 k) (nI (pc a)) (sp_lm (h.1 168) (nI a) n) c) := by
  have ht0 : ¬ h.1 170 c = 0 := fun z => ht (by rw [z]; decide)
  obtain ⟨G0, eG0⟩ : ∃ g : Nat → Int64, g = h.2.1 194 := ⟨_, rfl⟩
  obtain ⟨G1, eG1⟩ : ∃ g : Nat → Int64, g = vp_updL G0 0 ((wds (h.1 167) (h.1 168) (h.1 169) (h.1 181) (h.1 170) (h.1 171 k) (h.1 172 k) (nI (pc a)) (sp_lm (h.1 168) (nI a) n) c) 0) := ⟨_, rfl⟩
  obtain ⟨G2, eG2⟩ : ∃ g : Nat → Int64, g = vp_updL G1 1 ((wds (h.1 167) (h.1 168) (h.1 169) (h.1 181) (h.1 170) (h.1 171 k) (h.1 172 k) (nI (pc a)) (sp_lm (h.1 168) (nI a) n) c) 1) := ⟨_, rfl⟩
  obtain ⟨G3, eG3⟩ : ∃ g : Nat → Int64, g = vp_updL G2 2 ((wds (h.1 167) (h.1 168) (h.1 169) (h.1 181) (h.1 170) (h.1 171 k) (h.1 172 k) (nI (pc a)) (sp_lm (h.1 168) (nI a) n) c) 2) := ⟨_, rfl⟩
  obtain ⟨G4, eG4⟩ : ∃ g : Nat → Int64, g = vp_updL G3 3 ((wds (h.1 167) (h.1 168) (h.1 169) (h.1 181) (h.1 170) (h.1 171 k) (h.1 172 k) (nI (pc a)) (sp_lm (h.1 168) (nI a) n) c) 3) := ⟨_, rfl⟩
  obtain ⟨G5, eG5⟩ : ∃ g : Nat → Int64, g = vp_updL G4 4 ((wds (h.1 167) (h.1 168) (h.1 169) (h.1 181) (h.1 170) (h.1 171 k) (h.1 172 k) (nI (pc a)) (sp_lm (h.1 168) (nI a) n) c) 4) := ⟨_, rfl⟩
  obtain ⟨G6, eG6⟩ : ∃ g : Nat → Int64, g = vp_updL G5 5 ((wds (h.1 167) (h.1 168) (h.1 169) (h.1 181) (h.1 170) (h.1 171 k) (h.1 172 k) (nI (pc a)) (sp_lm (h.1 168) (nI a) n) c) 5) := ⟨_, rfl⟩
  obtain ⟨G7, eG7⟩ : ∃ g : Nat → Int64, g = vp_updL G6 6 ((wds (h.1 167) (h.1 168) (h.1 169) (h.1 181) (h.1 170) (h.1 171 k) (h.1 172 k) (nI (pc a)) (sp_lm (h.1 168) (nI a) n) c) 6) := ⟨_, rfl⟩
  obtain ⟨G8, eG8⟩ : ∃ g : Nat → Int64, g = vp_updL G7 7 ((wds (h.1 167) (h.1 168) (h.1 169) (h.1 181) (h.1 170) (h.1 171 k) (h.1 172 k) (nI (pc a)) (sp_lm (h.1 168) (nI a) n) c) 7) := ⟨_, rfl⟩
  obtain ⟨G9, eG9⟩ : ∃ g : Nat → Int64, g = vp_updL G8 8 ((wds (h.1 167) (h.1 168) (h.1 169) (h.1 181) (h.1 170) (h.1 171 k) (h.1 172 k) (nI (pc a)) (sp_lm (h.1 168) (nI a) n) c) 8) := ⟨_, rfl⟩
  obtain ⟨G10, eG10⟩ : ∃ g : Nat → Int64, g = vp_updL G9 9 ((wds (h.1 167) (h.1 168) (h.1 169) (h.1 181) (h.1 170) (h.1 171 k) (h.1 172 k) (nI (pc a)) (sp_lm (h.1 168) (nI a) n) c) 9) := ⟨_, rfl⟩
  refine ⟨G10, ?_, ?_⟩
  · refine mm_M.of [some (.ref 165), some (.int (nI k)), some (.int (nI a)), some (.int (nI c))] rfl rfl (Nat.le_of_ble_eq_true rfl) ?_
    refine mm_cast (g := (h.1, mm_rowL h.2.1 194 G0, h.2.2)) rfl rfl (by rw [eG0, mm_rowL_self]) ?_
    refine mm_aload_n dX11_asks_0 rfl rfl ?_
    refine mm_getS dX11_asks_1 fX11_99 sh_165 rfl gr_165_41 ?_
    refine mm_iconst (x := 0) dX11_asks_4 (by decide) ?_
    refine mm_aload_n dX11_asks_5 rfl rfl ?_
    refine mm_getS dX11_asks_6 fX11_13 sh_165 rfl gr_165_2 ?_
    refine mm_iload_n dX11_asks_9 rfl rfl ?_
    refine mm_iald (c) dX11_asks_10 sh_167 rfl (by omega) ?_
    refine mm_i2l dX11_asks_11 rfl ?_
    refine mm_last (0) dX11_asks_12 sh_194 rfl (by decide) ?_
    refine mm_cast (g := (h.1, mm_rowL h.2.1 194 G1, h.2.2)) rfl rfl (by dsimp only; rw [mm_upL_row, eG1]; rfl) ?_
    refine mm_aload_n dX11_asks_13 rfl rfl ?_
    refine mm_getS dX11_asks_14 fX11_99 sh_165 rfl gr_165_41 ?_
    refine mm_iconst (x := 1) dX11_asks_17 (by decide) ?_
    refine mm_aload_n dX11_asks_18 rfl rfl ?_
    refine mm_getS dX11_asks_19 fX11_16 sh_165 rfl gr_165_3 ?_
    refine mm_iload_n dX11_asks_22 rfl rfl ?_
    refine mm_iald (c) dX11_asks_23 sh_168 rfl (by omega) ?_
    refine mm_i2l dX11_asks_24 rfl ?_
    refine mm_last (1) dX11_asks_25 sh_194 rfl (by decide) ?_
    refine mm_cast (g := (h.1, mm_rowL h.2.1 194 G2, h.2.2)) rfl rfl (by dsimp only; rw [mm_upL_row, eG2]; rfl) ?_
    refine mm_aload_n dX11_asks_26 rfl rfl ?_
    refine mm_getS dX11_asks_27 fX11_99 sh_165 rfl gr_165_41 ?_
    refine mm_iconst (x := 2) dX11_asks_30 (by decide) ?_
    refine mm_aload_n dX11_asks_31 rfl rfl ?_
    refine mm_getS dX11_asks_32 fX11_19 sh_165 rfl gr_165_4 ?_
    refine mm_iload_n dX11_asks_35 rfl rfl ?_
    refine mm_iald (c) dX11_asks_36 sh_169 rfl (by omega) ?_
    refine mm_i2l dX11_asks_37 rfl ?_
    refine mm_last (2) dX11_asks_38 sh_194 rfl (by decide) ?_
    refine mm_cast (g := (h.1, mm_rowL h.2.1 194 G3, h.2.2)) rfl rfl (by dsimp only; rw [mm_upL_row, eG3]; rfl) ?_
    refine mm_aload_n dX11_asks_39 rfl rfl ?_
    refine mm_getS dX11_asks_40 fX11_99 sh_165 rfl gr_165_41 ?_
    refine mm_iconst (x := 3) dX11_asks_43 (by decide) ?_
    refine mm_aload_n dX11_asks_44 rfl rfl ?_
    refine mm_getS dX11_asks_45 fX11_55 sh_165 rfl gr_165_16 ?_
    refine mm_iload_n dX11_asks_48 rfl rfl ?_
    refine mm_iald (c) dX11_asks_49 sh_181 rfl (by omega) ?_
    refine mm_i2l dX11_asks_50 rfl ?_
    refine mm_last (3) dX11_asks_51 sh_194 rfl (by decide) ?_
    refine mm_cast (g := (h.1, mm_rowL h.2.1 194 G4, h.2.2)) rfl rfl (by dsimp only; rw [mm_upL_row, eG4]; rfl) ?_
    refine mm_aload_n dX11_asks_52 rfl rfl ?_
    refine mm_getS dX11_asks_53 fX11_99 sh_165 rfl gr_165_41 ?_
    refine mm_iconst (x := 4) dX11_asks_56 (by decide) ?_
    refine mm_aload_n dX11_asks_57 rfl rfl ?_
    refine mm_iload_n dX11_asks_58 rfl rfl ?_
    refine mm_cV (Y1 := YX11_cracks) dX11_asks_59 lX11_361 vX11_cracks (mX11_cracks (d + 1) (h.1, mm_rowL h.2.1 194 G4, h.2.2) c hc ht0) sh_165 rfl rfl (by simp [Value.category]) ?_
    refine mm_i2l dX11_asks_62 rfl ?_
    refine mm_last (4) dX11_asks_63 sh_194 rfl (by decide) ?_
    refine mm_cast (g := (h.1, mm_rowL h.2.1 194 G5, h.2.2)) rfl rfl (by dsimp only; rw [mm_upL_row, eG5]; simp only [wds, sp_crack, if_neg ht]) ?_
    refine mm_aload_n dX11_asks_64 rfl rfl ?_
    refine mm_getS dX11_asks_65 fX11_99 sh_165 rfl gr_165_41 ?_
    refine mm_iconst (x := 5) dX11_asks_68 (by decide) ?_
    refine mm_iload_n dX11_asks_69 rfl rfl ?_
    refine mm_i2l dX11_asks_70 rfl ?_
    refine mm_last (5) dX11_asks_71 sh_194 rfl (by decide) ?_
    refine mm_cast (g := (h.1, mm_rowL h.2.1 194 G6, h.2.2)) rfl rfl (by dsimp only; rw [mm_upL_row, eG6]; rfl) ?_
    refine mm_aload_n dX11_asks_72 rfl rfl ?_
    refine mm_getS dX11_asks_73 fX11_99 sh_165 rfl gr_165_41 ?_
    refine mm_bipush (x := 6) dX11_asks_76 (by decide) ?_
    refine mm_aload_n dX11_asks_78 rfl rfl ?_
    refine mm_getS dX11_asks_79 fX11_25 sh_165 rfl gr_165_6 ?_
    refine mm_iload_n dX11_asks_82 rfl rfl ?_
    refine mm_iald (k) dX11_asks_83 sh_171 rfl (by omega) ?_
    refine mm_i2l dX11_asks_84 rfl ?_
    refine mm_last (6) dX11_asks_85 sh_194 rfl (by decide) ?_
    refine mm_cast (g := (h.1, mm_rowL h.2.1 194 G7, h.2.2)) rfl rfl (by dsimp only; rw [mm_upL_row, eG7]; rfl) ?_
    refine mm_aload_n dX11_asks_86 rfl rfl ?_
    refine mm_getS dX11_asks_87 fX11_99 sh_165 rfl gr_165_41 ?_
    refine mm_bipush (x := 7) dX11_asks_90 (by decide) ?_
    refine mm_aload_n dX11_asks_92 rfl rfl ?_
    refine mm_getS dX11_asks_93 fX11_28 sh_165 rfl gr_165_7 ?_
    refine mm_iload_n dX11_asks_96 rfl rfl ?_
    refine mm_iald (k) dX11_asks_97 sh_172 rfl (by omega) ?_
    refine mm_i2l dX11_asks_98 rfl ?_
    refine mm_last (7) dX11_asks_99 sh_194 rfl (by decide) ?_
    refine mm_cast (g := (h.1, mm_rowL h.2.1 194 G8, h.2.2)) rfl rfl (by dsimp only; rw [mm_upL_row, eG8]; rfl) ?_
    refine mm_aload_n dX11_asks_100 rfl rfl ?_
    refine mm_getS dX11_asks_101 fX11_99 sh_165 rfl gr_165_41 ?_
    refine mm_bipush (x := 8) dX11_asks_104 (by decide) ?_
    refine mm_iload_n dX11_asks_106 rfl rfl ?_
    refine mm_cS (Y1 := YX11_bits) dX11_asks_107 lX11_363 sX11_bits (mX11_bits (d + 1) (h.1, mm_rowL h.2.1 194 G8, h.2.2) a ha) rfl rfl (by simp [Value.category]) ?_
    refine mm_i2l dX11_asks_110 rfl ?_
    refine mm_last (8) dX11_asks_111 sh_194 rfl (by decide) ?_
    refine mm_cast (g := (h.1, mm_rowL h.2.1 194 G9, h.2.2)) rfl rfl (by dsimp only; rw [mm_upL_row, eG9]; rfl) ?_
    refine mm_aload_n dX11_asks_112 rfl rfl ?_
    refine mm_getS dX11_asks_113 fX11_99 sh_165 rfl gr_165_41 ?_
    refine mm_bipush (x := 9) dX11_asks_116 (by decide) ?_
    refine mm_aload_n dX11_asks_118 rfl rfl ?_
    refine mm_iload_n dX11_asks_119 rfl rfl ?_
    refine mm_cV (Y1 := YX11_loudest) dX11_asks_120 lX11_366 vX11_loudest (mX11_loudest d (h.1, mm_rowL h.2.1 194 G9, h.2.2) n hn h12 (nI a)) sh_165 rfl rfl (by simp [Value.category]) ?_
    refine mm_i2l dX11_asks_123 rfl ?_
    refine mm_last (9) dX11_asks_124 sh_194 rfl (by decide) ?_
    refine mm_cast (g := (h.1, mm_rowL h.2.1 194 G10, h.2.2)) rfl rfl (by dsimp only; rw [mm_upL_row, eG10]; rfl) ?_
    exact mm_retE dX11_asks_125 rfl rfl
  · intro j hj
    rcases (show j = 0 ∨ j = 1 ∨ j = 2 ∨ j = 3 ∨ j = 4 ∨ j = 5 ∨ j = 6 ∨ j = 7 ∨ j = 8 ∨ j = 9 by omega) with rfl | rfl | rfl | rfl | rfl | rfl | rfl | rfl | rfl | rfl <;> simp [eG1, eG2, eG3, eG4, eG5, eG6, eG7, eG8, eG9, eG10, vp_updL]
set_option maxRecDepth 100000 in
set_option maxHeartbeats 4000000 in
theorem mX1_loudestOf (d : Nat) (h : mm_H) (n : Nat) (hn : h.1 65 0 = nI n) (h12 : n ≤ 12) (set : Int32) : mm_M (d + 1) YX1_loudestOf [.ref 145, .int set] h (some (.int (nI ((sp_lo (h.1 67) set n).getD 0)))) h := by
  refine mm_M.of [some (.ref 145), some (.int set), none, none, none] rfl rfl (Nat.le_of_ble_eq_true rfl) ?_
  have K4 : ∀ i, i ≤ n → mm_R (d + 1) YX1_loudestOf 4 [some (.ref 145), some (.int set), some (.int (oI (sp_lo (h.1 67) set i))), some (.int (nI i)), none] [] h (some (.int (nI ((sp_lo (h.1 67) set n).getD 0)))) h := by
    refine mm_down n ?_ (fun i hi ih => ?_)
    · refine mm_iload_n dX1_loudestOf_4 rfl rfl ?_
      refine mm_aload_n dX1_loudestOf_5 rfl rfl ?_
      refine mm_getS dX1_loudestOf_6 fX1_44 sh_145 rfl gr_145_0 ?_
      refine mm_getI dX1_loudestOf_9 fX1_56 sh_65 rfl ?_
      refine mm_icmp_ge 69 dX1_loudestOf_12 (by decide) (fun c_12 => ?_) (fun c_12 => ?_)
      · refine mm_iload_n dX1_loudestOf_69 rfl rfl ?_
        refine mm_iconst (x := 0) dX1_loudestOf_70 (by decide) ?_
        refine mm_maxI dX1_loudestOf_71 lX1_111 (by simp [Value.category]) ?_
        exact mm_iretE dX1_loudestOf_74 rfl (by cases e : sp_lo (h.1 67) set n with
          | none => rfl
          | some l => have hl := sp_lo_lt e; exact if_neg (nI_pos (by omega))) rfl
      · exact absurd (by rw [hn]; exact nI_le (Nat.le_refl _) (by omega)) c_12
    · refine mm_iload_n dX1_loudestOf_4 rfl rfl ?_
      refine mm_aload_n dX1_loudestOf_5 rfl rfl ?_
      refine mm_getS dX1_loudestOf_6 fX1_44 sh_145 rfl gr_145_0 ?_
      refine mm_getI dX1_loudestOf_9 fX1_56 sh_65 rfl ?_
      refine mm_icmp_ge 69 dX1_loudestOf_12 (by decide) (fun c_12 => ?_) (fun c_12 => ?_)
      · exact absurd (by rw [hn] at c_12; exact c_12) (nI_ge hi (by omega))
      · refine mm_iload_n dX1_loudestOf_15 rfl rfl ?_
        refine mm_iload_n dX1_loudestOf_16 rfl rfl ?_
        refine mm_ishr dX1_loudestOf_17 ?_
        refine mm_iconst (x := 1) dX1_loudestOf_18 (by decide) ?_
        refine mm_iand dX1_loudestOf_19 ?_
        refine mm_iconst (x := 1) dX1_loudestOf_20 (by decide) ?_
        refine mm_icmp_ne 28 dX1_loudestOf_21 (by decide) (fun c_21 => ?_) (fun c_21 => ?_)
        · refine mm_iconst (x := 0) dX1_loudestOf_28 (by decide) ?_
          refine mm_istore dX1_loudestOf_29 (by decide) rfl ?_
          refine mm_iload dX1_loudestOf_31 rfl ?_
          refine mm_if_eq 63 dX1_loudestOf_33 (by decide) (fun c_33 => ?_) (fun c_33 => ?_)
          · refine mm_iinc dX1_loudestOf_63 rfl rfl rfl ?_
            refine mm_goto 4 dX1_loudestOf_66 (by decide) ?_
            refine mm_lessE (ls' := [some (.ref 145), some (.int set), some (.int (oI (sp_lo (h.1 67) set (i + 1)))), some (.int (nI (i + 1))), none]) ⟨rfl, rfl, ?_, ?_, trivial⟩ ih
            · refine congrArg Value.int ?_
              simp only [sp_lo]
              (first | exact absurd rfl c_33 | exact absurd c_33 (by decide) | (rw [if_neg (show ¬ sp_bit set i = 1 from c_21)]; done) | (rw [if_pos (show sp_bit set i = 1 from c_21)]; simp only [hl0, if_pos c_58]; done) | (rw [if_pos (show sp_bit set i = 1 from c_21)]; simp only [hl0, if_neg c_58, oI]; done) | (rw [if_pos (show sp_bit set i = 1 from c_21)]; cases e : sp_lo (h.1 67) set i with | none => rfl | some l => exact absurd (show nI l < 0 by rw [e] at c_37; exact c_37) (nI_pos (by have := sp_lo_lt e; omega))))
            · rw [nI_succ]; rfl
          · refine mm_iload_n dX1_loudestOf_36 rfl rfl ?_
            refine mm_if_lt 61 dX1_loudestOf_37 (by decide) (fun c_37 => ?_) (fun c_37 => ?_)
            · refine mm_iload_n dX1_loudestOf_61 rfl rfl ?_
              refine mm_istore_n dX1_loudestOf_62 rfl (by decide) rfl ?_
              refine mm_iinc dX1_loudestOf_63 rfl rfl rfl ?_
              refine mm_goto 4 dX1_loudestOf_66 (by decide) ?_
              refine mm_lessE (ls' := [some (.ref 145), some (.int set), some (.int (oI (sp_lo (h.1 67) set (i + 1)))), some (.int (nI (i + 1))), none]) ⟨rfl, rfl, ?_, ?_, trivial⟩ ih
              · refine congrArg Value.int ?_
                simp only [sp_lo]
                (first | exact absurd rfl c_33 | exact absurd c_33 (by decide) | (rw [if_neg (show ¬ sp_bit set i = 1 from c_21)]; done) | (rw [if_pos (show sp_bit set i = 1 from c_21)]; simp only [hl0, if_pos c_58]; done) | (rw [if_pos (show sp_bit set i = 1 from c_21)]; simp only [hl0, if_neg c_58, oI]; done) | (rw [if_pos (show sp_bit set i = 1 from c_21)]; cases e : sp_lo (h.1 67) set i with | none => rfl | some l => exact absurd (show nI l < 0 by rw [e] at c_37; exact c_37) (nI_pos (by have := sp_lo_lt e; omega))))
              · rw [nI_succ]; rfl
            · obtain ⟨l0, hl0⟩ : ∃ l, sp_lo (h.1 67) set i = some l := by
                cases e : sp_lo (h.1 67) set i with
                | none => rw [e] at c_37; exact absurd (by decide) c_37
                | some l => exact ⟨l, rfl⟩
              have hll := sp_lo_lt hl0
              refine mm_aload_n dX1_loudestOf_40 rfl rfl ?_
              refine mm_getS dX1_loudestOf_41 fX1_44 sh_145 rfl gr_145_0 ?_
              refine mm_getS dX1_loudestOf_44 fX1_73 sh_65 rfl gr_65_2 ?_
              refine mm_iload_n dX1_loudestOf_47 rfl rfl ?_
              refine mm_iald (i) dX1_loudestOf_48 sh_67 rfl (by omega) ?_
              refine mm_aload_n dX1_loudestOf_49 rfl rfl ?_
              refine mm_getS dX1_loudestOf_50 fX1_44 sh_145 rfl gr_145_0 ?_
              refine mm_getS dX1_loudestOf_53 fX1_73 sh_65 rfl gr_65_2 ?_
              refine mm_iload_n dX1_loudestOf_56 rfl rfl ?_
              refine mm_iald (l0) dX1_loudestOf_57 sh_67 (by rw [hl0]; rfl) (by omega) ?_
              refine mm_icmp_le 63 dX1_loudestOf_58 (by decide) (fun c_58 => ?_) (fun c_58 => ?_)
              · refine mm_iinc dX1_loudestOf_63 rfl rfl rfl ?_
                refine mm_goto 4 dX1_loudestOf_66 (by decide) ?_
                refine mm_lessE (ls' := [some (.ref 145), some (.int set), some (.int (oI (sp_lo (h.1 67) set (i + 1)))), some (.int (nI (i + 1))), none]) ⟨rfl, rfl, ?_, ?_, trivial⟩ ih
                · refine congrArg Value.int ?_
                  simp only [sp_lo]
                  (first | exact absurd rfl c_33 | exact absurd c_33 (by decide) | (rw [if_neg (show ¬ sp_bit set i = 1 from c_21)]; done) | (rw [if_pos (show sp_bit set i = 1 from c_21)]; simp only [hl0, if_pos c_58]; done) | (rw [if_pos (show sp_bit set i = 1 from c_21)]; simp only [hl0, if_neg c_58, oI]; done) | (rw [if_pos (show sp_bit set i = 1 from c_21)]; cases e : sp_lo (h.1 67) set i with | none => rfl | some l => exact absurd (show nI l < 0 by rw [e] at c_37; exact c_37) (nI_pos (by have := sp_lo_lt e; omega))))
                · rw [nI_succ]; rfl
              · refine mm_iload_n dX1_loudestOf_61 rfl rfl ?_
                refine mm_istore_n dX1_loudestOf_62 rfl (by decide) rfl ?_
                refine mm_iinc dX1_loudestOf_63 rfl rfl rfl ?_
                refine mm_goto 4 dX1_loudestOf_66 (by decide) ?_
                refine mm_lessE (ls' := [some (.ref 145), some (.int set), some (.int (oI (sp_lo (h.1 67) set (i + 1)))), some (.int (nI (i + 1))), none]) ⟨rfl, rfl, ?_, ?_, trivial⟩ ih
                · refine congrArg Value.int ?_
                  simp only [sp_lo]
                  (first | exact absurd rfl c_33 | exact absurd c_33 (by decide) | (rw [if_neg (show ¬ sp_bit set i = 1 from c_21)]; done) | (rw [if_pos (show sp_bit set i = 1 from c_21)]; simp only [hl0, if_pos c_58]; done) | (rw [if_pos (show sp_bit set i = 1 from c_21)]; simp only [hl0, if_neg c_58, oI]; done) | (rw [if_pos (show sp_bit set i = 1 from c_21)]; cases e : sp_lo (h.1 67) set i with | none => rfl | some l => exact absurd (show nI l < 0 by rw [e] at c_37; exact c_37) (nI_pos (by have := sp_lo_lt e; omega))))
                · rw [nI_succ]; rfl
        · refine mm_iconst (x := 1) dX1_loudestOf_24 (by decide) ?_
          refine mm_goto 29 dX1_loudestOf_25 (by decide) ?_
          refine mm_istore dX1_loudestOf_29 (by decide) rfl ?_
          refine mm_iload dX1_loudestOf_31 rfl ?_
          refine mm_if_eq 63 dX1_loudestOf_33 (by decide) (fun c_33 => ?_) (fun c_33 => ?_)
          · refine mm_iinc dX1_loudestOf_63 rfl rfl rfl ?_
            refine mm_goto 4 dX1_loudestOf_66 (by decide) ?_
            refine mm_lessE (ls' := [some (.ref 145), some (.int set), some (.int (oI (sp_lo (h.1 67) set (i + 1)))), some (.int (nI (i + 1))), none]) ⟨rfl, rfl, ?_, ?_, trivial⟩ ih
            · refine congrArg Value.int ?_
              simp only [sp_lo]
              (first | exact absurd rfl c_33 | exact absurd c_33 (by decide) | (rw [if_neg (show ¬ sp_bit set i = 1 from c_21)]; done) | (rw [if_pos (show sp_bit set i = 1 from c_21)]; simp only [hl0, if_pos c_58]; done) | (rw [if_pos (show sp_bit set i = 1 from c_21)]; simp only [hl0, if_neg c_58, oI]; done) | (rw [if_pos (show sp_bit set i = 1 from c_21)]; cases e : sp_lo (h.1 67) set i with | none => rfl | some l => exact absurd (show nI l < 0 by rw [e] at c_37; exact c_37) (nI_pos (by have := sp_lo_lt e; omega))))
            · rw [nI_succ]; rfl
          · refine mm_iload_n dX1_loudestOf_36 rfl rfl ?_
            refine mm_if_lt 61 dX1_loudestOf_37 (by decide) (fun c_37 => ?_) (fun c_37 => ?_)
            · refine mm_iload_n dX1_loudestOf_61 rfl rfl ?_
              refine mm_istore_n dX1_loudestOf_62 rfl (by decide) rfl ?_
              refine mm_iinc dX1_loudestOf_63 rfl rfl rfl ?_
              refine mm_goto 4 dX1_loudestOf_66 (by decide) ?_
              refine mm_lessE (ls' := [some (.ref 145), some (.int set), some (.int (oI (sp_lo (h.1 67) set (i + 1)))), some (.int (nI (i + 1))), none]) ⟨rfl, rfl, ?_, ?_, trivial⟩ ih
              · refine congrArg Value.int ?_
                simp only [sp_lo]
                (first | exact absurd rfl c_33 | exact absurd c_33 (by decide) | (rw [if_neg (show ¬ sp_bit set i = 1 from c_21)]; done) | (rw [if_pos (show sp_bit set i = 1 from c_21)]; simp only [hl0, if_pos c_58]; done) | (rw [if_pos (show sp_bit set i = 1 from c_21)]; simp only [hl0, if_neg c_58, oI]; done) | (rw [if_pos (show sp_bit set i = 1 from c_21)]; cases e : sp_lo (h.1 67) set i with | none => rfl | some l => exact absurd (show nI l < 0 by rw [e] at c_37; exact c_37) (nI_pos (by have := sp_lo_lt e; omega))))
              · rw [nI_succ]; rfl
            · obtain ⟨l0, hl0⟩ : ∃ l, sp_lo (h.1 67) set i = some l := by
                cases e : sp_lo (h.1 67) set i with
                | none => rw [e] at c_37; exact absurd (by decide) c_37
                | some l => exact ⟨l, rfl⟩
              have hll := sp_lo_lt hl0
              refine mm_aload_n dX1_loudestOf_40 rfl rfl ?_
              refine mm_getS dX1_loudestOf_41 fX1_44 sh_145 rfl gr_145_0 ?_
              refine mm_getS dX1_loudestOf_44 fX1_73 sh_65 rfl gr_65_2 ?_
              refine mm_iload_n dX1_loudestOf_47 rfl rfl ?_
              refine mm_iald (i) dX1_loudestOf_48 sh_67 rfl (by omega) ?_
              refine mm_aload_n dX1_loudestOf_49 rfl rfl ?_
              refine mm_getS dX1_loudestOf_50 fX1_44 sh_145 rfl gr_145_0 ?_
              refine mm_getS dX1_loudestOf_53 fX1_73 sh_65 rfl gr_65_2 ?_
              refine mm_iload_n dX1_loudestOf_56 rfl rfl ?_
              refine mm_iald (l0) dX1_loudestOf_57 sh_67 (by rw [hl0]; rfl) (by omega) ?_
              refine mm_icmp_le 63 dX1_loudestOf_58 (by decide) (fun c_58 => ?_) (fun c_58 => ?_)
              · refine mm_iinc dX1_loudestOf_63 rfl rfl rfl ?_
                refine mm_goto 4 dX1_loudestOf_66 (by decide) ?_
                refine mm_lessE (ls' := [some (.ref 145), some (.int set), some (.int (oI (sp_lo (h.1 67) set (i + 1)))), some (.int (nI (i + 1))), none]) ⟨rfl, rfl, ?_, ?_, trivial⟩ ih
                · refine congrArg Value.int ?_
                  simp only [sp_lo]
                  (first | exact absurd rfl c_33 | exact absurd c_33 (by decide) | (rw [if_neg (show ¬ sp_bit set i = 1 from c_21)]; done) | (rw [if_pos (show sp_bit set i = 1 from c_21)]; simp only [hl0, if_pos c_58]; done) | (rw [if_pos (show sp_bit set i = 1 from c_21)]; simp only [hl0, if_neg c_58, oI]; done) | (rw [if_pos (show sp_bit set i = 1 from c_21)]; cases e : sp_lo (h.1 67) set i with | none => rfl | some l => exact absurd (show nI l < 0 by rw [e] at c_37; exact c_37) (nI_pos (by have := sp_lo_lt e; omega))))
                · rw [nI_succ]; rfl
              · refine mm_iload_n dX1_loudestOf_61 rfl rfl ?_
                refine mm_istore_n dX1_loudestOf_62 rfl (by decide) rfl ?_
                refine mm_iinc dX1_loudestOf_63 rfl rfl rfl ?_
                refine mm_goto 4 dX1_loudestOf_66 (by decide) ?_
                refine mm_lessE (ls' := [some (.ref 145), some (.int set), some (.int (oI (sp_lo (h.1 67) set (i + 1)))), some (.int (nI (i + 1))), none]) ⟨rfl, rfl, ?_, ?_, trivial⟩ ih
                · refine congrArg Value.int ?_
                  simp only [sp_lo]
                  (first | exact absurd rfl c_33 | exact absurd c_33 (by decide) | (rw [if_neg (show ¬ sp_bit set i = 1 from c_21)]; done) | (rw [if_pos (show sp_bit set i = 1 from c_21)]; simp only [hl0, if_pos c_58]; done) | (rw [if_pos (show sp_bit set i = 1 from c_21)]; simp only [hl0, if_neg c_58, oI]; done) | (rw [if_pos (show sp_bit set i = 1 from c_21)]; cases e : sp_lo (h.1 67) set i with | none => rfl | some l => exact absurd (show nI l < 0 by rw [e] at c_37; exact c_37) (nI_pos (by have := sp_lo_lt e; omega))))
                · rw [nI_succ]; rfl
  refine mm_iconst (x := (-1)) dX1_loudestOf_0 (by decide) ?_
  refine mm_istore_n dX1_loudestOf_1 rfl (by decide) rfl ?_
  refine mm_iconst (x := 0) dX1_loudestOf_2 (by decide) ?_
  refine mm_istore_n dX1_loudestOf_3 rfl (by decide) rfl ?_
  exact K4 0 (Nat.zero_le _)
set_option maxRecDepth 100000 in
set_option maxHeartbeats 4000000 in
theorem mX1_tellWords (d : Nat) (h : mm_H) (k c : Nat) (many ld : Int32) (hk : h.1 145 2 = nI k) (hk4 : k < 4) (hc : c < 12) : ∃ g, mm_M (d + 1) YX1_tellWords [.ref 145, .int (nI c), .int many, .int ld] h none (h.1, mm_rowL h.2.1 148 g, h.2.2) ∧ wat g (wds (h.1 66) (h.1 67) (h.1 68) (h.1 71) (h.1 69) (h.1 72 k) (h.1 73 k) many ld c) := by
  obtain ⟨G0, eG0⟩ : ∃ g : Nat → Int64, g = h.2.1 148 := ⟨_, rfl⟩
  obtain ⟨G1, eG1⟩ : ∃ g : Nat → Int64, g = vp_updL G0 0 ((wds (h.1 66) (h.1 67) (h.1 68) (h.1 71) (h.1 69) (h.1 72 k) (h.1 73 k) many ld c) 0) := ⟨_, rfl⟩
  obtain ⟨G2, eG2⟩ : ∃ g : Nat → Int64, g = vp_updL G1 1 ((wds (h.1 66) (h.1 67) (h.1 68) (h.1 71) (h.1 69) (h.1 72 k) (h.1 73 k) many ld c) 1) := ⟨_, rfl⟩
  obtain ⟨G3, eG3⟩ : ∃ g : Nat → Int64, g = vp_updL G2 2 ((wds (h.1 66) (h.1 67) (h.1 68) (h.1 71) (h.1 69) (h.1 72 k) (h.1 73 k) many ld c) 2) := ⟨_, rfl⟩
  obtain ⟨G4, eG4⟩ : ∃ g : Nat → Int64, g = vp_updL G3 3 ((wds (h.1 66) (h.1 67) (h.1 68) (h.1 71) (h.1 69) (h.1 72 k) (h.1 73 k) many ld c) 3) := ⟨_, rfl⟩
  obtain ⟨G5, eG5⟩ : ∃ g : Nat → Int64, g = vp_updL G4 4 ((wds (h.1 66) (h.1 67) (h.1 68) (h.1 71) (h.1 69) (h.1 72 k) (h.1 73 k) many ld c) 4) := ⟨_, rfl⟩
  obtain ⟨G6, eG6⟩ : ∃ g : Nat → Int64, g = vp_updL G5 5 ((wds (h.1 66) (h.1 67) (h.1 68) (h.1 71) (h.1 69) (h.1 72 k) (h.1 73 k) many ld c) 5) := ⟨_, rfl⟩
  obtain ⟨G7, eG7⟩ : ∃ g : Nat → Int64, g = vp_updL G6 6 ((wds (h.1 66) (h.1 67) (h.1 68) (h.1 71) (h.1 69) (h.1 72 k) (h.1 73 k) many ld c) 6) := ⟨_, rfl⟩
  obtain ⟨G8, eG8⟩ : ∃ g : Nat → Int64, g = vp_updL G7 7 ((wds (h.1 66) (h.1 67) (h.1 68) (h.1 71) (h.1 69) (h.1 72 k) (h.1 73 k) many ld c) 7) := ⟨_, rfl⟩
  obtain ⟨G9, eG9⟩ : ∃ g : Nat → Int64, g = vp_updL G8 8 ((wds (h.1 66) (h.1 67) (h.1 68) (h.1 71) (h.1 69) (h.1 72 k) (h.1 73 k) many ld c) 8) := ⟨_, rfl⟩
  obtain ⟨G10, eG10⟩ : ∃ g : Nat → Int64, g = vp_updL G9 9 ((wds (h.1 66) (h.1 67) (h.1 68) (h.1 71) (h.1 69) (h.1 72 k) (h.1 73 k) many ld c) 9) := ⟨_, rfl⟩
  refine ⟨G10, ?_, ?_⟩
  · refine mm_M.of [some (.ref 145), some (.int (nI c)), some (.int many), some (.int ld)] rfl rfl (Nat.le_of_ble_eq_true rfl) ?_
    refine mm_cast (g := (h.1, mm_rowL h.2.1 148 G0, h.2.2)) rfl rfl (by rw [eG0, mm_rowL_self]) ?_
    refine mm_aload_n dX1_tellWords_0 rfl rfl ?_
    refine mm_getS dX1_tellWords_1 fX1_20 sh_145 rfl gr_145_5 ?_
    refine mm_iconst (x := 0) dX1_tellWords_4 (by decide) ?_
    refine mm_aload_n dX1_tellWords_5 rfl rfl ?_
    refine mm_getS dX1_tellWords_6 fX1_44 sh_145 rfl gr_145_0 ?_
    refine mm_getS dX1_tellWords_9 fX1_114 sh_65 rfl gr_65_1 ?_
    refine mm_iload_n dX1_tellWords_12 rfl rfl ?_
    refine mm_iald (c) dX1_tellWords_13 sh_66 rfl (by omega) ?_
    refine mm_i2l dX1_tellWords_14 rfl ?_
    refine mm_last (0) dX1_tellWords_15 sh_148 rfl (by decide) ?_
    refine mm_cast (g := (h.1, mm_rowL h.2.1 148 G1, h.2.2)) rfl rfl (by dsimp only; rw [mm_upL_row, eG1]; rfl) ?_
    refine mm_aload_n dX1_tellWords_16 rfl rfl ?_
    refine mm_getS dX1_tellWords_17 fX1_20 sh_145 rfl gr_145_5 ?_
    refine mm_iconst (x := 1) dX1_tellWords_20 (by decide) ?_
    refine mm_aload_n dX1_tellWords_21 rfl rfl ?_
    refine mm_getS dX1_tellWords_22 fX1_44 sh_145 rfl gr_145_0 ?_
    refine mm_getS dX1_tellWords_25 fX1_73 sh_65 rfl gr_65_2 ?_
    refine mm_iload_n dX1_tellWords_28 rfl rfl ?_
    refine mm_iald (c) dX1_tellWords_29 sh_67 rfl (by omega) ?_
    refine mm_i2l dX1_tellWords_30 rfl ?_
    refine mm_last (1) dX1_tellWords_31 sh_148 rfl (by decide) ?_
    refine mm_cast (g := (h.1, mm_rowL h.2.1 148 G2, h.2.2)) rfl rfl (by dsimp only; rw [mm_upL_row, eG2]; rfl) ?_
    refine mm_aload_n dX1_tellWords_32 rfl rfl ?_
    refine mm_getS dX1_tellWords_33 fX1_20 sh_145 rfl gr_145_5 ?_
    refine mm_iconst (x := 2) dX1_tellWords_36 (by decide) ?_
    refine mm_aload_n dX1_tellWords_37 rfl rfl ?_
    refine mm_getS dX1_tellWords_38 fX1_44 sh_145 rfl gr_145_0 ?_
    refine mm_getS dX1_tellWords_41 fX1_117 sh_65 rfl gr_65_3 ?_
    refine mm_iload_n dX1_tellWords_44 rfl rfl ?_
    refine mm_iald (c) dX1_tellWords_45 sh_68 rfl (by omega) ?_
    refine mm_i2l dX1_tellWords_46 rfl ?_
    refine mm_last (2) dX1_tellWords_47 sh_148 rfl (by decide) ?_
    refine mm_cast (g := (h.1, mm_rowL h.2.1 148 G3, h.2.2)) rfl rfl (by dsimp only; rw [mm_upL_row, eG3]; rfl) ?_
    refine mm_aload_n dX1_tellWords_48 rfl rfl ?_
    refine mm_getS dX1_tellWords_49 fX1_20 sh_145 rfl gr_145_5 ?_
    refine mm_iconst (x := 3) dX1_tellWords_52 (by decide) ?_
    refine mm_aload_n dX1_tellWords_53 rfl rfl ?_
    refine mm_getS dX1_tellWords_54 fX1_44 sh_145 rfl gr_145_0 ?_
    refine mm_getS dX1_tellWords_57 fX1_120 sh_65 rfl gr_65_6 ?_
    refine mm_iload_n dX1_tellWords_60 rfl rfl ?_
    refine mm_iald (c) dX1_tellWords_61 sh_71 rfl (by omega) ?_
    refine mm_i2l dX1_tellWords_62 rfl ?_
    refine mm_last (3) dX1_tellWords_63 sh_148 rfl (by decide) ?_
    refine mm_cast (g := (h.1, mm_rowL h.2.1 148 G4, h.2.2)) rfl rfl (by dsimp only; rw [mm_upL_row, eG4]; rfl) ?_
    refine mm_aload_n dX1_tellWords_64 rfl rfl ?_
    refine mm_getS dX1_tellWords_65 fX1_20 sh_145 rfl gr_145_5 ?_
    refine mm_iconst (x := 4) dX1_tellWords_68 (by decide) ?_
    refine mm_aload_n dX1_tellWords_69 rfl rfl ?_
    refine mm_getS dX1_tellWords_70 fX1_44 sh_145 rfl gr_145_0 ?_
    refine mm_iload_n dX1_tellWords_73 rfl rfl ?_
    refine mm_cV (Y1 := YX5_cracks) dX1_tellWords_74 lX1_123 vX5_cracks (mX5_cracks d (h.1, mm_rowL h.2.1 148 G4, h.2.2) 65 mint65 c hc) sh_65 rfl rfl (by simp [Value.category]) ?_
    refine mm_i2l dX1_tellWords_77 rfl ?_
    refine mm_last (4) dX1_tellWords_78 sh_148 rfl (by decide) ?_
    refine mm_cast (g := (h.1, mm_rowL h.2.1 148 G5, h.2.2)) rfl rfl (by dsimp only; rw [mm_upL_row, eG5]; rfl) ?_
    refine mm_aload_n dX1_tellWords_79 rfl rfl ?_
    refine mm_getS dX1_tellWords_80 fX1_20 sh_145 rfl gr_145_5 ?_
    refine mm_iconst (x := 5) dX1_tellWords_83 (by decide) ?_
    refine mm_iload_n dX1_tellWords_84 rfl rfl ?_
    refine mm_i2l dX1_tellWords_85 rfl ?_
    refine mm_last (5) dX1_tellWords_86 sh_148 rfl (by decide) ?_
    refine mm_cast (g := (h.1, mm_rowL h.2.1 148 G6, h.2.2)) rfl rfl (by dsimp only; rw [mm_upL_row, eG6]; rfl) ?_
    refine mm_aload_n dX1_tellWords_87 rfl rfl ?_
    refine mm_getS dX1_tellWords_88 fX1_20 sh_145 rfl gr_145_5 ?_
    refine mm_bipush (x := 6) dX1_tellWords_91 (by decide) ?_
    refine mm_aload_n dX1_tellWords_93 rfl rfl ?_
    refine mm_getS dX1_tellWords_94 fX1_44 sh_145 rfl gr_145_0 ?_
    refine mm_getS dX1_tellWords_97 fX1_126 sh_65 rfl gr_65_8 ?_
    refine mm_aload_n dX1_tellWords_100 rfl rfl ?_
    refine mm_getI dX1_tellWords_101 fX1_52 sh_145 rfl ?_
    refine mm_iald (k) dX1_tellWords_104 sh_72 hk hk4 ?_
    refine mm_i2l dX1_tellWords_105 rfl ?_
    refine mm_last (6) dX1_tellWords_106 sh_148 rfl (by decide) ?_
    refine mm_cast (g := (h.1, mm_rowL h.2.1 148 G7, h.2.2)) rfl rfl (by dsimp only; rw [mm_upL_row, eG7]; rfl) ?_
    refine mm_aload_n dX1_tellWords_107 rfl rfl ?_
    refine mm_getS dX1_tellWords_108 fX1_20 sh_145 rfl gr_145_5 ?_
    refine mm_bipush (x := 7) dX1_tellWords_111 (by decide) ?_
    refine mm_aload_n dX1_tellWords_113 rfl rfl ?_
    refine mm_getS dX1_tellWords_114 fX1_44 sh_145 rfl gr_145_0 ?_
    refine mm_getS dX1_tellWords_117 fX1_129 sh_65 rfl gr_65_9 ?_
    refine mm_aload_n dX1_tellWords_120 rfl rfl ?_
    refine mm_getI dX1_tellWords_121 fX1_52 sh_145 rfl ?_
    refine mm_iald (k) dX1_tellWords_124 sh_73 hk hk4 ?_
    refine mm_i2l dX1_tellWords_125 rfl ?_
    refine mm_last (7) dX1_tellWords_126 sh_148 rfl (by decide) ?_
    refine mm_cast (g := (h.1, mm_rowL h.2.1 148 G8, h.2.2)) rfl rfl (by dsimp only; rw [mm_upL_row, eG8]; rfl) ?_
    refine mm_aload_n dX1_tellWords_127 rfl rfl ?_
    refine mm_getS dX1_tellWords_128 fX1_20 sh_145 rfl gr_145_5 ?_
    refine mm_bipush (x := 8) dX1_tellWords_131 (by decide) ?_
    refine mm_iload_n dX1_tellWords_133 rfl rfl ?_
    refine mm_i2l dX1_tellWords_134 rfl ?_
    refine mm_last (8) dX1_tellWords_135 sh_148 rfl (by decide) ?_
    refine mm_cast (g := (h.1, mm_rowL h.2.1 148 G9, h.2.2)) rfl rfl (by dsimp only; rw [mm_upL_row, eG9]; rfl) ?_
    refine mm_aload_n dX1_tellWords_136 rfl rfl ?_
    refine mm_getS dX1_tellWords_137 fX1_20 sh_145 rfl gr_145_5 ?_
    refine mm_bipush (x := 9) dX1_tellWords_140 (by decide) ?_
    refine mm_iload_n dX1_tellWords_142 rfl rfl ?_
    refine mm_i2l dX1_tellWords_143 rfl ?_
    refine mm_last (9) dX1_tellWords_144 sh_148 rfl (by decide) ?_
    refine mm_cast (g := (h.1, mm_rowL h.2.1 148 G10, h.2.2)) rfl rfl (by dsimp only; rw [mm_upL_row, eG10]; rfl) ?_
    exact mm_retE dX1_tellWords_145 rfl rfl
  · intro j hj
    rcases (show j = 0 ∨ j = 1 ∨ j = 2 ∨ j = 3 ∨ j = 4 ∨ j = 5 ∨ j = 6 ∨ j = 7 ∨ j = 8 ∨ j = 9 by omega) with rfl | rfl | rfl | rfl | rfl | rfl | rfl | rfl | rfl | rfl <;> simp [eG1, eG2, eG3, eG4, eG5, eG6, eG7, eG8, eG9, eG10, vp_updL]
