/-! Rounds: the class. -/
def nlz_e (x : Int32) : Int32 :=
  let s1 : Int32 × Int32 := if x < 256 then (x, 31) else (sp_us x 8, 31 + Int32.ofInt (-8))
  let s2 : Int32 × Int32 := if s1.1 < 16 then s1 else (sp_us s1.1 4, s1.2 + Int32.ofInt (-4))
  let s3 : Int32 × Int32 := if s2.1 < 4 then s2 else (sp_us s2.1 2, s2.2 + Int32.ofInt (-2))
  s3.2 - sp_us s3.1 1
set_option maxRecDepth 100000 in
theorem nlz_ok {a : Nat} (ha : a < 1024) : a = 0 ∨ nlz_e (nI a) = nI (31 - a.log2) := co_dec (N := 1024) (P := fun a => a = 0 ∨ nlz_e (nI a) = nI (31 - a.log2)) (by decide +kernel) ha
set_option maxRecDepth 100000 in
set_option maxHeartbeats 4000000 in
theorem mJ6_numberOfLeadingZeros_0f7a4 (d : Nat) (h : mm_H) (a : Nat) (ha : a < 1024) (h0 : ¬ a = 0) : mm_M d YJ6_numberOfLeadingZeros_0f7a4 [.int (nI a)] h (some (.int (nI (31 - a.log2)))) h := by
  refine mm_M.of [some (.int (nI a)), none] rfl rfl (Nat.le_of_ble_eq_true rfl) ?_
  refine mm_iload_n dJ6_numberOfLeadingZeros_0f7a4_0 rfl rfl ?_
  refine mm_if_gt 15 dJ6_numberOfLeadingZeros_0f7a4_1 (by decide) (fun c_1 => ?_) (fun c_1 => ?_)
  · refine mm_bipush (x := 31) dJ6_numberOfLeadingZeros_0f7a4_15 (by decide) ?_
    refine mm_istore_n dJ6_numberOfLeadingZeros_0f7a4_17 rfl (by decide) rfl ?_
    refine mm_iload_n dJ6_numberOfLeadingZeros_0f7a4_18 rfl rfl ?_
    refine mm_ldcw dJ6_numberOfLeadingZeros_0f7a4_19 kJ6_264 ?_
    refine mm_icmp_lt 33 dJ6_numberOfLeadingZeros_0f7a4_22 (by decide) (fun c_22 => ?_) (fun c_22 => ?_)
    · refine mm_iload_n dJ6_numberOfLeadingZeros_0f7a4_33 rfl rfl ?_
      refine mm_sipush (x := 256) dJ6_numberOfLeadingZeros_0f7a4_34 (by decide) ?_
      refine mm_icmp_lt 48 dJ6_numberOfLeadingZeros_0f7a4_37 (by decide) (fun c_37 => ?_) (fun c_37 => ?_)
      · refine mm_iload_n dJ6_numberOfLeadingZeros_0f7a4_48 rfl rfl ?_
        refine mm_bipush (x := 16) dJ6_numberOfLeadingZeros_0f7a4_49 (by decide) ?_
        refine mm_icmp_lt 61 dJ6_numberOfLeadingZeros_0f7a4_51 (by decide) (fun c_51 => ?_) (fun c_51 => ?_)
        · refine mm_iload_n dJ6_numberOfLeadingZeros_0f7a4_61 rfl rfl ?_
          refine mm_iconst (x := 4) dJ6_numberOfLeadingZeros_0f7a4_62 (by decide) ?_
          refine mm_icmp_lt 73 dJ6_numberOfLeadingZeros_0f7a4_63 (by decide) (fun c_63 => ?_) (fun c_63 => ?_)
          · refine mm_iload_n dJ6_numberOfLeadingZeros_0f7a4_73 rfl rfl ?_
            refine mm_iload_n dJ6_numberOfLeadingZeros_0f7a4_74 rfl rfl ?_
            refine mm_iconst (x := 1) dJ6_numberOfLeadingZeros_0f7a4_75 (by decide) ?_
            refine mm_iushr dJ6_numberOfLeadingZeros_0f7a4_76 rfl ?_
            refine mm_isub dJ6_numberOfLeadingZeros_0f7a4_77 ?_
            exact mm_iretE dJ6_numberOfLeadingZeros_0f7a4_78 rfl (by rw [← (nlz_ok ha).resolve_left h0]; simp only [nlz_e, sp_us, c_37, c_51, c_63, if_true, if_false]) rfl
          · refine mm_iinc dJ6_numberOfLeadingZeros_0f7a4_66 rfl rfl rfl ?_
            refine mm_iload_n dJ6_numberOfLeadingZeros_0f7a4_69 rfl rfl ?_
            refine mm_iconst (x := 2) dJ6_numberOfLeadingZeros_0f7a4_70 (by decide) ?_
            refine mm_iushr dJ6_numberOfLeadingZeros_0f7a4_71 rfl ?_
            refine mm_istore_n dJ6_numberOfLeadingZeros_0f7a4_72 rfl (by decide) rfl ?_
            refine mm_iload_n dJ6_numberOfLeadingZeros_0f7a4_73 rfl rfl ?_
            refine mm_iload_n dJ6_numberOfLeadingZeros_0f7a4_74 rfl rfl ?_
            refine mm_iconst (x := 1) dJ6_numberOfLeadingZeros_0f7a4_75 (by decide) ?_
            refine mm_iushr dJ6_numberOfLeadingZeros_0f7a4_76 rfl ?_
            refine mm_isub dJ6_numberOfLeadingZeros_0f7a4_77 ?_
            exact mm_iretE dJ6_numberOfLeadingZeros_0f7a4_78 rfl (by rw [← (nlz_ok ha).resolve_left h0]; simp only [nlz_e, sp_us, c_37, c_51, c_63, if_true, if_false]) rfl
        · refine mm_iinc dJ6_numberOfLeadingZeros_0f7a4_54 rfl rfl rfl ?_
          refine mm_iload_n dJ6_numberOfLeadingZeros_0f7a4_57 rfl rfl ?_
          refine mm_iconst (x := 4) dJ6_numberOfLeadingZeros_0f7a4_58 (by decide) ?_
          refine mm_iushr dJ6_numberOfLeadingZeros_0f7a4_59 rfl ?_
          refine mm_istore_n dJ6_numberOfLeadingZeros_0f7a4_60 rfl (by decide) rfl ?_
          refine mm_iload_n dJ6_numberOfLeadingZeros_0f7a4_61 rfl rfl ?_
          refine mm_iconst (x := 4) dJ6_numberOfLeadingZeros_0f7a4_62 (by decide) ?_
          refine mm_icmp_lt 73 dJ6_numberOfLeadingZeros_0f7a4_63 (by decide) (fun c_63 => ?_) (fun c_63 => ?_)
          · refine mm_iload_n dJ6_numberOfLeadingZeros_0f7a4_73 rfl rfl ?_
            refine mm_iload_n dJ6_numberOfLeadingZeros_0f7a4_74 rfl rfl ?_
            refine mm_iconst (x := 1) dJ6_numberOfLeadingZeros_0f7a4_75 (by decide) ?_
            refine mm_iushr dJ6_numberOfLeadingZeros_0f7a4_76 rfl ?_
            refine mm_isub dJ6_numberOfLeadingZeros_0f7a4_77 ?_
            exact mm_iretE dJ6_numberOfLeadingZeros_0f7a4_78 rfl (by rw [← (nlz_ok ha).resolve_left h0]; simp only [nlz_e, sp_us, c_37, c_51, c_63, if_true, if_false]) rfl
          · refine mm_iinc dJ6_numberOfLeadingZeros_0f7a4_66 rfl rfl rfl ?_
            refine mm_iload_n dJ6_numberOfLeadingZeros_0f7a4_69 rfl rfl ?_
            refine mm_iconst (x := 2) dJ6_numberOfLeadingZeros_0f7a4_70 (by decide) ?_
            refine mm_iushr dJ6_numberOfLeadingZeros_0f7a4_71 rfl ?_
            refine mm_istore_n dJ6_numberOfLeadingZeros_0f7a4_72 rfl (by decide) rfl ?_
            refine mm_iload_n dJ6_numberOfLeadingZeros_0f7a4_73 rfl rfl ?_
            refine mm_iload_n dJ6_numberOfLeadingZeros_0f7a4_74 rfl rfl ?_
            refine mm_iconst (x := 1) dJ6_numberOfLeadingZeros_0f7a4_75 (by decide) ?_
            refine mm_iushr dJ6_numberOfLeadingZeros_0f7a4_76 rfl ?_
            refine mm_isub dJ6_numberOfLeadingZeros_0f7a4_77 ?_
            exact mm_iretE dJ6_numberOfLeadingZeros_0f7a4_78 rfl (by rw [← (nlz_ok ha).resolve_left h0]; simp only [nlz_e, sp_us, c_37, c_51, c_63, if_true, if_false]) rfl
      · refine mm_iinc dJ6_numberOfLeadingZeros_0f7a4_40 rfl rfl rfl ?_
        refine mm_iload_n dJ6_numberOfLeadingZeros_0f7a4_43 rfl rfl ?_
        refine mm_bipush (x := 8) dJ6_numberOfLeadingZeros_0f7a4_44 (by decide) ?_
        refine mm_iushr dJ6_numberOfLeadingZeros_0f7a4_46 rfl ?_
        refine mm_istore_n dJ6_numberOfLeadingZeros_0f7a4_47 rfl (by decide) rfl ?_
        refine mm_iload_n dJ6_numberOfLeadingZeros_0f7a4_48 rfl rfl ?_
        refine mm_bipush (x := 16) dJ6_numberOfLeadingZeros_0f7a4_49 (by decide) ?_
        refine mm_icmp_lt 61 dJ6_numberOfLeadingZeros_0f7a4_51 (by decide) (fun c_51 => ?_) (fun c_51 => ?_)
        · refine mm_iload_n dJ6_numberOfLeadingZeros_0f7a4_61 rfl rfl ?_
          refine mm_iconst (x := 4) dJ6_numberOfLeadingZeros_0f7a4_62 (by decide) ?_
          refine mm_icmp_lt 73 dJ6_numberOfLeadingZeros_0f7a4_63 (by decide) (fun c_63 => ?_) (fun c_63 => ?_)
          · refine mm_iload_n dJ6_numberOfLeadingZeros_0f7a4_73 rfl rfl ?_
            refine mm_iload_n dJ6_numberOfLeadingZeros_0f7a4_74 rfl rfl ?_
            refine mm_iconst (x := 1) dJ6_numberOfLeadingZeros_0f7a4_75 (by decide) ?_
            refine mm_iushr dJ6_numberOfLeadingZeros_0f7a4_76 rfl ?_
            refine mm_isub dJ6_numberOfLeadingZeros_0f7a4_77 ?_
            exact mm_iretE dJ6_numberOfLeadingZeros_0f7a4_78 rfl (by rw [← (nlz_ok ha).resolve_left h0]; simp only [nlz_e, sp_us, c_37, c_51, c_63, if_true, if_false]) rfl
          · refine mm_iinc dJ6_numberOfLeadingZeros_0f7a4_66 rfl rfl rfl ?_
            refine mm_iload_n dJ6_numberOfLeadingZeros_0f7a4_69 rfl rfl ?_
            refine mm_iconst (x := 2) dJ6_numberOfLeadingZeros_0f7a4_70 (by decide) ?_
            refine mm_iushr dJ6_numberOfLeadingZeros_0f7a4_71 rfl ?_
            refine mm_istore_n dJ6_numberOfLeadingZeros_0f7a4_72 rfl (by decide) rfl ?_
            refine mm_iload_n dJ6_numberOfLeadingZeros_0f7a4_73 rfl rfl ?_
            refine mm_iload_n dJ6_numberOfLeadingZeros_0f7a4_74 rfl rfl ?_
            refine mm_iconst (x := 1) dJ6_numberOfLeadingZeros_0f7a4_75 (by decide) ?_
            refine mm_iushr dJ6_numberOfLeadingZeros_0f7a4_76 rfl ?_
            refine mm_isub dJ6_numberOfLeadingZeros_0f7a4_77 ?_
            exact mm_iretE dJ6_numberOfLeadingZeros_0f7a4_78 rfl (by rw [← (nlz_ok ha).resolve_left h0]; simp only [nlz_e, sp_us, c_37, c_51, c_63, if_true, if_false]) rfl
        · refine mm_iinc dJ6_numberOfLeadingZeros_0f7a4_54 rfl rfl rfl ?_
          refine mm_iload_n dJ6_numberOfLeadingZeros_0f7a4_57 rfl rfl ?_
          refine mm_iconst (x := 4) dJ6_numberOfLeadingZeros_0f7a4_58 (by decide) ?_
          refine mm_iushr dJ6_numberOfLeadingZeros_0f7a4_59 rfl ?_
          refine mm_istore_n dJ6_numberOfLeadingZeros_0f7a4_60 rfl (by decide) rfl ?_
          refine mm_iload_n dJ6_numberOfLeadingZeros_0f7a4_61 rfl rfl ?_
          refine mm_iconst (x := 4) dJ6_numberOfLeadingZeros_0f7a4_62 (by decide) ?_
          refine mm_icmp_lt 73 dJ6_numberOfLeadingZeros_0f7a4_63 (by decide) (fun c_63 => ?_) (fun c_63 => ?_)
          · refine mm_iload_n dJ6_numberOfLeadingZeros_0f7a4_73 rfl rfl ?_
            refine mm_iload_n dJ6_numberOfLeadingZeros_0f7a4_74 rfl rfl ?_
            refine mm_iconst (x := 1) dJ6_numberOfLeadingZeros_0f7a4_75 (by decide) ?_
            refine mm_iushr dJ6_numberOfLeadingZeros_0f7a4_76 rfl ?_
            refine mm_isub dJ6_numberOfLeadingZeros_0f7a4_77 ?_
            exact mm_iretE dJ6_numberOfLeadingZeros_0f7a4_78 rfl (by rw [← (nlz_ok ha).resolve_left h0]; simp only [nlz_e, sp_us, c_37, c_51, c_63, if_true, if_false]) rfl
          · refine mm_iinc dJ6_numberOfLeadingZeros_0f7a4_66 rfl rfl rfl ?_
            refine mm_iload_n dJ6_numberOfLeadingZeros_0f7a4_69 rfl rfl ?_
            refine mm_iconst (x := 2) dJ6_numberOfLeadingZeros_0f7a4_70 (by decide) ?_
            refine mm_iushr dJ6_numberOfLeadingZeros_0f7a4_71 rfl ?_
            refine mm_istore_n dJ6_numberOfLeadingZeros_0f7a4_72 rfl (by decide) rfl ?_
            refine mm_iload_n dJ6_numberOfLeadingZeros_0f7a4_73 rfl rfl ?_
            refine mm_iload_n dJ6_numberOfLeadingZeros_0f7a4_74 rfl rfl ?_
            refine mm_iconst (x := 1) dJ6_numberOfLeadingZeros_0f7a4_75 (by decide) ?_
            refine mm_iushr dJ6_numberOfLeadingZeros_0f7a4_76 rfl ?_
            refine mm_isub dJ6_numberOfLeadingZeros_0f7a4_77 ?_
            exact mm_iretE dJ6_numberOfLeadingZeros_0f7a4_78 rfl (by rw [← (nlz_ok ha).resolve_left h0]; simp only [nlz_e, sp_us, c_37, c_51, c_63, if_true, if_false]) rfl
    · exact absurd (nI_lt (b := 65536) (by omega) (by decide)) c_22
  · exact absurd (by rw [Int32.lt_iff_toInt_lt, ti_0, nI_toInt (by omega)]; omega) c_1
theorem s31 {l : Nat} (h : l < 10) : (31 : Int32) - nI (31 - l) = nI l := by
  have H : ∀ l, l < 10 → (31 : Int32) - nI (31 - l) = nI l := by decide +kernel
  exact H l h
theorem min_nI {a b : Nat} (ha : a < 2 ^ 31) (hb : b < 2 ^ 31) : (if nI b < nI a then nI b else nI a) = nI (if b < a then b else a) := by
  by_cases c : b < a
  · rw [if_pos (nI_lt c ha), if_pos c]
  · rw [if_neg (nI_nlt (by omega) hb), if_neg c]
theorem p2m1 {n : Nat} (h : n ≤ 12) : nI (2 ^ n) - 1 = nI (2 ^ n - 1) := by
  have H : ∀ n, n < 13 → nI (2 ^ n) - 1 = nI (2 ^ n - 1) := by decide +kernel
  exact H n (by omega)
/-- no two of the set clash -/
def qt (R : Nat → Nat → Prop) (S : Nat) : Prop := ∀ i j, R i j → ¬ (S.testBit i = true ∧ S.testBit j = true)
theorem qt_c {R R2 : Nat → Nat → Prop} (e : ∀ i j, R2 i j ↔ R i j) : qt R2 = qt R := by
  have : R2 = R := by funext i j; exact propext (e i j)
  rw [this]
theorem qt_1 {R : Nat → Nat → Prop} (hR : ∀ i j, R i j → j < i) (i : Nat) : qt R (2 ^ i) := by
  intro a b hab ⟨h1, h2⟩
  rw [Nat.testBit_two_pow] at h1 h2
  have := of_decide_eq_true h1
  have := of_decide_eq_true h2
  have := hR a b hab
  omega
theorem qt_rest {R : Nat → Nat → Prop} (hR : ∀ i j, R i j → j < i) {S b M : Nat} (hb : S.testBit b = true) (ht : S < 2 ^ (b + 1)) (hM : ∀ j, (M.testBit j = true ↔ R b j)) : qt R S ↔ qt R (S ^^^ 2 ^ b) ∧ M &&& (S ^^^ 2 ^ b) = 0 := by
  have top : ∀ i, S.testBit i = true → i ≤ b := fun i hi => by
    by_cases c : i ≤ b
    · exact c
    · rw [Nat.testBit_lt_two_pow (Nat.lt_of_lt_of_le ht (Nat.pow_le_pow_right (by decide) (by omega)))] at hi; cases hi
  have rst : ∀ i, (S ^^^ 2 ^ b).testBit i = true ↔ S.testBit i = true ∧ ¬ i = b := fun i => by
    rw [xor_bit, Nat.testBit_two_pow]
    by_cases e : b = i
    · subst e; rw [hb]; simp
    · have : decide (b = i) = false := decide_eq_false e
      rw [this]
      constructor
      · intro z; exact ⟨by cases q : S.testBit i <;> simp_all, fun w => e w.symm⟩
      · intro z; rw [z.1]; decide
  constructor
  · intro hq
    refine ⟨fun i j hij z => hq i j hij ⟨((rst i).mp z.1).1, ((rst j).mp z.2).1⟩, ?_⟩
    apply Nat.eq_of_testBit_eq
    intro j
    rw [Nat.testBit_and, Nat.zero_testBit]
    by_cases c : M.testBit j = true
    · by_cases e : (S ^^^ 2 ^ b).testBit j = true
      · exact absurd ⟨hb, ((rst j).mp e).1⟩ (hq b j ((hM j).mp c))
      · rw [Bool.not_eq_true] at e; rw [e, Bool.and_false]
    · rw [Bool.not_eq_true] at c; rw [c, Bool.false_and]
  · rintro ⟨h1, h2⟩ i j hij ⟨z1, z2⟩
    by_cases e : i = b
    · subst e
      have q1 := (hM j).mpr hij
      have q2 := (rst j).mpr ⟨z2, by have := hR _ _ hij; omega⟩
      have := congrArg (fun x => x.testBit j) h2
      simp only [Nat.testBit_and, Nat.zero_testBit] at this
      rw [q1, q2] at this
      cases this
    · have l1 := hR i j hij
      have l2 := top i z1
      exact h1 i j hij ⟨(rst i).mpr ⟨z1, e⟩, (rst j).mpr ⟨z2, by omega⟩⟩
set_option maxRecDepth 100000 in
set_option maxHeartbeats 4000000 in
theorem mX2_fewestSplit (d : Nat) (h : mm_H) (q : Nat → Prop) (h1 : ∀ i, i < 10 → q (2 ^ i)) (S b : Nat) (hS : S < 1024) (hb : b < 10) (ht : S.testBit b = true) (rd : Nat → Nat) (hr : ∀ T, T < S → h.1 162 T = nI (rd T) ∧ lst q (rd T) T) (hq : ∀ T, T ≤ S → h.1 161 T = pI (q T)) : ∃ x, mm_M (d + 1) YX2_fewestSplit [.ref 159, .int (nI S), .int (nI (S ^^^ 2 ^ b))] h (some (.int (nI x))) h ∧ lst q x S := by
  suffices hE : mm_E (d + 1) YX2_fewestSplit 0 [some (.ref 159), some (.int (nI S)), some (.int (nI (S ^^^ 2 ^ b))), none, none, none, none] [] h (fun v g => ∃ x, v = some (.int (nI x)) ∧ g = h ∧ lst q x S) by
    obtain ⟨v, g, hR, x, rfl, rfl, h1⟩ := hE
    exact ⟨x, mm_M.of _ rfl rfl (Nat.le_of_ble_eq_true rfl) hR, h1⟩
  have hlt := xor_lt (sub_p2 ht) (p2_ne b)
  have hsb := xor_sub (sub_p2 ht)
  obtain ⟨W, eW⟩ : ∃ W, W = S ^^^ 2 ^ b := ⟨_, rfl⟩
  have fin : ∀ x, x ≤ 10 → (∀ L, sub L W → q (S ^^^ L) → x ≤ 1 + rd L) → (x = 10 ∨ ∃ L, sub L W ∧ q (S ^^^ L) ∧ x = 1 + rd L) → lst q x S := by
    intro x a1 a2 a3
    rw [eW] at a2 a3
    exact lst_cls h1 hS hb ht (fun T hT => (hr T hT).2) a1 a2 a3
  rw [← eW] at hlt hsb ⊢
  have hW4 : W < 4096 := by omega
  have hpc := pc_le hW4
  have hp2 : 2 ^ pc W ≤ 4096 := p2_lt hpc
  have hrd : ∀ T, T < S → rd T ≤ 10 := fun T hT => Nat.le_trans (lst_pc h1 (by omega) (hr T hT).2) (pc_10 (by omega))
  have K17 : ∀ m i, i + m = 2 ^ pc W → ∀ x, x ≤ 10 → (∀ i2, i2 < i → q (S ^^^ sbs W i2) → x ≤ 1 + rd (sbs W i2)) → (x = 10 ∨ ∃ i2, i2 < i ∧ q (S ^^^ sbs W i2) ∧ x = 1 + rd (sbs W i2)) → mm_E (d + 1) YX2_fewestSplit 17 [some (.ref 159), some (.int (nI S)), some (.int (nI W)), some (.int (nI x)), some (.int (nI (2 ^ pc W))), some (.int (nI (sbs W i))), some (.int (nI i))] [] h (fun v g => ∃ x, v = some (.int (nI x)) ∧ g = h ∧ lst q x S) := by
    intro m
    induction m with
    | zero =>
      intro i hi x a1 a2 a3
      have hi : i = 2 ^ pc W := by omega
      subst hi
      have hl : lst q x S := fin x a1 (fun L hL hq2 => by
        obtain ⟨j, j1, j2⟩ := sbs_onto hW4 hL
        have := a2 j j1 (by rw [j2]; exact hq2)
        rw [j2] at this
        exact this) (a3.imp id (fun ⟨i2, b1, b2, b3⟩ => ⟨_, sbs_sub W i2, b2, b3⟩))
      refine mm_Es (fun _ _ => mm_iload dX2_fewestSplit_17 rfl) ?_
      refine mm_Es (fun _ _ => mm_iload dX2_fewestSplit_19 rfl) ?_
      refine mm_Eb (fun _ _ => mm_icmp_ge 64 dX2_fewestSplit_21 (by decide)) (fun c_21 => ?_) (fun c_21 => ?_)
      · refine mm_Es (fun _ _ => mm_iload_n dX2_fewestSplit_64 rfl rfl) ?_
        refine mm_Er (mm_ireturn dX2_fewestSplit_65 rfl) ?_
        exact ⟨x, rfl, rfl, hl⟩
      · exact absurd (Int32.le_refl _) c_21
    | succ m ih =>
      intro i hi x a1 a2 a3
      have hin : i < 2 ^ pc W := by omega
      obtain ⟨t, et⟩ : ∃ t, t = sbs W i := ⟨_, rfl⟩
      have ht2 : sub t W := by rw [et]; exact sbs_sub W i
      have htl := sub_le ht2
      have htS : sub t S := by rw [sub_iff]; intro y hy; exact sub_bit hsb (sub_bit ht2 hy)
      have hnx : (nI t - nI W) &&& nI W = nI (sbs W (i + 1)) := by rw [et]; exact nxt_sbs hW4 hin
      have hxl : S ^^^ t ≤ S := sub_le (xor_sub htS)
      have eq1 := hq (S ^^^ t) hxl
      obtain ⟨er, -⟩ := hr t (by omega)
      have hrt := hrd t (by omega)
      by_cases hqt : q (S ^^^ t)
      · have K := ih (i + 1) (by omega) (if 1 + rd t < x then 1 + rd t else x) (by split <;> omega) (fun i2 h2 hq2 => by
          by_cases z : i2 = i
          · rw [z, ← et]; split <;> omega
          · have := a2 i2 (by omega) hq2
            split <;> omega) (by
          split
          · exact Or.inr ⟨i, by omega, by rw [← et]; exact hqt, by rw [← et]⟩
          · exact a3.imp id (fun ⟨i2, b1, b2, b3⟩ => ⟨i2, by omega, b2, b3⟩))
        rw [← et]
        refine mm_Es (fun _ _ => mm_iload dX2_fewestSplit_17 rfl) ?_
        refine mm_Es (fun _ _ => mm_iload dX2_fewestSplit_19 rfl) ?_
        refine mm_Eb (fun _ _ => mm_icmp_ge 64 dX2_fewestSplit_21 (by decide)) (fun c_21 => ?_) (fun c_21 => ?_)
        · exact absurd c_21 (nI_ge hin (by omega))
        · refine mm_Es (fun _ _ => mm_aload_n dX2_fewestSplit_24 rfl rfl) ?_
          refine mm_Es (fun _ _ => mm_getS dX2_fewestSplit_25 fX2_15 sh_159 rfl gr_159_3) ?_
          refine mm_Es (fun _ _ => mm_iload_n dX2_fewestSplit_28 rfl rfl) ?_
          refine mm_Es (fun _ _ => mm_iload dX2_fewestSplit_29 rfl) ?_
          refine mm_Es (fun _ _ => mm_ixor dX2_fewestSplit_31) ?_
          refine mm_Es (fun _ _ => mm_zald ((S ^^^ t)) dX2_fewestSplit_32 sh_161 (nI_lxor _ _) (by omega)) ?_
          refine mm_Eb (fun _ _ => mm_if_eq 50 dX2_fewestSplit_33 (by decide)) (fun c_33 => ?_) (fun c_33 => ?_)
          · exact absurd hqt (pI_e0.mp (eq1.symm.trans c_33))
          · refine mm_Es (fun _ _ => mm_iload_n dX2_fewestSplit_36 rfl rfl) ?_
            refine mm_Es (fun _ _ => mm_iconst (x := 1) dX2_fewestSplit_37 (by decide)) ?_
            refine mm_Es (fun _ _ => mm_aload_n dX2_fewestSplit_38 rfl rfl) ?_
            refine mm_Es (fun _ _ => mm_getS dX2_fewestSplit_39 fX2_19 sh_159 rfl gr_159_4) ?_
            refine mm_Es (fun _ _ => mm_iload dX2_fewestSplit_42 rfl) ?_
            refine mm_Es (fun _ _ => mm_iald (t) dX2_fewestSplit_44 sh_162 rfl (by omega)) ?_
            refine mm_Es (fun _ _ => mm_iadd dX2_fewestSplit_45) ?_
            refine mm_Es (fun _ _ => mm_minI dX2_fewestSplit_46 lX2_67 (by simp [Value.category])) ?_
            refine mm_Es (fun _ _ => mm_cast (st' := [.int (nI (if 1 + rd t < x then 1 + rd t else x))]) rfl (by rw [er, show (1 : Int32) + nI (rd t) = nI (1 + rd t) from nI_add 1 (rd t), min_nI (by omega) (by omega)]) rfl) ?_
            refine mm_Es (fun _ _ => mm_istore_n dX2_fewestSplit_49 rfl (by decide) rfl) ?_
            refine mm_Es (fun _ _ => mm_iload dX2_fewestSplit_50 rfl) ?_
            refine mm_Es (fun _ _ => mm_iload_n dX2_fewestSplit_52 rfl rfl) ?_
            refine mm_Es (fun _ _ => mm_cSN (Y1 := YX10_nextWithin) dX2_fewestSplit_53 (List.Mem.tail _ (List.Mem.head _)) sX10_nextWithin (mX10_nextWithin d h (nI t) (nI W)) rfl rfl (by simp [Value.category])) ?_
            refine mm_Es (fun _ _ => mm_cast (st' := [.int (nI (sbs W (i + 1)))]) rfl (by rw [hnx]; rfl) rfl) ?_
            refine mm_Es (fun _ _ => mm_istore dX2_fewestSplit_56 (by decide) rfl) ?_
            refine mm_Es (fun _ _ => mm_iinc dX2_fewestSplit_58 rfl (nI_inc i) rfl) ?_
            refine mm_Es (fun _ _ => mm_goto 17 dX2_fewestSplit_61 (by decide)) ?_
            exact K
      · have K := ih (i + 1) (by omega) x a1 (fun i2 h2 hq2 => by
          by_cases z : i2 = i
          · rw [z, ← et] at hq2; exact absurd hq2 hqt
          · exact a2 i2 (by omega) hq2) (a3.imp id (fun ⟨i2, b1, b2, b3⟩ => ⟨i2, by omega, b2, b3⟩))
        rw [← et]
        refine mm_Es (fun _ _ => mm_iload dX2_fewestSplit_17 rfl) ?_
        refine mm_Es (fun _ _ => mm_iload dX2_fewestSplit_19 rfl) ?_
        refine mm_Eb (fun _ _ => mm_icmp_ge 64 dX2_fewestSplit_21 (by decide)) (fun c_21 => ?_) (fun c_21 => ?_)
        · exact absurd c_21 (nI_ge hin (by omega))
        · refine mm_Es (fun _ _ => mm_aload_n dX2_fewestSplit_24 rfl rfl) ?_
          refine mm_Es (fun _ _ => mm_getS dX2_fewestSplit_25 fX2_15 sh_159 rfl gr_159_3) ?_
          refine mm_Es (fun _ _ => mm_iload_n dX2_fewestSplit_28 rfl rfl) ?_
          refine mm_Es (fun _ _ => mm_iload dX2_fewestSplit_29 rfl) ?_
          refine mm_Es (fun _ _ => mm_ixor dX2_fewestSplit_31) ?_
          refine mm_Es (fun _ _ => mm_zald ((S ^^^ t)) dX2_fewestSplit_32 sh_161 (nI_lxor _ _) (by omega)) ?_
          refine mm_Eb (fun _ _ => mm_if_eq 50 dX2_fewestSplit_33 (by decide)) (fun c_33 => ?_) (fun c_33 => ?_)
          · refine mm_Es (fun _ _ => mm_iload dX2_fewestSplit_50 rfl) ?_
            refine mm_Es (fun _ _ => mm_iload_n dX2_fewestSplit_52 rfl rfl) ?_
            refine mm_Es (fun _ _ => mm_cSN (Y1 := YX10_nextWithin) dX2_fewestSplit_53 (List.Mem.tail _ (List.Mem.head _)) sX10_nextWithin (mX10_nextWithin d h (nI t) (nI W)) rfl rfl (by simp [Value.category])) ?_
            refine mm_Es (fun _ _ => mm_cast (st' := [.int (nI (sbs W (i + 1)))]) rfl (by rw [hnx]; rfl) rfl) ?_
            refine mm_Es (fun _ _ => mm_istore dX2_fewestSplit_56 (by decide) rfl) ?_
            refine mm_Es (fun _ _ => mm_iinc dX2_fewestSplit_58 rfl (nI_inc i) rfl) ?_
            refine mm_Es (fun _ _ => mm_goto 17 dX2_fewestSplit_61 (by decide)) ?_
            exact K
          · exact absurd (pI_n0.mp (fun z => c_33 (eq1.trans z))) hqt
  have K := K17 (2 ^ pc W) 0 (by omega) 10 (by omega) (fun i2 h2 => by omega) (Or.inl rfl)
  rw [sbs_0] at K
  refine mm_Es (fun _ _ => mm_bipush (x := 10) dX2_fewestSplit_0 (by decide)) ?_
  refine mm_Es (fun _ _ => mm_istore_n dX2_fewestSplit_2 rfl (by decide) rfl) ?_
  refine mm_Es (fun _ _ => mm_iconst (x := 1) dX2_fewestSplit_3 (by decide)) ?_
  refine mm_Es (fun _ _ => mm_iload_n dX2_fewestSplit_4 rfl rfl) ?_
  refine mm_Es (fun _ _ => mm_cS (Y1 := YJ6_bitCount_0f7a4) dX2_fewestSplit_5 lX2_36 sJ6_bitCount_0f7a4 (mJ6_bitCount_0f7a4 d h W hW4) rfl rfl (by simp [Value.category])) ?_
  refine mm_Es (fun _ _ => mm_ishl dX2_fewestSplit_8) ?_
  refine mm_Es (fun _ _ => mm_cast (st' := [.int (nI (2 ^ pc W))]) rfl (by rw [sh1 hpc]) rfl) ?_
  refine mm_Es (fun _ _ => mm_istore dX2_fewestSplit_9 (by decide) rfl) ?_
  refine mm_Es (fun _ _ => mm_iconst (x := 0) dX2_fewestSplit_11 (by decide)) ?_
  refine mm_Es (fun _ _ => mm_istore dX2_fewestSplit_12 (by decide) rfl) ?_
  refine mm_Es (fun _ _ => mm_iconst (x := 0) dX2_fewestSplit_14 (by decide)) ?_
  refine mm_Es (fun _ _ => mm_istore dX2_fewestSplit_15 (by decide) rfl) ?_
  exact K
set_option maxRecDepth 100000 in
set_option maxHeartbeats 4000000 in
theorem mX2_fewestRounds (d : Nat) (h : mm_H) (n : Nat) (hn : n ≤ 10) (h61 : h.1 61 5 = nI n) (R : Nat → Nat → Prop) (hR : ∀ i j, R i j → j < i) (hm : msk 160 R h) : ∃ x g, mm_M (d + 2) YX2_fewestRounds [.ref 159] h (some (.int (nI x))) g ∧ lst (qt R) x (2 ^ n - 1) ∧ frm (fun c => c == 161 || c == 162) h g := by
  suffices hE : mm_E (d + 2) YX2_fewestRounds 0 [some (.ref 159), none, none, none] [] h (fun v g => ∃ x, v = some (.int (nI x)) ∧ lst (qt R) x (2 ^ n - 1) ∧ frm (fun c => c == 161 || c == 162) h g) by
    obtain ⟨v, g, hR, x, rfl, h1⟩ := hE
    exact ⟨x, g, mm_M.of _ rfl rfl (Nat.le_of_ble_eq_true rfl) hR, h1⟩
  have hn2 : 2 ^ n ≤ 2 ^ 10 := Nat.pow_le_pow_right (by decide) hn
  have hn0 : 0 < 2 ^ n := Nat.pos_of_ne_zero (p2_ne n)
  have h1 : ∀ i, i < 10 → qt R (2 ^ i) := fun i _ => qt_1 hR i
  obtain ⟨M, hM⟩ := hm
  have K16 : ∀ m S, S + m = 2 ^ n → 1 ≤ S → ∀ gg, (frm (fun c => c == 161 || c == 162) h gg ∧ (∀ T, T < S → gg.1 161 T = pI (qt R T)) ∧ ∃ rd : Nat → Nat, ∀ T, T < S → gg.1 162 T = nI (rd T) ∧ lst (qt R) (rd T) T) → ∀ x2 x3, mm_E (d + 2) YX2_fewestRounds 16 [some (.ref 159), some (.int (nI S)), x2, x3] [] gg (fun v g => ∃ x, v = some (.int (nI x)) ∧ lst (qt R) x (2 ^ n - 1) ∧ frm (fun c => c == 161 || c == 162) h g) := by
    intro m
    induction m with
    | zero =>
      intro S hS hS1 gg st x2 x3
      have hS : S = 2 ^ n := by omega
      obtain ⟨fr, s1, rd, s2⟩ := st
      have e61 : gg.1 61 5 = nI n := by rw [fr.i rfl]; exact h61
      obtain ⟨er, hl⟩ := s2 (2 ^ n - 1) (by omega)
      rw [hS]
      refine mm_Es (fun _ _ => mm_iload_n dX2_fewestRounds_16 rfl rfl) ?_
      refine mm_Es (fun _ _ => mm_iconst (x := 1) dX2_fewestRounds_17 (by decide)) ?_
      refine mm_Es (fun _ _ => mm_aload_n dX2_fewestRounds_18 rfl rfl) ?_
      refine mm_Es (fun _ _ => mm_getS dX2_fewestRounds_19 fX2_28 sh_159 rfl gr_159_0) ?_
      refine mm_Es (fun _ _ => mm_getI dX2_fewestRounds_22 fX2_85 sh_61 rfl) ?_
      refine mm_Es (fun _ _ => mm_ishl dX2_fewestRounds_25) ?_
      refine mm_Es (fun _ _ => mm_cast (st' := [.int (nI (2 ^ n)), .int (nI (2 ^ n))]) rfl (by rw [e61, sh1 (by omega)]) rfl) ?_
      refine mm_Eb (fun _ _ => mm_icmp_ge 105 dX2_fewestRounds_26 (by decide)) (fun c_26 => ?_) (fun c_26 => ?_)
      · refine mm_Es (fun _ _ => mm_aload_n dX2_fewestRounds_105 rfl rfl) ?_
        refine mm_Es (fun _ _ => mm_getS dX2_fewestRounds_106 fX2_19 sh_159 rfl gr_159_4) ?_
        refine mm_Es (fun _ _ => mm_iconst (x := 1) dX2_fewestRounds_109 (by decide)) ?_
        refine mm_Es (fun _ _ => mm_aload_n dX2_fewestRounds_110 rfl rfl) ?_
        refine mm_Es (fun _ _ => mm_getS dX2_fewestRounds_111 fX2_28 sh_159 rfl gr_159_0) ?_
        refine mm_Es (fun _ _ => mm_getI dX2_fewestRounds_114 fX2_85 sh_61 rfl) ?_
        refine mm_Es (fun _ _ => mm_ishl dX2_fewestRounds_117) ?_
        refine mm_Es (fun _ _ => mm_iconst (x := 1) dX2_fewestRounds_118 (by decide)) ?_
        refine mm_Es (fun _ _ => mm_isub dX2_fewestRounds_119) ?_
        refine mm_Es (fun _ _ => mm_iald ((2 ^ n - 1)) dX2_fewestRounds_120 sh_162 (by rw [e61, sh1 (by omega), p2m1 (by omega)]) (by omega)) ?_
        refine mm_Er (mm_ireturn dX2_fewestRounds_121 rfl) ?_
        exact ⟨rd (2 ^ n - 1), by rw [er], hl, fr⟩
      · exact absurd (Int32.le_refl _) c_26
    | succ m ih =>
      intro S hS hS1 gg st x2 x3
      obtain ⟨fr, s1, rd, s2⟩ := st
      have e61 : gg.1 61 5 = nI n := by rw [fr.i rfl]; exact h61
      have hS10 : S < 1024 := by omega
      have hlt2 : S < 2 ^ n := by omega
      rcases lg_top hS10 with z | ⟨t1, t2, t3, t4, t5, t6, t7⟩
      · omega
      obtain ⟨b, eb⟩ : ∃ b, b = S.log2 := ⟨_, rfl⟩
      have MZ := mJ6_numberOfLeadingZeros_0f7a4 (d + 1) gg S hS10 (by omega)
      rw [← eb] at t1 t4 t6 MZ
      have hlt := xor_lt (sub_p2 t1) (p2_ne b)
      obtain ⟨m1, m2, m3⟩ := hM b t6
      have e160 : gg.1 160 b = nI (M b) := by rw [fr.i rfl]; exact m1
      have hqr := qt_rest hR t1 t4 m3
      obtain ⟨W, eW⟩ : ∃ W, W = S ^^^ 2 ^ b := ⟨_, rfl⟩
      have hMW : M b &&& W < 1024 := Nat.lt_of_le_of_lt Nat.and_le_left m2
      rw [← eW] at hlt hqr
      have eqw := s1 W hlt
      by_cases hqS : qt R S
      · have K := ih (S + 1) (by omega) (by omega) (mm_up (mm_up gg.1 161 S 1) 162 S 1, gg.2.1, gg.2.2) ⟨(fr.up (c := 161) rfl).up (c := 162) rfl, fun T hT => by
            dsimp only
            rw [mm_up_n (by decide)]
            by_cases z : T = S
            · rw [z, mm_up_e, pI_1 hqS]
            · rw [mm_up_k z]; exact s1 T (by omega), fun T => if T = S then 1 else rd T, fun T hT => by
            dsimp only
            by_cases z : T = S
            · rw [z, mm_up_e, if_pos rfl]; exact ⟨rfl, lst_1 hqS (by omega)⟩
            · rw [mm_up_k z, mm_up_n (by decide), if_neg z]; exact s2 T (by omega)⟩
        refine mm_Es (fun _ _ => mm_iload_n dX2_fewestRounds_16 rfl rfl) ?_
        refine mm_Es (fun _ _ => mm_iconst (x := 1) dX2_fewestRounds_17 (by decide)) ?_
        refine mm_Es (fun _ _ => mm_aload_n dX2_fewestRounds_18 rfl rfl) ?_
        refine mm_Es (fun _ _ => mm_getS dX2_fewestRounds_19 fX2_28 sh_159 rfl gr_159_0) ?_
        refine mm_Es (fun _ _ => mm_getI dX2_fewestRounds_22 fX2_85 sh_61 rfl) ?_
        refine mm_Es (fun _ _ => mm_ishl dX2_fewestRounds_25) ?_
        refine mm_Es (fun _ _ => mm_cast (st' := [.int (nI (2 ^ n)), .int (nI S)]) rfl (by rw [e61, sh1 (by omega)]) rfl) ?_
        refine mm_Eb (fun _ _ => mm_icmp_ge 105 dX2_fewestRounds_26 (by decide)) (fun c_26 => ?_) (fun c_26 => ?_)
        · exact absurd c_26 (nI_ge hlt2 (by omega))
        · refine mm_Es (fun _ _ => mm_bipush (x := 31) dX2_fewestRounds_29 (by decide)) ?_
          refine mm_Es (fun _ _ => mm_iload_n dX2_fewestRounds_31 rfl rfl) ?_
          refine mm_Es (fun _ _ => mm_cS (Y1 := YJ6_numberOfLeadingZeros_0f7a4) dX2_fewestRounds_32 lX2_98 sJ6_numberOfLeadingZeros_0f7a4 (MZ) rfl rfl (by simp [Value.category])) ?_
          refine mm_Es (fun _ _ => mm_isub dX2_fewestRounds_35) ?_
          refine mm_Es (fun _ _ => mm_cast (st' := [.int (nI b)]) rfl (by rw [s31 t6]) rfl) ?_
          refine mm_Es (fun _ _ => mm_istore_n dX2_fewestRounds_36 rfl (by decide) rfl) ?_
          refine mm_Es (fun _ _ => mm_iload_n dX2_fewestRounds_37 rfl rfl) ?_
          refine mm_Es (fun _ _ => mm_iconst (x := 1) dX2_fewestRounds_38 (by decide)) ?_
          refine mm_Es (fun _ _ => mm_iload_n dX2_fewestRounds_39 rfl rfl) ?_
          refine mm_Es (fun _ _ => mm_ishl dX2_fewestRounds_40) ?_
          refine mm_Es (fun _ _ => mm_ixor dX2_fewestRounds_41) ?_
          refine mm_Es (fun _ _ => mm_cast (st' := [.int (nI W)]) rfl (by rw [sh1 (by omega), nI_lxor, ← eW]) rfl) ?_
          refine mm_Es (fun _ _ => mm_istore_n dX2_fewestRounds_42 rfl (by decide) rfl) ?_
          refine mm_Es (fun _ _ => mm_aload_n dX2_fewestRounds_43 rfl rfl) ?_
          refine mm_Es (fun _ _ => mm_getS dX2_fewestRounds_44 fX2_15 sh_159 rfl gr_159_3) ?_
          refine mm_Es (fun _ _ => mm_iload_n dX2_fewestRounds_47 rfl rfl) ?_
          refine mm_Es (fun _ _ => mm_aload_n dX2_fewestRounds_48 rfl rfl) ?_
          refine mm_Es (fun _ _ => mm_getS dX2_fewestRounds_49 fX2_15 sh_159 rfl gr_159_3) ?_
          refine mm_Es (fun _ _ => mm_iload_n dX2_fewestRounds_52 rfl rfl) ?_
          refine mm_Es (fun _ _ => mm_zald (W) dX2_fewestRounds_53 sh_161 rfl (by omega)) ?_
          refine mm_Eb (fun _ _ => mm_if_eq 72 dX2_fewestRounds_54 (by decide)) (fun c_54 => ?_) (fun c_54 => ?_)
          · exact absurd (hqr.mp hqS).1 (pI_e0.mp (eqw.symm.trans c_54))
          · refine mm_Es (fun _ _ => mm_aload_n dX2_fewestRounds_57 rfl rfl) ?_
            refine mm_Es (fun _ _ => mm_getS dX2_fewestRounds_58 fX2_9 sh_159 rfl gr_159_2) ?_
            refine mm_Es (fun _ _ => mm_iload_n dX2_fewestRounds_61 rfl rfl) ?_
            refine mm_Es (fun _ _ => mm_iald (b) dX2_fewestRounds_62 sh_160 rfl (by omega)) ?_
            refine mm_Es (fun _ _ => mm_iload_n dX2_fewestRounds_63 rfl rfl) ?_
            refine mm_Es (fun _ _ => mm_iand dX2_fewestRounds_64) ?_
            refine mm_Es (fun _ _ => mm_cast (st' := [.int (nI (M b &&& W)), .int (nI S), .ref 161]) rfl (by rw [e160, nI_land]) rfl) ?_
            refine mm_Ebn (fun _ _ => mm_if_ne 72 dX2_fewestRounds_65 (by decide)) (fun c_65 => ?_) (fun c_65 => ?_)
            · exact absurd (by rw [(hqr.mp hqS).2]; rfl) c_65
            · refine mm_Es (fun _ _ => mm_iconst (x := 1) dX2_fewestRounds_68 (by decide)) ?_
              refine mm_Es (fun _ _ => mm_goto 73 dX2_fewestRounds_69 (by decide)) ?_
              refine mm_Es (fun _ _ => mm_zast (S) dX2_fewestRounds_73 sh_161 rfl (by omega) rfl) ?_
              refine mm_Es (fun _ _ => mm_aload_n dX2_fewestRounds_74 rfl rfl) ?_
              refine mm_Es (fun _ _ => mm_getS dX2_fewestRounds_75 fX2_19 sh_159 rfl gr_159_4) ?_
              refine mm_Es (fun _ _ => mm_iload_n dX2_fewestRounds_78 rfl rfl) ?_
              refine mm_Es (fun _ _ => mm_aload_n dX2_fewestRounds_79 rfl rfl) ?_
              refine mm_Es (fun _ _ => mm_getS dX2_fewestRounds_80 fX2_15 sh_159 rfl gr_159_3) ?_
              refine mm_Es (fun _ _ => mm_iload_n dX2_fewestRounds_83 rfl rfl) ?_
              refine mm_Es (fun _ _ => mm_zald (S) dX2_fewestRounds_84 sh_161 rfl (by omega)) ?_
              refine mm_Eb (fun _ _ => mm_if_eq 92 dX2_fewestRounds_85 (by decide)) (fun c_85 => ?_) (fun c_85 => ?_)
              · exact absurd (show mm_up gg.1 161 S 1 161 S = 0 from c_85) (by rw [mm_up_e]; decide)
              · refine mm_Es (fun _ _ => mm_iconst (x := 1) dX2_fewestRounds_88 (by decide)) ?_
                refine mm_Es (fun _ _ => mm_goto 98 dX2_fewestRounds_89 (by decide)) ?_
                refine mm_Es (fun _ _ => mm_iast (S) dX2_fewestRounds_98 sh_162 rfl (by omega)) ?_
                refine mm_Es (fun _ _ => mm_iinc dX2_fewestRounds_99 rfl (nI_inc S) rfl) ?_
                refine mm_Es (fun _ _ => mm_goto 16 dX2_fewestRounds_102 (by decide)) ?_
                exact K _ _
      · obtain ⟨g1, eg1⟩ : ∃ g1 : mm_H, g1 = (mm_up gg.1 161 S 0, gg.2.1, gg.2.2) := ⟨_, rfl⟩
        obtain ⟨y, MS, hl⟩ := mX2_fewestSplit d g1 (qt R) h1 S b hS10 t6 t1 rd (fun T hT => by rw [eg1]; dsimp only; rw [mm_up_n (by decide)]; exact s2 T hT) (fun T hT => by
          rw [eg1]; dsimp only
          by_cases z : T = S
          · rw [z, mm_up_e, pI_0 hqS]
          · rw [mm_up_k z]; exact s1 T (by omega))
        rw [← eW] at MS
        have K := ih (S + 1) (by omega) (by omega) (mm_up g1.1 162 S (nI y), g1.2.1, g1.2.2) ⟨by rw [eg1]; exact (fr.up (c := 161) rfl).up (c := 162) rfl, fun T hT => by
            dsimp only
            rw [mm_up_n (by decide), eg1]; dsimp only
            by_cases z : T = S
            · rw [z, mm_up_e, pI_0 hqS]
            · rw [mm_up_k z]; exact s1 T (by omega), fun T => if T = S then y else rd T, fun T hT => by
            dsimp only
            by_cases z : T = S
            · rw [z, mm_up_e, if_pos rfl]; exact ⟨rfl, hl⟩
            · rw [mm_up_k z, eg1]; dsimp only; rw [mm_up_n (by decide), if_neg z]; exact s2 T (by omega)⟩
        refine mm_Es (fun _ _ => mm_iload_n dX2_fewestRounds_16 rfl rfl) ?_
        refine mm_Es (fun _ _ => mm_iconst (x := 1) dX2_fewestRounds_17 (by decide)) ?_
        refine mm_Es (fun _ _ => mm_aload_n dX2_fewestRounds_18 rfl rfl) ?_
        refine mm_Es (fun _ _ => mm_getS dX2_fewestRounds_19 fX2_28 sh_159 rfl gr_159_0) ?_
        refine mm_Es (fun _ _ => mm_getI dX2_fewestRounds_22 fX2_85 sh_61 rfl) ?_
        refine mm_Es (fun _ _ => mm_ishl dX2_fewestRounds_25) ?_
        refine mm_Es (fun _ _ => mm_cast (st' := [.int (nI (2 ^ n)), .int (nI S)]) rfl (by rw [e61, sh1 (by omega)]) rfl) ?_
        refine mm_Eb (fun _ _ => mm_icmp_ge 105 dX2_fewestRounds_26 (by decide)) (fun c_26 => ?_) (fun c_26 => ?_)
        · exact absurd c_26 (nI_ge hlt2 (by omega))
        · refine mm_Es (fun _ _ => mm_bipush (x := 31) dX2_fewestRounds_29 (by decide)) ?_
          refine mm_Es (fun _ _ => mm_iload_n dX2_fewestRounds_31 rfl rfl) ?_
          refine mm_Es (fun _ _ => mm_cS (Y1 := YJ6_numberOfLeadingZeros_0f7a4) dX2_fewestRounds_32 lX2_98 sJ6_numberOfLeadingZeros_0f7a4 (MZ) rfl rfl (by simp [Value.category])) ?_
          refine mm_Es (fun _ _ => mm_isub dX2_fewestRounds_35) ?_
          refine mm_Es (fun _ _ => mm_cast (st' := [.int (nI b)]) rfl (by rw [s31 t6]) rfl) ?_
          refine mm_Es (fun _ _ => mm_istore_n dX2_fewestRounds_36 rfl (by decide) rfl) ?_
          refine mm_Es (fun _ _ => mm_iload_n dX2_fewestRounds_37 rfl rfl) ?_
          refine mm_Es (fun _ _ => mm_iconst (x := 1) dX2_fewestRounds_38 (by decide)) ?_
          refine mm_Es (fun _ _ => mm_iload_n dX2_fewestRounds_39 rfl rfl) ?_
          refine mm_Es (fun _ _ => mm_ishl dX2_fewestRounds_40) ?_
          refine mm_Es (fun _ _ => mm_ixor dX2_fewestRounds_41) ?_
          refine mm_Es (fun _ _ => mm_cast (st' := [.int (nI W)]) rfl (by rw [sh1 (by omega), nI_lxor, ← eW]) rfl) ?_
          refine mm_Es (fun _ _ => mm_istore_n dX2_fewestRounds_42 rfl (by decide) rfl) ?_
          refine mm_Es (fun _ _ => mm_aload_n dX2_fewestRounds_43 rfl rfl) ?_
          refine mm_Es (fun _ _ => mm_getS dX2_fewestRounds_44 fX2_15 sh_159 rfl gr_159_3) ?_
          refine mm_Es (fun _ _ => mm_iload_n dX2_fewestRounds_47 rfl rfl) ?_
          refine mm_Es (fun _ _ => mm_aload_n dX2_fewestRounds_48 rfl rfl) ?_
          refine mm_Es (fun _ _ => mm_getS dX2_fewestRounds_49 fX2_15 sh_159 rfl gr_159_3) ?_
          refine mm_Es (fun _ _ => mm_iload_n dX2_fewestRounds_52 rfl rfl) ?_
          refine mm_Es (fun _ _ => mm_zald (W) dX2_fewestRounds_53 sh_161 rfl (by omega)) ?_
          refine mm_Eb (fun _ _ => mm_if_eq 72 dX2_fewestRounds_54 (by decide)) (fun c_54 => ?_) (fun c_54 => ?_)
          · refine mm_Es (fun _ _ => mm_iconst (x := 0) dX2_fewestRounds_72 (by decide)) ?_
            refine mm_Es (fun _ _ => mm_zast (S) dX2_fewestRounds_73 sh_161 rfl (by omega) rfl) ?_
            refine mm_Ec rfl rfl eg1.symm ?_
            refine mm_Es (fun _ _ => mm_aload_n dX2_fewestRounds_74 rfl rfl) ?_
            refine mm_Es (fun _ _ => mm_getS dX2_fewestRounds_75 fX2_19 sh_159 rfl gr_159_4) ?_
            refine mm_Es (fun _ _ => mm_iload_n dX2_fewestRounds_78 rfl rfl) ?_
            refine mm_Es (fun _ _ => mm_aload_n dX2_fewestRounds_79 rfl rfl) ?_
            refine mm_Es (fun _ _ => mm_getS dX2_fewestRounds_80 fX2_15 sh_159 rfl gr_159_3) ?_
            refine mm_Es (fun _ _ => mm_iload_n dX2_fewestRounds_83 rfl rfl) ?_
            refine mm_Es (fun _ _ => mm_zald (S) dX2_fewestRounds_84 sh_161 rfl (by omega)) ?_
            refine mm_Eb (fun _ _ => mm_if_eq 92 dX2_fewestRounds_85 (by decide)) (fun c_85 => ?_) (fun c_85 => ?_)
            · refine mm_Es (fun _ _ => mm_aload_n dX2_fewestRounds_92 rfl rfl) ?_
              refine mm_Es (fun _ _ => mm_iload_n dX2_fewestRounds_93 rfl rfl) ?_
              refine mm_Es (fun _ _ => mm_iload_n dX2_fewestRounds_94 rfl rfl) ?_
              refine mm_Es (fun _ _ => mm_cV (Y1 := YX2_fewestSplit) dX2_fewestRounds_95 lX2_101 vX2_fewestSplit (MS) sh_159 rfl rfl (by simp [Value.category])) ?_
              refine mm_Es (fun _ _ => mm_iast (S) dX2_fewestRounds_98 sh_162 rfl (by omega)) ?_
              refine mm_Es (fun _ _ => mm_iinc dX2_fewestRounds_99 rfl (nI_inc S) rfl) ?_
              refine mm_Es (fun _ _ => mm_goto 16 dX2_fewestRounds_102 (by decide)) ?_
              exact K _ _
            · exact absurd (by rw [eg1]; dsimp only; rw [mm_up_e]) c_85
          · refine mm_Es (fun _ _ => mm_aload_n dX2_fewestRounds_57 rfl rfl) ?_
            refine mm_Es (fun _ _ => mm_getS dX2_fewestRounds_58 fX2_9 sh_159 rfl gr_159_2) ?_
            refine mm_Es (fun _ _ => mm_iload_n dX2_fewestRounds_61 rfl rfl) ?_
            refine mm_Es (fun _ _ => mm_iald (b) dX2_fewestRounds_62 sh_160 rfl (by omega)) ?_
            refine mm_Es (fun _ _ => mm_iload_n dX2_fewestRounds_63 rfl rfl) ?_
            refine mm_Es (fun _ _ => mm_iand dX2_fewestRounds_64) ?_
            refine mm_Es (fun _ _ => mm_cast (st' := [.int (nI (M b &&& W)), .int (nI S), .ref 161]) rfl (by rw [e160, nI_land]) rfl) ?_
            refine mm_Ebn (fun _ _ => mm_if_ne 72 dX2_fewestRounds_65 (by decide)) (fun c_65 => ?_) (fun c_65 => ?_)
            · refine mm_Es (fun _ _ => mm_iconst (x := 0) dX2_fewestRounds_72 (by decide)) ?_
              refine mm_Es (fun _ _ => mm_zast (S) dX2_fewestRounds_73 sh_161 rfl (by omega) rfl) ?_
              refine mm_Ec rfl rfl eg1.symm ?_
              refine mm_Es (fun _ _ => mm_aload_n dX2_fewestRounds_74 rfl rfl) ?_
              refine mm_Es (fun _ _ => mm_getS dX2_fewestRounds_75 fX2_19 sh_159 rfl gr_159_4) ?_
              refine mm_Es (fun _ _ => mm_iload_n dX2_fewestRounds_78 rfl rfl) ?_
              refine mm_Es (fun _ _ => mm_aload_n dX2_fewestRounds_79 rfl rfl) ?_
              refine mm_Es (fun _ _ => mm_getS dX2_fewestRounds_80 fX2_15 sh_159 rfl gr_159_3) ?_
              refine mm_Es (fun _ _ => mm_iload_n dX2_fewestRounds_83 rfl rfl) ?_
              refine mm_Es (fun _ _ => mm_zald (S) dX2_fewestRounds_84 sh_161 rfl (by omega)) ?_
              refine mm_Eb (fun _ _ => mm_if_eq 92 dX2_fewestRounds_85 (by decide)) (fun c_85 => ?_) (fun c_85 => ?_)
              · refine mm_Es (fun _ _ => mm_aload_n dX2_fewestRounds_92 rfl rfl) ?_
                refine mm_Es (fun _ _ => mm_iload_n dX2_fewestRounds_93 rfl rfl) ?_
                refine mm_Es (fun _ _ => mm_iload_n dX2_fewestRounds_94 rfl rfl) ?_
                refine mm_Es (fun _ _ => mm_cV (Y1 := YX2_fewestSplit) dX2_fewestRounds_95 lX2_101 vX2_fewestSplit (MS) sh_159 rfl rfl (by simp [Value.category])) ?_
                refine mm_Es (fun _ _ => mm_iast (S) dX2_fewestRounds_98 sh_162 rfl (by omega)) ?_
                refine mm_Es (fun _ _ => mm_iinc dX2_fewestRounds_99 rfl (nI_inc S) rfl) ?_
                refine mm_Es (fun _ _ => mm_goto 16 dX2_fewestRounds_102 (by decide)) ?_
                exact K _ _
              · exact absurd (by rw [eg1]; dsimp only; rw [mm_up_e]) c_85
            · exact absurd (hqr.mpr ⟨pI_n0.mp (fun z => c_54 (eqw.trans z)), (nI_eq (b := 0) (by omega) (by omega)).mp c_65⟩) hqS
  have K := K16 (2 ^ n - 1) 1 (by omega) (by omega) (mm_up (mm_up h.1 161 0 1) 162 0 0, h.2.1, h.2.2) ⟨((frm.refl _ h).up (c := 161) rfl).up (c := 162) rfl, fun T hT => by
      have : T = 0 := by omega
      subst this
      dsimp only
      rw [mm_up_n (by decide), mm_up_e, pI_1]
      intro i j _ z; simp at z, fun _ => 0, fun T hT => by
      have : T = 0 := by omega
      subst this
      dsimp only
      rw [mm_up_e]
      exact ⟨rfl, lst_0⟩⟩ none none
  refine mm_Es (fun _ _ => mm_aload_n dX2_fewestRounds_0 rfl rfl) ?_
  refine mm_Es (fun _ _ => mm_getS dX2_fewestRounds_1 fX2_15 sh_159 rfl gr_159_3) ?_
  refine mm_Es (fun _ _ => mm_iconst (x := 0) dX2_fewestRounds_4 (by decide)) ?_
  refine mm_Es (fun _ _ => mm_iconst (x := 1) dX2_fewestRounds_5 (by decide)) ?_
  refine mm_Es (fun _ _ => mm_zast (0) dX2_fewestRounds_6 sh_161 rfl (by decide) rfl) ?_
  refine mm_Es (fun _ _ => mm_aload_n dX2_fewestRounds_7 rfl rfl) ?_
  refine mm_Es (fun _ _ => mm_getS dX2_fewestRounds_8 fX2_19 sh_159 rfl gr_159_4) ?_
  refine mm_Es (fun _ _ => mm_iconst (x := 0) dX2_fewestRounds_11 (by decide)) ?_
  refine mm_Es (fun _ _ => mm_iconst (x := 0) dX2_fewestRounds_12 (by decide)) ?_
  refine mm_Es (fun _ _ => mm_iast (0) dX2_fewestRounds_13 sh_162 rfl (by decide)) ?_
  refine mm_Es (fun _ _ => mm_iconst (x := 1) dX2_fewestRounds_14 (by decide)) ?_
  refine mm_Es (fun _ _ => mm_istore_n dX2_fewestRounds_15 rfl (by decide) rfl) ?_
  exact K
theorem aimC2 (d : Nat) (h : mm_H) (A : MD) (LQ : Nat → LD) (nl G : Nat) (S : stC A LQ nl h G) (r k : Nat) (hr : r < nl) (hk : k < mk A) : ∃ g, mm_M (d + 1) YX0_aim [.ref 135, .ref (25 + 6 * r), .int (nI k)] h none g ∧ aimedAt A LQ r k g ∧ gcn g G ∧ cfr h g ∧ ∀ c, pC c = false → g.1 c = h.1 c := by
  obtain ⟨hA, hV, h6, hn6, hL, ⟨hs1, r0, hr0, e0, hc⟩, hG⟩ := S
  by_cases he : r = r0 ∧ h.1 135 3 = nI k
  · obtain ⟨rfl, e3⟩ := he
    refine ⟨h, mX0_aim_s d h r k hr0 e0 e3, ?_, hG, cfr.refl h, fun _ _ => rfl⟩
    have h4 := hA.2.1
    rcases hc with hc | ⟨k2, hk2, -, ha⟩
    · rw [e3] at hc
      have := nI_toInt (show k < 2 ^ 31 by omega)
      rw [hc, ti_m1] at this
      omega
    · have : k2 = k := nI_inj (by omega) (by omega) (ha.2.2.symm.trans e3)
      subst this
      exact ha
  · obtain ⟨g, M, a1, a2, a3, a4, a5⟩ := mX0_aim_n d h A hA hV (LQ r) r (by omega) (hL r hr).2 k r0 hr0 e0 he hs1
    exact ⟨g, M, ⟨a1, a2, a3⟩, gcn_c hG (a4.2.2 11 (by decide) (by decide)) (a4.1 142 rfl).1 (a4.1 143 rfl).1, a4.cfr, fun c hc => (a4.1 c hc).1⟩
set_option maxRecDepth 100000 in
set_option maxHeartbeats 4000000 in
theorem mX10_rounds_n (d : Nat) (h : mm_H) (A : MD) (LQ : Nat → LD) (nl G : Nat) (S : stC A LQ nl h G) (r w : Int32) (hb : ¬ ((0 ≤ r.toInt ∧ r.toInt < nl) ∧ (0 ≤ w.toInt ∧ w.toInt ≤ 1))) : mm_M (d + 2) YX10_rounds [.ref 0, .int r, .int w] h (some (.int (-1))) h := by
  refine mm_M.of [some (.ref 0), some (.int r), some (.int w), none, none] rfl rfl (Nat.le_of_ble_eq_true rfl) ?_
  refine mm_aload_n dX10_rounds_0 rfl rfl ?_
  refine mm_iload_n dX10_rounds_1 rfl rfl ?_
  refine mm_cV (Y1 := YX10_isLaw) dX10_rounds_2 lX10_274 vX10_isLaw (mX10_isLaw (d + 1) h nl S.2.2.1 S.2.2.2.1 r) sh_0 rfl rfl (by simp [Value.category]) ?_
  refine mm_if_eq 17 dX10_rounds_5 (by decide) (fun c_5 => ?_) (fun c_5 => ?_)
  · refine mm_iconst (x := (-1)) dX10_rounds_17 (by decide) ?_
    exact mm_iretE dX10_rounds_18 rfl rfl rfl
  · refine mm_iload_n dX10_rounds_8 rfl rfl ?_
    refine mm_if_lt 17 dX10_rounds_9 (by decide) (fun c_9 => ?_) (fun c_9 => ?_)
    · refine mm_iconst (x := (-1)) dX10_rounds_17 (by decide) ?_
      exact mm_iretE dX10_rounds_18 rfl rfl rfl
    · refine mm_iload_n dX10_rounds_12 rfl rfl ?_
      refine mm_iconst (x := 1) dX10_rounds_13 (by decide) ?_
      refine mm_icmp_le 19 dX10_rounds_14 (by decide) (fun c_14 => ?_) (fun c_14 => ?_)
      · exact absurd ⟨bI_n0.mp c_5, by rw [Int32.lt_iff_toInt_lt, ti_0] at c_9; omega, by rw [Int32.le_iff_toInt_le, ti_1] at c_14; exact c_14⟩ hb
      · refine mm_iconst (x := (-1)) dX10_rounds_17 (by decide) ?_
        exact mm_iretE dX10_rounds_18 rfl rfl rfl
set_option maxRecDepth 100000 in
set_option maxHeartbeats 4000000 in
theorem mX10_rounds_y (d : Nat) (h : mm_H) (A : MD) (LQ : Nat → LD) (nl G : Nat) (S : stC A LQ nl h G) (P : PD) (hP : pdOK A P) (hv : viewPC h P) (r : Nat) (hr : r < nl) (w : Int32) (hw : w = 0 ∨ w = 1) : ∃ x g, mm_M (d + 7) YX10_rounds [.ref 0, .int (nI r), .int w] h (some (.int (if w = 1 then nI (cN (relF A (LQ r) P)) else nI x))) g ∧ (w = 1 ∨ lst (qt (relF A (LQ r) P)) x (2 ^ pdn P - 1)) ∧ cfr h g ∧ stC A LQ nl g G := by
  suffices hE : mm_E (d + 7) YX10_rounds 0 [some (.ref 0), some (.int (nI r)), some (.int w), none, none] [] h (fun v g => ∃ x, v = some (.int (if w = 1 then nI (cN (relF A (LQ r) P)) else nI x)) ∧ (w = 1 ∨ lst (qt (relF A (LQ r) P)) x (2 ^ pdn P - 1)) ∧ cfr h g ∧ stC A LQ nl g G) by
    obtain ⟨v, g, hR, x, rfl, h1⟩ := hE
    exact ⟨x, g, mm_M.of _ rfl rfl (Nat.le_of_ble_eq_true rfl) hR, h1⟩
  have S0 := S
  have N1 := mX10_isLaw (d + 6) h nl S.2.2.1 S.2.2.2.1 (nI r)
  obtain ⟨hA, hV, h6, hn6, hL, -, hcG⟩ := S
  have h12 := hA.1
  have h4 := hA.2.1
  have hn10 := hP.1
  obtain ⟨g0, M0, f0, z0⟩ := mX2_forgetClashes (d + 6) h
  have St0 := stC_o S0 f0 (fun c hc => by simp [onep]; omega)
  have cf0 : cfr h g0 := f0.cfr (fun c hc => by simp only [rg, decide_eq_false_iff_not] at hc; simp [onep]; omega)
  have ms0 : msk 160 (rel A (LQ r) P 0 0 0) g0 := ⟨fun _ => 0, fun i hi => ⟨z0 i hi, (by show 0 < 1024; decide), fun j => by dsimp only; rw [Nat.zero_testBit]; exact ⟨fun z => absurd z (by decide), fun z => (by have := z.2.2.2; omega)⟩⟩⟩
  have K31 : ∀ m c, c + m = mk A → ∀ gg, (stC A LQ nl gg G ∧ cfr h gg ∧ msk 160 (rel A (LQ r) P c 0 0) gg) → mm_E (d + 7) YX10_rounds 31 [some (.ref 0), some (.int (nI r)), some (.int w), some (.int (nI (cN (rel A (LQ r) P c 0 0)))), some (.int (nI c))] [] gg (fun v g => ∃ x, v = some (.int (if w = 1 then nI (cN (relF A (LQ r) P)) else nI x)) ∧ (w = 1 ∨ lst (qt (relF A (LQ r) P)) x (2 ^ pdn P - 1)) ∧ cfr h g ∧ stC A LQ nl g G) := by
    intro m
    induction m with
    | zero =>
      intro c hc gg ⟨Sg, cf, ms⟩
      have hc : c = mk A := by omega
      subst hc
      have e65 : gg.1 65 7 = nI (mk A) := Sg.2.1.2.1
      have eN : cN (rel A (LQ r) P (mk A) 0 0) = cN (relF A (LQ r) P) := cN_c (fun _ _ => rel_all hP)
      have ms2 : msk 160 (relF A (LQ r) P) gg := msk_c ms (fun _ _ => (rel_all hP).symm) rfl
      rcases hw with rfl | rfl
      · obtain ⟨x, g2, M2, c1, c2⟩ := mX2_fewestRounds (d + 4) gg (pdn P) hn10 (by rw [(cf.1 61 rfl).1]; exact hv.1) (relF A (LQ r) P) (fun i j z => z.1) ms2
        have fin : cfr h g2 ∧ stC A LQ nl g2 G := ⟨cf.trans (c2.cfr (fun c hc => by simp only [rg, decide_eq_false_iff_not] at hc; simp only [Bool.or_eq_false_iff, beq_eq_false_iff_ne]; omega)), stC_o Sg c2 (fun c hc => by simp only [Bool.or_eq_false_iff, beq_eq_false_iff_ne]; omega)⟩
        refine mm_Es (fun _ _ => mm_iload dX10_rounds_31 rfl) ?_
        refine mm_Es (fun _ _ => mm_aload_n dX10_rounds_33 rfl rfl) ?_
        refine mm_Es (fun _ _ => mm_getS dX10_rounds_34 fX10_45 sh_0 rfl gr_0_7) ?_
        refine mm_Es (fun _ _ => mm_getS dX10_rounds_37 fX10_63 sh_61 rfl gr_61_0) ?_
        refine mm_Es (fun _ _ => mm_getI dX10_rounds_40 fX10_262 sh_65 rfl) ?_
        refine mm_Eb (fun _ _ => mm_icmp_ge 79 dX10_rounds_43 (by decide)) (fun c_43 => ?_) (fun c_43 => ?_)
        · refine mm_Es (fun _ _ => mm_iload_n dX10_rounds_79 rfl rfl) ?_
          refine mm_Es (fun _ _ => mm_iconst (x := 1) dX10_rounds_80 (by decide)) ?_
          refine mm_Ebn (fun _ _ => mm_icmp_ne 88 dX10_rounds_81 (by decide)) (fun c_81 => ?_) (fun c_81 => ?_)
          · refine mm_Es (fun _ _ => mm_aload_n dX10_rounds_88 rfl rfl) ?_
            refine mm_Es (fun _ _ => mm_getS dX10_rounds_89 fX10_87 sh_0 rfl gr_0_12) ?_
            refine mm_Es (fun _ _ => mm_cV (Y1 := YX2_fewestRounds) dX10_rounds_92 lX10_283 vX2_fewestRounds (M2) sh_159 rfl rfl (by simp [Value.category])) ?_
            refine mm_Er (mm_ireturn dX10_rounds_95 rfl) ?_
            exact ⟨x, by rw [if_neg (by decide)], Or.inr c1, fin⟩
          · exact absurd c_81 (by decide)
        · exact absurd (by rw [e65]; exact Int32.le_refl _) c_43
      · skip
        refine mm_Es (fun _ _ => mm_iload dX10_rounds_31 rfl) ?_
        refine mm_Es (fun _ _ => mm_aload_n dX10_rounds_33 rfl rfl) ?_
        refine mm_Es (fun _ _ => mm_getS dX10_rounds_34 fX10_45 sh_0 rfl gr_0_7) ?_
        refine mm_Es (fun _ _ => mm_getS dX10_rounds_37 fX10_63 sh_61 rfl gr_61_0) ?_
        refine mm_Es (fun _ _ => mm_getI dX10_rounds_40 fX10_262 sh_65 rfl) ?_
        refine mm_Eb (fun _ _ => mm_icmp_ge 79 dX10_rounds_43 (by decide)) (fun c_43 => ?_) (fun c_43 => ?_)
        · refine mm_Es (fun _ _ => mm_iload_n dX10_rounds_79 rfl rfl) ?_
          refine mm_Es (fun _ _ => mm_iconst (x := 1) dX10_rounds_80 (by decide)) ?_
          refine mm_Ebn (fun _ _ => mm_icmp_ne 88 dX10_rounds_81 (by decide)) (fun c_81 => ?_) (fun c_81 => ?_)
          · exact absurd c_81 (by decide)
          · refine mm_Es (fun _ _ => mm_iload_n dX10_rounds_84 rfl rfl) ?_
            refine mm_Es (fun _ _ => mm_goto 95 dX10_rounds_85 (by decide)) ?_
            refine mm_Er (mm_ireturn dX10_rounds_95 rfl) ?_
            exact ⟨0, by rw [if_pos rfl, eN], Or.inl rfl, cf, Sg⟩
        · exact absurd (by rw [e65]; exact Int32.le_refl _) c_43
    | succ m ih =>
      intro c hc gg ⟨Sg, cf, ms⟩
      have hcn : c < mk A := by omega
      have e65 : gg.1 65 7 = nI (mk A) := Sg.2.1.2.1
      obtain ⟨g1, M1, a1, a2, a3, a4⟩ := aimC2 (d + 5) gg A LQ nl G Sg r c hr hcn
      have e160 : g1.1 160 = gg.1 160 := a4 160 rfl
      obtain ⟨x, g2, M2, b0, b1, b2, b3⟩ := mX2_findClashes d g1 A hA (LQ r) r (by omega) (hL r hr).1 c hcn a1.1 P hP (viewPC_c hv ((a3.1 61 rfl).1.trans (cf.1 61 rfl).1) ((a3.1 63 rfl).1.trans (cf.1 63 rfl).1) ((a3.1 64 rfl).1.trans (cf.1 64 rfl).1)) (msk_c ms (fun _ _ => Iff.rfl) e160)
      have K := ih (c + 1) (by omega) g2 ⟨Sg.next (a3.trans b3.cfr) hr hcn (b3.at a1 b1) (b3.gcn a2), (cf.trans a3).trans b3.cfr, b2⟩
      refine mm_Es (fun _ _ => mm_iload dX10_rounds_31 rfl) ?_
      refine mm_Es (fun _ _ => mm_aload_n dX10_rounds_33 rfl rfl) ?_
      refine mm_Es (fun _ _ => mm_getS dX10_rounds_34 fX10_45 sh_0 rfl gr_0_7) ?_
      refine mm_Es (fun _ _ => mm_getS dX10_rounds_37 fX10_63 sh_61 rfl gr_61_0) ?_
      refine mm_Es (fun _ _ => mm_getI dX10_rounds_40 fX10_262 sh_65 rfl) ?_
      refine mm_Eb (fun _ _ => mm_icmp_ge 79 dX10_rounds_43 (by decide)) (fun c_43 => ?_) (fun c_43 => ?_)
      · exact absurd (by rw [e65] at c_43; exact c_43) (nI_ge hcn (by omega))
      · refine mm_Es (fun _ _ => mm_aload_n dX10_rounds_46 rfl rfl) ?_
        refine mm_Es (fun _ _ => mm_getS dX10_rounds_47 fX10_69 sh_0 rfl gr_0_10) ?_
        refine mm_Es (fun _ _ => mm_aload_n dX10_rounds_50 rfl rfl) ?_
        refine mm_Es (fun _ _ => mm_getS dX10_rounds_51 fX10_38 sh_0 rfl gr_0_5) ?_
        refine mm_Es (fun _ _ => mm_iload_n dX10_rounds_54 rfl rfl) ?_
        refine mm_Es (fun _ _ => mm_aald (r) dX10_rounds_55 (Or.inl rfl) sh_2 rfl (by omega) (gr_2 (by omega))) ?_
        refine mm_Es (fun _ _ => mm_iload dX10_rounds_56 rfl) ?_
        refine mm_Es (fun _ _ => mm_cV (Y1 := YX0_aim) dX10_rounds_58 lX10_183 vX0_aim (M1) sh_135 rfl rfl (by simp [Value.category])) ?_
        refine mm_Es (fun _ _ => mm_iload_n dX10_rounds_61 rfl rfl) ?_
        refine mm_Es (fun _ _ => mm_aload_n dX10_rounds_62 rfl rfl) ?_
        refine mm_Es (fun _ _ => mm_getS dX10_rounds_63 fX10_87 sh_0 rfl gr_0_12) ?_
        refine mm_Es (fun _ _ => mm_iload dX10_rounds_66 rfl) ?_
        refine mm_Es (fun _ _ => mm_cV (Y1 := YX2_findClashes) dX10_rounds_68 lX10_280 vX2_findClashes (M2) sh_159 rfl rfl (by simp [Value.category])) ?_
        refine mm_Es (fun _ _ => mm_iadd dX10_rounds_71) ?_
        refine mm_Es (fun _ _ => mm_cast (st' := [.int (nI (cN (rel A (LQ r) P (c + 1) 0 0)))]) rfl (by rw [nI_add, Nat.add_comm, b0]; rfl) rfl) ?_
        refine mm_Es (fun _ _ => mm_istore_n dX10_rounds_72 rfl (by decide) rfl) ?_
        refine mm_Es (fun _ _ => mm_iinc dX10_rounds_73 rfl (nI_inc c) rfl) ?_
        refine mm_Es (fun _ _ => mm_goto 31 dX10_rounds_76 (by decide)) ?_
        exact K
  have e0 : cN (rel A (LQ r) P 0 0 0) = 0 := by
    rw [cN_c (R := fun _ _ => False) (fun i j => ⟨fun z => by have := z.2.2.2; omega, False.elim⟩)]
    exact cnP_F 100
  have K := K31 (mk A) 0 (by omega) g0 ⟨St0, cf0, ms0⟩
  rw [e0] at K
  refine mm_Es (fun _ _ => mm_aload_n dX10_rounds_0 rfl rfl) ?_
  refine mm_Es (fun _ _ => mm_iload_n dX10_rounds_1 rfl rfl) ?_
  refine mm_Es (fun _ _ => mm_cV (Y1 := YX10_isLaw) dX10_rounds_2 lX10_274 vX10_isLaw (N1) sh_0 rfl rfl (by simp [Value.category])) ?_
  refine mm_Eb (fun _ _ => mm_if_eq 17 dX10_rounds_5 (by decide)) (fun c_5 => ?_) (fun c_5 => ?_)
  · exact absurd ⟨by rw [nI_toInt (by omega)]; omega, by rw [nI_toInt (by omega)]; omega⟩ (bI_e0.mp c_5)
  · refine mm_Es (fun _ _ => mm_iload_n dX10_rounds_8 rfl rfl) ?_
    refine mm_Eb (fun _ _ => mm_if_lt 17 dX10_rounds_9 (by decide)) (fun c_9 => ?_) (fun c_9 => ?_)
    · rcases hw with rfl | rfl
      · exact absurd c_9 (by decide)
      · exact absurd c_9 (by decide)
    · refine mm_Es (fun _ _ => mm_iload_n dX10_rounds_12 rfl rfl) ?_
      refine mm_Es (fun _ _ => mm_iconst (x := 1) dX10_rounds_13 (by decide)) ?_
      refine mm_Eb (fun _ _ => mm_icmp_le 19 dX10_rounds_14 (by decide)) (fun c_14 => ?_) (fun c_14 => ?_)
      · refine mm_Es (fun _ _ => mm_iconst (x := 0) dX10_rounds_19 (by decide)) ?_
        refine mm_Es (fun _ _ => mm_istore_n dX10_rounds_20 rfl (by decide) rfl) ?_
        refine mm_Es (fun _ _ => mm_aload_n dX10_rounds_21 rfl rfl) ?_
        refine mm_Es (fun _ _ => mm_getS dX10_rounds_22 fX10_87 sh_0 rfl gr_0_12) ?_
        refine mm_Es (fun _ _ => mm_cV (Y1 := YX2_forgetClashes) dX10_rounds_25 lX10_277 vX2_forgetClashes (M0) sh_159 rfl rfl (by simp [Value.category])) ?_
        refine mm_Es (fun _ _ => mm_iconst (x := 0) dX10_rounds_28 (by decide)) ?_
        refine mm_Es (fun _ _ => mm_istore dX10_rounds_29 (by decide) rfl) ?_
        exact K
      · rcases hw with rfl | rfl
        · exact absurd (by decide) c_14
        · exact absurd (by decide) c_14
