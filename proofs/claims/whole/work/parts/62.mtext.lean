/-! How the reference reads a text. -/
abbrev byt (x : Int32) : Prop := -128 ≤ x.toInt ∧ x.toInt ≤ 127
theorem byt_ex {x : Int32} (h : byt x) : ∃ k, k < 256 ∧ x = nI k - 128 := by
  refine ⟨(x.toInt + 128).toNat, by omega, ?_⟩
  apply Int32.toInt_inj.mp
  have e1 : (nI (x.toInt + 128).toNat).toInt = x.toInt + 128 := by rw [nI_toInt (by omega)]; omega
  rw [Int32.toInt_sub, e1, show (128 : Int32).toInt = 128 by decide]
  have : x.toInt + 128 - 128 = x.toInt := by omega
  rw [this]
  exact (Int.bmod_eq_of_le (by omega) (by omega)).symm
set_option maxRecDepth 100000 in
theorem sg_raw {k : Nat} (hk : k < 256) : (nI k - 128) &&& 255 = nI ((k + 128) % 256) ∧ (nI k - 128).toInt = (k : Int) - 128 := by
  have H : ∀ k, k < 256 → (nI k - 128) &&& 255 = nI ((k + 128) % 256) ∧ (nI k - 128).toInt = (k : Int) - 128 := by decide +kernel
  exact H k hk
theorem sg_ti {x : Int32} (h : byt x) : (x &&& 255).toInt = if 0 ≤ x.toInt then x.toInt else x.toInt + 256 := by
  obtain ⟨k, hk, rfl⟩ := byt_ex h
  obtain ⟨e1, e2⟩ := sg_raw hk
  rw [e1, e2, nI_toInt (by omega)]
  split <;> omega
theorem sg_eq {x c : Int32} (h : byt x) (hc : 0 ≤ c.toInt ∧ c.toInt ≤ 127) : (x &&& 255 = c) ↔ x = c := by
  rw [← Int32.toInt_inj, ← Int32.toInt_inj, sg_ti h]
  split <;> omega
def sgV (B : Nat → Int32) (n p : Nat) : Int32 := if p < n then B p &&& 255 else -1
theorem sgV_eq {B : Nat → Int32} {n p : Nat} (hb : ∀ i, byt (B i)) {c : Int32} (hc : 0 ≤ c.toInt ∧ c.toInt ≤ 127) : sgV B n p = c ↔ p < n ∧ B p = c := by
  unfold sgV
  by_cases z : p < n
  · rw [if_pos z, sg_eq (hb p) hc]; exact ⟨fun w => ⟨z, w⟩, fun w => w.2⟩
  · rw [if_neg z]
    constructor
    · intro w; rw [← w] at hc; have : (-1 : Int32).toInt = -1 := by decide
      omega
    · intro w; exact absurd w.1 z
theorem sg_D {B : Nat → Int32} {n p : Nat} (hb : ∀ i, byt (B i)) : (48 ≤ (sgV B n p).toInt ∧ (sgV B n p).toInt ≤ 57) ↔ p < n ∧ isD (B p) := by
  unfold sgV
  by_cases z : p < n
  · rw [if_pos z, sg_ti (hb p)]
    have hbp := hb p
    show _ ↔ p < n ∧ (48 ≤ (B p).toInt ∧ (B p).toInt ≤ 57)
    have hb1 := hbp.1
    split
    · exact ⟨fun w => ⟨z, w⟩, fun w => w.2⟩
    · constructor
      · intro w; omega
      · intro w; omega
  · rw [if_neg z, ti_m1]
    constructor
    · intro w; omega
    · intro w; exact absurd w.1 z
/-- the reference's text: its tape, how far, its fault -/
def MT (B : Nat → Int32) (n : Nat) (h : mm_H) (p ft : Nat) : Prop := h.1 165 20 = nI n ∧ h.1 165 21 = nI p ∧ h.1 165 22 = nI ft ∧ (∀ i, i < n → h.1 185 i = B i) ∧ n ≤ 400 ∧ ∀ i, byt (B i)
def mt_fr (h g : mm_H) : Prop := frm (onep 165) h g ∧ ∀ j, j ≠ 21 → j ≠ 22 → g.1 165 j = h.1 165 j
theorem mt_fr.refl (h : mm_H) : mt_fr h h := ⟨frm.refl _ _, fun _ _ _ => rfl⟩
theorem mt_fr.trans {h g k : mm_H} (a : mt_fr h g) (b : mt_fr g k) : mt_fr h k := ⟨a.1.trans b.1, fun j h1 h2 => (b.2 j h1 h2).trans (a.2 j h1 h2)⟩
theorem MT.p {B : Nat → Int32} {n : Nat} {h : mm_H} {p ft : Nat} (t : MT B n h p ft) (q : Nat) : MT B n (mm_up h.1 165 21 (nI q), h.2.1, h.2.2) q ft := ⟨by dsimp only; rw [mm_up_k (by decide)]; exact t.1, by dsimp only; rw [mm_up_e], by dsimp only; rw [mm_up_k (by decide)]; exact t.2.2.1, fun i hi => by dsimp only; rw [mm_up_n (by decide)]; exact t.2.2.2.1 i hi, t.2.2.2.2⟩
theorem MT.f {B : Nat → Int32} {n : Nat} {h : mm_H} {p ft : Nat} (t : MT B n h p ft) (q : Nat) : MT B n (mm_up h.1 165 22 (nI q), h.2.1, h.2.2) p q := ⟨by dsimp only; rw [mm_up_k (by decide)]; exact t.1, by dsimp only; rw [mm_up_k (by decide)]; exact t.2.1, by dsimp only; rw [mm_up_e], fun i hi => by dsimp only; rw [mm_up_n (by decide)]; exact t.2.2.2.1 i hi, t.2.2.2.2⟩
theorem mt_p (h : mm_H) (q : Int32) : mt_fr h (mm_up h.1 165 21 q, h.2.1, h.2.2) := ⟨(frm.refl _ h).up (c := 165) rfl, fun j h1 _ => by dsimp only; rw [mm_up_k h1]⟩
theorem mt_q (h : mm_H) (q : Int32) : mt_fr h (mm_up h.1 165 22 q, h.2.1, h.2.2) := ⟨(frm.refl _ h).up (c := 165) rfl, fun j _ h2 => by dsimp only; rw [mm_up_k h2]⟩
theorem up_self {I : Nat → Nat → Int32} {a k : Nat} {x : Int32} (h : I a k = x) : mm_up I a k x = I := by
  funext b j
  by_cases z : b = a
  · subst z
    by_cases w : j = k
    · subst w; rw [mm_up_e]; exact h.symm
    · rw [mm_up_k w]
  · rw [mm_up_n z]
theorem up_up {I : Nat → Nat → Int32} {a k : Nat} {x y : Int32} : mm_up (mm_up I a k x) a k y = mm_up I a k y := by
  funext b j
  by_cases z : b = a
  · subst z
    by_cases w : j = k
    · subst w; rw [mm_up_e, mm_up_e]
    · rw [mm_up_k w, mm_up_k w, mm_up_k w]
  · rw [mm_up_n z, mm_up_n z, mm_up_n z]
set_option maxRecDepth 100000 in
set_option maxHeartbeats 4000000 in
theorem mX11_sign (d : Nat) (h : mm_H) (B : Nat → Int32) (n p ft : Nat) (t : MT B n h p ft) (hp : p < 100000) : mm_M d YX11_sign [.ref 165] h (some (.int (sgV B n p))) h := by
  refine mm_M.of [some (.ref 165)] rfl rfl (Nat.le_of_ble_eq_true rfl) ?_
  refine mm_aload_n dX11_sign_0 rfl rfl ?_
  refine mm_getI dX11_sign_1 fX11_211 sh_165 rfl ?_
  refine mm_aload_n dX11_sign_4 rfl rfl ?_
  refine mm_getI dX11_sign_5 fX11_181 sh_165 rfl ?_
  refine mm_icmp_ge 27 dX11_sign_8 (by decide) (fun c_8 => ?_) (fun c_8 => ?_)
  · have hz : ¬ p < n := fun z => absurd (by rw [t.1, t.2.1] at c_8; exact c_8) (nI_ge z (by have := t.2.2.2.2.1; omega))
    refine mm_iconst (x := (-1)) dX11_sign_27 (by decide) ?_
    exact mm_iretE dX11_sign_28 rfl (by unfold sgV; first | (rw [if_pos hz, t.2.2.2.1 p hz]; done) | rw [if_neg hz]) rfl
  · have hz : p < n := Nat.lt_of_not_le (fun z => c_8 (by rw [t.1, t.2.1]; exact nI_le z (by omega)))
    have hn4 := t.2.2.2.2.1
    refine mm_aload_n dX11_sign_11 rfl rfl ?_
    refine mm_getS dX11_sign_12 fX11_71 sh_165 rfl gr_165_32 ?_
    refine mm_aload_n dX11_sign_15 rfl rfl ?_
    refine mm_getI dX11_sign_16 fX11_211 sh_165 rfl ?_
    refine mm_bald (p) dX11_sign_19 sh_185 t.2.1 (by omega) ?_
    refine mm_sipush (x := 255) dX11_sign_20 (by decide) ?_
    refine mm_iand dX11_sign_23 ?_
    refine mm_goto 28 dX11_sign_24 (by decide) ?_
    exact mm_iretE dX11_sign_28 rfl (by unfold sgV; first | (rw [if_pos hz, t.2.2.2.1 p hz]; done) | rw [if_neg hz]) rfl
set_option maxRecDepth 100000 in
set_option maxHeartbeats 4000000 in
theorem mX11_blanks (d : Nat) (h : mm_H) (B : Nat → Int32) (n p ft : Nat) (t : MT B n h p ft) (hp : p < 100000) : mm_M (d + 1) YX11_blanks [.ref 165] h none (mm_up h.1 165 21 (nI (sk B n p)), h.2.1, h.2.2) := by
  have K : ∀ m p, (p + m = n ∨ (m = 0 ∧ n ≤ p)) → p < 100000 → ∀ h, MT B n h p ft → mm_R (d + 1) YX11_blanks 0 [some (.ref 165)] [] h none (mm_up h.1 165 21 (nI (sk B n p)), h.2.1, h.2.2) := by
    intro m
    induction m with
    | zero =>
      intro p hm hp h t
      have e : sk B n p = p := sk_n (by omega)
      have hs : ¬ sgV B n p = 32 := fun z => by have := ((sgV_eq t.2.2.2.2.2 (by decide)).mp z).1; omega
      have eh : (mm_up h.1 165 21 (nI (sk B n p)), h.2.1, h.2.2) = h := by rw [e, up_self t.2.1]
      rw [eh]
      refine mm_aload_n dX11_blanks_0 rfl rfl ?_
      refine mm_cV (Y1 := YX11_sign) dX11_blanks_1 lX11_214 vX11_sign (mX11_sign d h B n p ft t hp) sh_165 rfl rfl (by simp [Value.category]) ?_
      refine mm_bipush (x := 32) dX11_blanks_4 (by decide) ?_
      refine mm_icmp_ne 22 dX11_blanks_6 (by decide) (fun c_6 => ?_) (fun c_6 => ?_)
      · exact mm_retE dX11_blanks_22 rfl rfl
      · exact absurd c_6 hs
    | succ m ih =>
      intro p hm hp h t
      have hpn : p < n := by omega
      have hn4 := t.2.2.2.2.1
      by_cases hb : B p = 32
      · have K := ih (p + 1) (by omega) (by omega) _ (t.p (p + 1))
        rw [← sk_b hpn hb] at K
        dsimp only at K
        rw [up_up] at K
        refine mm_aload_n dX11_blanks_0 rfl rfl ?_
        refine mm_cV (Y1 := YX11_sign) dX11_blanks_1 lX11_214 vX11_sign (mX11_sign d h B n p ft t hp) sh_165 rfl rfl (by simp [Value.category]) ?_
        refine mm_bipush (x := 32) dX11_blanks_4 (by decide) ?_
        refine mm_icmp_ne 22 dX11_blanks_6 (by decide) (fun c_6 => ?_) (fun c_6 => ?_)
        · exact absurd ((sgV_eq t.2.2.2.2.2 (by decide)).mpr ⟨hpn, hb⟩) c_6
        · refine mm_aload_n dX11_blanks_9 rfl rfl ?_
          refine mm_dup dX11_blanks_10 rfl ?_
          refine mm_getI dX11_blanks_11 fX11_211 sh_165 rfl ?_
          refine mm_iconst (x := 1) dX11_blanks_14 (by decide) ?_
          refine mm_iadd dX11_blanks_15 ?_
          refine mm_putI dX11_blanks_16 fX11_211 sh_165 rfl rfl rfl ?_
          refine mm_goto 0 dX11_blanks_19 (by decide) ?_
          refine mm_cast rfl rfl ?_ K
          rw [t.2.1, nI_succ]
      · have e : sk B n p = p := sk_o hb
        have eh : (mm_up h.1 165 21 (nI (sk B n p)), h.2.1, h.2.2) = h := by rw [e, up_self t.2.1]
        rw [eh]
        refine mm_aload_n dX11_blanks_0 rfl rfl ?_
        refine mm_cV (Y1 := YX11_sign) dX11_blanks_1 lX11_214 vX11_sign (mX11_sign d h B n p ft t hp) sh_165 rfl rfl (by simp [Value.category]) ?_
        refine mm_bipush (x := 32) dX11_blanks_4 (by decide) ?_
        refine mm_icmp_ne 22 dX11_blanks_6 (by decide) (fun c_6 => ?_) (fun c_6 => ?_)
        · exact mm_retE dX11_blanks_22 rfl rfl
        · exact absurd ((sgV_eq t.2.2.2.2.2 (by decide)).mp c_6).2 hb
  refine mm_M.of [some (.ref 165)] rfl rfl (Nat.le_of_ble_eq_true rfl) ?_
  exact K (n - p) p (by omega) hp h t
set_option maxRecDepth 100000 in
set_option maxHeartbeats 4000000 in
theorem mX11_isDigit (d : Nat) (h : mm_H) (B : Nat → Int32) (n p ft : Nat) (t : MT B n h p ft) (hp : p < 100000) : mm_M (d + 1) YX11_isDigit [.ref 165] h (some (.int (bI (p < n ∧ isD (B p))))) h := by
  refine mm_M.of [some (.ref 165)] rfl rfl (Nat.le_of_ble_eq_true rfl) ?_
  refine mm_aload_n dX11_isDigit_0 rfl rfl ?_
  refine mm_cV (Y1 := YX11_sign) dX11_isDigit_1 lX11_214 vX11_sign (mX11_sign d h B n p ft t hp) sh_165 rfl rfl (by simp [Value.category]) ?_
  refine mm_i2l dX11_isDigit_4 rfl ?_
  refine mm_ldc2 dX11_isDigit_5 kX11_218 ?_
  refine mm_ldc2 dX11_isDigit_8 kX11_220 ?_
  refine mm_cS (Y1 := YX11_in) dX11_isDigit_11 lX11_171 sX11_in (mX11_in d h _ _ _) rfl rfl (by simp [Value.category]) ?_
  exact mm_zretE dX11_isDigit_14 rfl (bI_nar _) (bI_iff (by rw [i64_toInt, li_48, li_57]; exact sg_D t.2.2.2.2.2)) rfl
set_option maxRecDepth 100000 in
set_option maxHeartbeats 4000000 in
theorem mX11_fails (d : Nat) (h : mm_H) (B : Nat → Int32) (n p ft : Nat) (t : MT B n h p ft) (hp : p < 100000) (hft : ft < 100000) (q why : Nat) (hq : q < 100000) (hw : why < 8) : mm_M d YX11_fails [.ref 165, .int (nI why), .int (nI q)] h none (mm_up h.1 165 22 (nI (flt ft q why)), h.2.1, h.2.2) := by
  refine mm_M.of [some (.ref 165), some (.int (nI why)), some (.int (nI q))] rfl rfl (Nat.le_of_ble_eq_true rfl) ?_
  by_cases hf : ft = 0
  · have e : flt ft q why = 1 + 8 * q + why := by unfold flt; rw [if_pos hf]
    rw [e]
    refine mm_aload_n dX11_fails_0 rfl rfl ?_
    refine mm_aload_n dX11_fails_1 rfl rfl ?_
    refine mm_getI dX11_fails_2 fX11_208 sh_165 rfl ?_
    refine mm_if_ne 19 dX11_fails_5 (by decide) (fun c_5 => ?_) (fun c_5 => ?_)
    · exact absurd (by rw [t.2.2.1, hf]; rfl) c_5
    · refine mm_iconst (x := 1) dX11_fails_8 (by decide) ?_
      refine mm_bipush (x := 8) dX11_fails_9 (by decide) ?_
      refine mm_iload_n dX11_fails_11 rfl rfl ?_
      refine mm_imul dX11_fails_12 ?_
      refine mm_iadd dX11_fails_13 ?_
      refine mm_iload_n dX11_fails_14 rfl rfl ?_
      refine mm_iadd dX11_fails_15 ?_
      refine mm_goto 23 dX11_fails_16 (by decide) ?_
      refine mm_putI dX11_fails_23 fX11_208 sh_165 rfl rfl rfl ?_
      exact mm_retE dX11_fails_26 rfl (by rw [show (8 : Int32) = nI 8 from rfl, show (1 : Int32) = nI 1 from rfl, nI_mul, nI_add, nI_add])
  · have e : flt ft q why = ft := by unfold flt; rw [if_neg hf]
    rw [e]
    refine mm_aload_n dX11_fails_0 rfl rfl ?_
    refine mm_aload_n dX11_fails_1 rfl rfl ?_
    refine mm_getI dX11_fails_2 fX11_208 sh_165 rfl ?_
    refine mm_if_ne 19 dX11_fails_5 (by decide) (fun c_5 => ?_) (fun c_5 => ?_)
    · refine mm_aload_n dX11_fails_19 rfl rfl ?_
      refine mm_getI dX11_fails_20 fX11_208 sh_165 rfl ?_
      refine mm_putI dX11_fails_23 fX11_208 sh_165 rfl rfl rfl ?_
      exact mm_retE dX11_fails_26 rfl (by rw [t.2.2.1])
    · exact absurd ((nI_eq (b := 0) (by omega) (by omega)).mp (t.2.2.1.symm.trans c_5)) hf
