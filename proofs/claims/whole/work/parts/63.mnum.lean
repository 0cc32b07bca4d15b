/-! The reference reads numbers and words. -/
theorem dgv_bd {B : Nat → Int32} {p : Nat} : ∀ k, k ≤ 5 → (∀ i, i < k → isD (B (p + i))) → ∃ v, v < 10 ^ k ∧ dgv B p k = nI v := by
  intro k
  induction k with
  | zero => intro _ _; exact ⟨0, by decide, rfl⟩
  | succ k ih =>
    intro h5 h
    obtain ⟨v, v1, v2⟩ := ih (by omega) (fun i hi => h i (by omega))
    have hd := h k (by omega)
    obtain ⟨c, c1, c2⟩ := nI_ex (x := B (p + k)) (n := 58) ⟨by omega, by omega⟩
    have c3 : 48 ≤ c := by have h48 := hd.1; rw [c2, nI_toInt (by omega)] at h48; omega
    refine ⟨v * 10 + c - 48, ?_, ?_⟩
    · rw [Nat.pow_succ]; omega
    · simp only [dgv]
      rw [v2, c2, show (10 : Int32) = nI 10 from rfl, show (48 : Int32) = nI 48 from rfl, nI_mul, nI_add, nI_dif (by omega)]
theorem en_D {B : Nat → Int32} {n p : Nat} (h : isD (B p)) : en B n p = rEnd bD B n p := by
  unfold en
  have h2 : ¬ two B n p := fun z => by
    rcases z.1 with w | w <;> (rw [w] at h; exact absurd h (by decide))
  have h3 : ¬ isLt (B p) := fun z => by have := z.1; have := h.2; omega
  rw [if_neg h2, if_neg h3, if_pos h]
set_option maxRecDepth 100000 in
set_option maxHeartbeats 4000000 in
theorem mX11_digits_n (d : Nat) (h : mm_H) (B : Nat → Int32) (n p ft : Nat) (t : MT B n h p ft) (hp : p < 100000) (hft : ft < 100000) (hd : ¬ (p < n ∧ isD (B p))) (m : Int32) : mm_M (d + 2) YX11_digits [.ref 165, .int m] h (some (.int 0)) (mm_up h.1 165 22 (nI (flt ft p 0)), h.2.1, h.2.2) := by
  have M1 := mX11_isDigit d h B n p ft t hp
  have M2 := mX11_fails (d + 1) h B n p ft t hp hft p 0 hp (by decide)
  refine mm_M.of [some (.ref 165), some (.int m), none, none] rfl rfl (Nat.le_of_ble_eq_true rfl) ?_
  refine mm_aload_n dX11_digits_0 rfl rfl ?_
  refine mm_cV (Y1 := YX11_isDigit) dX11_digits_1 lX11_251 vX11_isDigit (M1) sh_165 rfl rfl (by simp [Value.category]) ?_
  refine mm_if_ne 18 dX11_digits_4 (by decide) (fun c_4 => ?_) (fun c_4 => ?_)
  · exact absurd (bI_n0.mp c_4) hd
  · refine mm_aload_n dX11_digits_7 rfl rfl ?_
    refine mm_iconst (x := 0) dX11_digits_8 (by decide) ?_
    refine mm_aload_n dX11_digits_9 rfl rfl ?_
    refine mm_getI dX11_digits_10 fX11_211 sh_165 rfl ?_
    refine mm_cast (st' := [.int (nI p), .int (nI 0), .ref 165]) rfl (by rw [t.2.1] <;> rfl) rfl ?_
    refine mm_cV (Y1 := YX11_fails) dX11_digits_13 lX11_247 vX11_fails (M2) sh_165 rfl rfl (by simp [Value.category]) ?_
    refine mm_iconst (x := 0) dX11_digits_16 (by decide) ?_
    exact mm_iretE dX11_digits_17 rfl rfl rfl
set_option maxRecDepth 100000 in
set_option maxHeartbeats 4000000 in
theorem mX11_digits_y (d : Nat) (h : mm_H) (B : Nat → Int32) (n p ft : Nat) (t : MT B n h p ft) (hp : p < 100000) (hft : ft < 100000) (hpn : p < n) (hd : isD (B p)) : ∃ x g, mm_M (d + 2) YX11_digits [.ref 165, .int 99999] h (some (.int x)) g ∧ MT B n g (en B n p) (if 5 < en B n p - p then flt ft p 1 else ft) ∧ (¬ 5 < en B n p - p → x = dgv B p (en B n p - p)) ∧ mt_fr h g := by
  have hen := en_bd (B := B) hpn
  have hn4 := t.2.2.2.2.1
  have eD := en_D (n := n) hd
  have all := rE_all (P := bD) (B := B) (n := n) (n - p) p (by omega)
  rw [← eD] at all
  have stp := rE_stop (P := bD) (B := B) (n := n) (n - p) p (by omega)
  rw [← eD] at stp
  obtain ⟨e, ee⟩ : ∃ e, e = en B n p := ⟨_, rfl⟩
  rw [← ee] at hen all stp ⊢
  have dig : ∀ i, p + i < e → isD (B (p + i)) := fun i hi => of_decide_eq_true (all (p + i) (by omega) hi)
  obtain ⟨w, w1, w2⟩ := dgv_bd (B := B) (p := p) (min 5 (e - p)) (by omega) (fun i hi => dig i (by omega))
  obtain ⟨gE, egE⟩ : ∃ g : mm_H, g = (mm_up h.1 165 21 (nI e), h.2.1, h.2.2) := ⟨_, rfl⟩
  have tE : MT B n gE e ft := by rw [egE]; exact t.p e
  have fE : mt_fr h gE := by rw [egE]; exact mt_p h _
  obtain ⟨gF, egF⟩ : ∃ g : mm_H, g = (if 5 < e - p then (mm_up gE.1 165 22 (nI (flt ft p 1)), gE.2.1, gE.2.2) else gE) := ⟨_, rfl⟩
  have MF := mX11_fails (d + 1) gE B n e ft tE (by omega) hft p 1 hp (by decide)
  have M0 := mX11_isDigit d h B n p ft t hp
  have w10 : w < 100000 := Nat.lt_of_lt_of_le w1 (Nat.le_trans (Nat.pow_le_pow_right (by decide) (Nat.min_le_left 5 _)) (by decide))
  refine ⟨dgv B p (min 5 (e - p)), gF, ?_, ?_, fun z => by rw [show min 5 (e - p) = e - p by omega], ?_⟩
  · have K25 : ∀ m q, q + m = e → p ≤ q → ∀ gg, MT B n gg q ft → gg = (mm_up h.1 165 21 (nI q), h.2.1, h.2.2) → mm_R (d + 2) YX11_digits 25 [some (.ref 165), some (.int 99999), some (.int (nI p)), some (.int (dgv B p (min 5 (q - p))))] [] gg (some (.int (dgv B p (min 5 (e - p))))) gF := by
      intro m
      induction m with
      | zero =>
        intro q hq hpq gg tg eg
        have hq : q = e := by omega
        subst hq
        have egg : gg = gE := by rw [eg, egE]
        subst egg
        have M1 := mX11_isDigit d gg B n q ft tg (by omega)
        have hnd : ¬ (q < n ∧ isD (B q)) := fun z => by
          rcases stp with y | y
          · omega
          · exact y (decide_eq_true z.2)
        have es : nI q - nI p = nI (q - p) := nI_dif hpq
        refine mm_aload_n dX11_digits_25 rfl rfl ?_
        refine mm_cV (Y1 := YX11_isDigit) dX11_digits_26 lX11_251 vX11_isDigit (M1) sh_165 rfl rfl (by simp [Value.category]) ?_
        refine mm_if_eq 72 dX11_digits_29 (by decide) (fun c_29 => ?_) (fun c_29 => ?_)
        · refine mm_aload_n dX11_digits_72 rfl rfl ?_
          refine mm_getI dX11_digits_73 fX11_211 sh_165 rfl ?_
          refine mm_iload_n dX11_digits_76 rfl rfl ?_
          refine mm_isub dX11_digits_77 ?_
          refine mm_cast (st' := [.int (nI (q - p))]) rfl (by rw [tg.2.1, es] <;> rfl) rfl ?_
          refine mm_iconst (x := 5) dX11_digits_78 (by decide) ?_
          refine mm_icmp_gt 87 dX11_digits_79 (by decide) (fun c_79 => ?_) (fun c_79 => ?_)
          · have h5 : 5 < q - p := Nat.lt_of_not_le (fun z => absurd c_79 (nI_nlt (a := 5) z (by omega)))
            refine mm_aload_n dX11_digits_87 rfl rfl ?_
            refine mm_iconst (x := 1) dX11_digits_88 (by decide) ?_
            refine mm_iload_n dX11_digits_89 rfl rfl ?_
            refine mm_cV (Y1 := YX11_fails) dX11_digits_90 lX11_247 vX11_fails (MF) sh_165 rfl rfl (by simp [Value.category]) ?_
            refine mm_iload_n dX11_digits_93 rfl rfl ?_
            exact mm_iretE dX11_digits_94 rfl rfl (by rw [egF]; first | rw [if_pos h5] | rw [if_neg h5])
          · have h5 : ¬ 5 < q - p := fun z => c_79 (nI_lt (a := 5) z (by omega))
            refine mm_iload_n dX11_digits_82 rfl rfl ?_
            refine mm_iload_n dX11_digits_83 rfl rfl ?_
            refine mm_icmp_le 93 dX11_digits_84 (by decide) (fun c_84 => ?_) (fun c_84 => ?_)
            · refine mm_iload_n dX11_digits_93 rfl rfl ?_
              exact mm_iretE dX11_digits_94 rfl rfl (by rw [egF]; first | rw [if_pos h5] | rw [if_neg h5])
            · exact absurd (by rw [w2]; exact nI_le (b := 99999) (by omega) (by omega)) c_84
        · exact absurd (bI_n0.mp c_29) hnd
      | succ m ih =>
        intro q hq hpq gg tg eg
        have hqn : q < n := by omega
        have M1 := mX11_isDigit d gg B n q ft tg (by omega)
        have M2 := mX11_sign (d + 1) gg B n q ft tg (by omega)
        have hdq : isD (B q) := by have := dig (q - p) (by omega); rw [show p + (q - p) = q by omega] at this; exact this
        have esg : sgV B n q = B q := (sgV_eq tg.2.2.2.2.2 (c := B q) ⟨by omega, by omega⟩).mpr ⟨hqn, rfl⟩
        rw [esg] at M2
        have es : nI q - nI p = nI (q - p) := nI_dif hpq
        have K := ih (q + 1) (by omega) (by omega) _ (tg.p (q + 1)) (by rw [eg]; dsimp only; rw [up_up])
        have eF : (mm_up gg.1 165 21 (gg.1 165 21 + 1), gg.2.1, gg.2.2) = ((mm_up gg.1 165 21 (nI (q + 1)), gg.2.1, gg.2.2) : mm_H) := by rw [tg.2.1, nI_succ]
        by_cases h5 : q - p < 5
        · have ed : dgv B p (min 5 (q + 1 - p)) = 10 * dgv B p (min 5 (q - p)) + B q - 48 := by
            rw [show min 5 (q + 1 - p) = (q - p) + 1 by omega, show min 5 (q - p) = q - p by omega]
            simp only [dgv]
            rw [show p + (q - p) = q by omega, Int32.mul_comm]
          rw [ed] at K
          refine mm_aload_n dX11_digits_25 rfl rfl ?_
          refine mm_cV (Y1 := YX11_isDigit) dX11_digits_26 lX11_251 vX11_isDigit (M1) sh_165 rfl rfl (by simp [Value.category]) ?_
          refine mm_if_eq 72 dX11_digits_29 (by decide) (fun c_29 => ?_) (fun c_29 => ?_)
          · exact absurd ⟨hqn, hdq⟩ (bI_e0.mp c_29)
          · refine mm_aload_n dX11_digits_32 rfl rfl ?_
            refine mm_getI dX11_digits_33 fX11_211 sh_165 rfl ?_
            refine mm_iload_n dX11_digits_36 rfl rfl ?_
            refine mm_isub dX11_digits_37 ?_
            refine mm_cast (st' := [.int (nI (q - p))]) rfl (by rw [tg.2.1, es] <;> rfl) rfl ?_
            refine mm_iconst (x := 5) dX11_digits_38 (by decide) ?_
            refine mm_icmp_ge 57 dX11_digits_39 (by decide) (fun c_39 => ?_) (fun c_39 => ?_)
            · exact absurd c_39 (nI_ge (b := 5) h5 (by omega))
            · refine mm_bipush (x := 10) dX11_digits_42 (by decide) ?_
              refine mm_iload_n dX11_digits_44 rfl rfl ?_
              refine mm_imul dX11_digits_45 ?_
              refine mm_aload_n dX11_digits_46 rfl rfl ?_
              refine mm_cV (Y1 := YX11_sign) dX11_digits_47 lX11_214 vX11_sign (M2) sh_165 rfl rfl (by simp [Value.category]) ?_
              refine mm_iadd dX11_digits_50 ?_
              refine mm_bipush (x := 48) dX11_digits_51 (by decide) ?_
              refine mm_isub dX11_digits_53 ?_
              refine mm_goto 58 dX11_digits_54 (by decide) ?_
              refine mm_istore_n dX11_digits_58 rfl (by decide) rfl ?_
              refine mm_aload_n dX11_digits_59 rfl rfl ?_
              refine mm_dup dX11_digits_60 rfl ?_
              refine mm_getI dX11_digits_61 fX11_211 sh_165 rfl ?_
              refine mm_iconst (x := 1) dX11_digits_64 (by decide) ?_
              refine mm_iadd dX11_digits_65 ?_
              refine mm_putI dX11_digits_66 fX11_211 sh_165 rfl rfl rfl ?_
              refine mm_goto 25 dX11_digits_69 (by decide) ?_
              exact mm_cast rfl rfl eF K
        · rw [show min 5 (q + 1 - p) = min 5 (q - p) by omega] at K
          refine mm_aload_n dX11_digits_25 rfl rfl ?_
          refine mm_cV (Y1 := YX11_isDigit) dX11_digits_26 lX11_251 vX11_isDigit (M1) sh_165 rfl rfl (by simp [Value.category]) ?_
          refine mm_if_eq 72 dX11_digits_29 (by decide) (fun c_29 => ?_) (fun c_29 => ?_)
          · exact absurd ⟨hqn, hdq⟩ (bI_e0.mp c_29)
          · refine mm_aload_n dX11_digits_32 rfl rfl ?_
            refine mm_getI dX11_digits_33 fX11_211 sh_165 rfl ?_
            refine mm_iload_n dX11_digits_36 rfl rfl ?_
            refine mm_isub dX11_digits_37 ?_
            refine mm_cast (st' := [.int (nI (q - p))]) rfl (by rw [tg.2.1, es] <;> rfl) rfl ?_
            refine mm_iconst (x := 5) dX11_digits_38 (by decide) ?_
            refine mm_icmp_ge 57 dX11_digits_39 (by decide) (fun c_39 => ?_) (fun c_39 => ?_)
            · refine mm_iload_n dX11_digits_57 rfl rfl ?_
              refine mm_istore_n dX11_digits_58 rfl (by decide) rfl ?_
              refine mm_aload_n dX11_digits_59 rfl rfl ?_
              refine mm_dup dX11_digits_60 rfl ?_
              refine mm_getI dX11_digits_61 fX11_211 sh_165 rfl ?_
              refine mm_iconst (x := 1) dX11_digits_64 (by decide) ?_
              refine mm_iadd dX11_digits_65 ?_
              refine mm_putI dX11_digits_66 fX11_211 sh_165 rfl rfl rfl ?_
              refine mm_goto 25 dX11_digits_69 (by decide) ?_
              exact mm_cast rfl rfl eF K
            · exact absurd (nI_le (a := 5) (by omega) (by omega)) c_39
    have K := K25 (e - p) p (by omega) (Nat.le_refl _) h t (by rw [up_self t.2.1])
    rw [show min 5 (p - p) = 0 by omega] at K
    refine mm_M.of [some (.ref 165), some (.int 99999), none, none] rfl rfl (Nat.le_of_ble_eq_true rfl) ?_
    refine mm_aload_n dX11_digits_0 rfl rfl ?_
    refine mm_cV (Y1 := YX11_isDigit) dX11_digits_1 lX11_251 vX11_isDigit (M0) sh_165 rfl rfl (by simp [Value.category]) ?_
    refine mm_if_ne 18 dX11_digits_4 (by decide) (fun c_4 => ?_) (fun c_4 => ?_)
    · refine mm_aload_n dX11_digits_18 rfl rfl ?_
      refine mm_getI dX11_digits_19 fX11_211 sh_165 rfl ?_
      refine mm_cast (st' := [.int (nI p)]) rfl (by rw [t.2.1] <;> rfl) rfl ?_
      refine mm_istore_n dX11_digits_22 rfl (by decide) rfl ?_
      refine mm_iconst (x := 0) dX11_digits_23 (by decide) ?_
      refine mm_istore_n dX11_digits_24 rfl (by decide) rfl ?_
      exact K
    · exact absurd ⟨hpn, hd⟩ (bI_e0.mp c_4)
  · rw [egF]
    by_cases z : 5 < e - p
    · rw [if_pos z, if_pos z]; exact tE.f _
    · rw [if_neg z, if_neg z]; exact tE
  · rw [egF]
    by_cases z : 5 < e - p
    · rw [if_pos z]; exact fE.trans (mt_q gE _)
    · rw [if_neg z]; exact fE
theorem kd_2 {B : Nat → Int32} {n p : Nat} (h : kd B n p = 2) : p < n ∧ isD (B p) := by
  unfold kd at h
  by_cases z : n ≤ p
  · rw [if_pos z] at h; omega
  · rw [if_neg z] at h
    by_cases w : isD (B p)
    · exact ⟨by omega, w⟩
    · rw [if_neg w] at h
      exfalso
      by_cases y : isLt (B p)
      · rw [if_pos y] at h; have := wk_bd B p (en B n p); omega
      · rw [if_neg y] at h
        unfold sgn at h
        repeat (first | omega | split at h)
/-- the reference stands where the class stands: behind blanks -/
def RM (B : Nat → Int32) (n : Nat) (h : mm_H) (p : Nat) (s : Nat × Nat) : Prop := MT B n h p s.2 ∧ p ≤ n ∧ (s.2 = 0 → sk B n p = s.1) ∧ s.2 < 4000
set_option maxRecDepth 100000 in
set_option maxHeartbeats 4000000 in
theorem mX11_amount (d : Nat) (h : mm_H) (B : Nat → Int32) (n p : Nat) (s : Nat × Nat) (t : RM B n h p s) (lo hi : Int32) (hlo : 0 ≤ lo.toInt) : ∃ x g q, mm_M (d + 3) YX11_amount [.ref 165, .int lo, .int hi] h (some (.int x)) g ∧ RM B n g q (rd B n s lo hi) ∧ ((rd B n s lo hi).2 = 0 → x = num B n s.1) ∧ mt_fr h g := by
  obtain ⟨t, hpn, hs, hft⟩ := t
  have hn4 := t.2.2.2.2.1
  have hsk := sk_ge (B := B) hpn
  have MB := mX11_blanks (d + 1) h B n p s.2 t (by omega)
  obtain ⟨g1, eg1⟩ : ∃ g : mm_H, g = (mm_up h.1 165 21 (nI (sk B n p)), h.2.1, h.2.2) := ⟨_, rfl⟩
  have t1 : MT B n g1 (sk B n p) s.2 := by rw [eg1]; exact t.p _
  have f1 : mt_fr h g1 := by rw [eg1]; exact mt_p h _
  rw [← eg1] at MB
  by_cases hf : s.2 = 0
  · have ep := hs hf
    obtain ⟨pos, epos⟩ : ∃ pos, pos = s.1 := ⟨_, rfl⟩
    rw [← epos] at ep
    rw [ep] at t1 hsk
    rw [hf] at t1
    have er : rd B n s lo hi = if okN B n pos lo hi then (nx B n pos, 0) else (pos, cdN B n pos) := by unfold rd; rw [if_pos hf, ← epos]
    rw [er, ← epos]
    by_cases hd : pos < n ∧ isD (B pos)
    · have hk : kd B n pos = 2 := by unfold kd; rw [if_neg (by omega), if_pos hd.2]
      obtain ⟨x, g2, M2, t2, x2, f2⟩ := mX11_digits_y d g1 B n pos 0 t1 (by omega) (by decide) hd.1 hd.2
      have hen := en_bd (B := B) hd.1
      have enum : num B n pos = if 5 < en B n pos - pos then -1 else dgv B pos (en B n pos - pos) := by unfold num; rw [if_neg (by omega), if_pos hd.2]
      have enx : nx B n pos = sk B n (en B n pos) := by unfold nx; rw [if_neg (by omega)]
      have ecd : cdN B n pos = 1 + 8 * pos + 1 := by unfold cdN; rw [if_pos hk]
      by_cases h5 : 5 < en B n pos - pos
      · rw [if_pos h5] at t2
        have ef : flt 0 pos 1 = 1 + 8 * pos + 1 := by unfold flt; rw [if_pos rfl]
        rw [ef] at t2
        have hok : ¬ okN B n pos lo hi := fun z => by have := z.2.1; rw [enum, if_pos h5] at this; exact absurd this (by rw [Int32.le_iff_toInt_le, ti_m1]; omega)
        · rw [if_neg hok, ecd]
          refine ⟨x, g2, en B n pos, ?_, ⟨t2, hen.2, fun z => by dsimp only at z; omega, by dsimp only; omega⟩, fun z => by dsimp only at z; omega, f1.trans f2⟩
          refine mm_M.of [some (.ref 165), some (.int lo), some (.int hi), none, none] rfl rfl (Nat.le_of_ble_eq_true rfl) ?_
          refine mm_aload_n dX11_amount_0 rfl rfl ?_
          refine mm_cV (Y1 := YX11_blanks) dX11_amount_1 lX11_231 vX11_blanks (MB) sh_165 rfl rfl (by simp [Value.category]) ?_
          refine mm_aload_n dX11_amount_4 rfl rfl ?_
          refine mm_getI dX11_amount_5 fX11_211 sh_165 rfl ?_
          refine mm_cast (st' := [.int (nI pos)]) rfl (by rw [t1.2.1] <;> rfl) rfl ?_
          refine mm_istore_n dX11_amount_8 rfl (by decide) rfl ?_
          refine mm_aload_n dX11_amount_9 rfl rfl ?_
          refine mm_getI dX11_amount_10 fX11_208 sh_165 rfl ?_
          refine mm_if_ne 25 dX11_amount_13 (by decide) (fun c_13 => ?_) (fun c_13 => ?_)
          · exact absurd (by rw [t1.2.2.1]; rfl) c_13
          · refine mm_aload_n dX11_amount_16 rfl rfl ?_
            refine mm_ldc dX11_amount_17 kX11_255 ?_
            refine mm_cV (Y1 := YX11_digits) dX11_amount_19 lX11_256 vX11_digits (M2) sh_165 rfl rfl (by simp [Value.category]) ?_
            refine mm_goto 26 dX11_amount_22 (by decide) ?_
            refine mm_istore dX11_amount_26 (by decide) rfl ?_
            refine mm_aload_n dX11_amount_28 rfl rfl ?_
            refine mm_getI dX11_amount_29 fX11_208 sh_165 rfl ?_
            refine mm_if_ne 54 dX11_amount_32 (by decide) (fun c_32 => ?_) (fun c_32 => ?_)
            · refine mm_iload dX11_amount_54 rfl ?_
              exact mm_iretE dX11_amount_56 rfl rfl rfl
            · exact absurd ((nI_eq (b := 0) (by omega) (by omega)).mp (t2.2.2.1.symm.trans c_32)) (by omega)
      · rw [if_neg h5] at t2 enum
        have ex := (x2 h5).trans enum.symm
        by_cases hok : okN B n pos lo hi
        · rw [if_pos hok]
          refine ⟨x, g2, en B n pos, ?_, ⟨t2, hen.2, fun _ => enx.symm, by show 0 < 4000; decide⟩, fun _ => ex, f1.trans f2⟩
          refine mm_M.of [some (.ref 165), some (.int lo), some (.int hi), none, none] rfl rfl (Nat.le_of_ble_eq_true rfl) ?_
          refine mm_aload_n dX11_amount_0 rfl rfl ?_
          refine mm_cV (Y1 := YX11_blanks) dX11_amount_1 lX11_231 vX11_blanks (MB) sh_165 rfl rfl (by simp [Value.category]) ?_
          refine mm_aload_n dX11_amount_4 rfl rfl ?_
          refine mm_getI dX11_amount_5 fX11_211 sh_165 rfl ?_
          refine mm_cast (st' := [.int (nI pos)]) rfl (by rw [t1.2.1] <;> rfl) rfl ?_
          refine mm_istore_n dX11_amount_8 rfl (by decide) rfl ?_
          refine mm_aload_n dX11_amount_9 rfl rfl ?_
          refine mm_getI dX11_amount_10 fX11_208 sh_165 rfl ?_
          refine mm_if_ne 25 dX11_amount_13 (by decide) (fun c_13 => ?_) (fun c_13 => ?_)
          · exact absurd (by rw [t1.2.2.1]; rfl) c_13
          · refine mm_aload_n dX11_amount_16 rfl rfl ?_
            refine mm_ldc dX11_amount_17 kX11_255 ?_
            refine mm_cV (Y1 := YX11_digits) dX11_amount_19 lX11_256 vX11_digits (M2) sh_165 rfl rfl (by simp [Value.category]) ?_
            refine mm_goto 26 dX11_amount_22 (by decide) ?_
            refine mm_istore dX11_amount_26 (by decide) rfl ?_
            refine mm_aload_n dX11_amount_28 rfl rfl ?_
            refine mm_getI dX11_amount_29 fX11_208 sh_165 rfl ?_
            refine mm_if_ne 54 dX11_amount_32 (by decide) (fun c_32 => ?_) (fun c_32 => ?_)
            · exact absurd (by rw [t2.2.2.1]; rfl) c_32
            · refine mm_iload dX11_amount_35 rfl ?_
              refine mm_i2l dX11_amount_37 rfl ?_
              refine mm_iload_n dX11_amount_38 rfl rfl ?_
              refine mm_i2l dX11_amount_39 rfl ?_
              refine mm_iload_n dX11_amount_40 rfl rfl ?_
              refine mm_i2l dX11_amount_41 rfl ?_
              refine mm_cS (Y1 := YX11_in) dX11_amount_42 lX11_171 sX11_in (mX11_in (d + 2) g2 _ _ _) rfl rfl (by simp [Value.category]) ?_
              refine mm_if_ne 54 dX11_amount_45 (by decide) (fun c_45 => ?_) (fun c_45 => ?_)
              · refine mm_iload dX11_amount_54 rfl ?_
                exact mm_iretE dX11_amount_56 rfl rfl rfl
              · exact absurd (by have := hok.2; rw [Int32.le_iff_toInt_le, Int32.le_iff_toInt_le] at this; rw [i64_toInt, i64_toInt, i64_toInt, ex]; exact this) (bI_e0.mp c_45)
        · rw [if_neg hok, ecd]
          have M3 := mX11_fails (d + 2) g2 B n (en B n pos) 0 t2 (by omega) (by decide) pos 1 (by omega) (by decide)
          have ef : flt 0 pos 1 = 1 + 8 * pos + 1 := by unfold flt; rw [if_pos rfl]
          rw [ef] at M3
          refine ⟨x, _, en B n pos, ?_, ⟨t2.f _, hen.2, fun z => by dsimp only at z; omega, by dsimp only; omega⟩, fun z => by dsimp only at z; omega, (f1.trans f2).trans (mt_q g2 _)⟩
          refine mm_M.of [some (.ref 165), some (.int lo), some (.int hi), none, none] rfl rfl (Nat.le_of_ble_eq_true rfl) ?_
          refine mm_aload_n dX11_amount_0 rfl rfl ?_
          refine mm_cV (Y1 := YX11_blanks) dX11_amount_1 lX11_231 vX11_blanks (MB) sh_165 rfl rfl (by simp [Value.category]) ?_
          refine mm_aload_n dX11_amount_4 rfl rfl ?_
          refine mm_getI dX11_amount_5 fX11_211 sh_165 rfl ?_
          refine mm_cast (st' := [.int (nI pos)]) rfl (by rw [t1.2.1] <;> rfl) rfl ?_
          refine mm_istore_n dX11_amount_8 rfl (by decide) rfl ?_
          refine mm_aload_n dX11_amount_9 rfl rfl ?_
          refine mm_getI dX11_amount_10 fX11_208 sh_165 rfl ?_
          refine mm_if_ne 25 dX11_amount_13 (by decide) (fun c_13 => ?_) (fun c_13 => ?_)
          · exact absurd (by rw [t1.2.2.1]; rfl) c_13
          · refine mm_aload_n dX11_amount_16 rfl rfl ?_
            refine mm_ldc dX11_amount_17 kX11_255 ?_
            refine mm_cV (Y1 := YX11_digits) dX11_amount_19 lX11_256 vX11_digits (M2) sh_165 rfl rfl (by simp [Value.category]) ?_
            refine mm_goto 26 dX11_amount_22 (by decide) ?_
            refine mm_istore dX11_amount_26 (by decide) rfl ?_
            refine mm_aload_n dX11_amount_28 rfl rfl ?_
            refine mm_getI dX11_amount_29 fX11_208 sh_165 rfl ?_
            refine mm_if_ne 54 dX11_amount_32 (by decide) (fun c_32 => ?_) (fun c_32 => ?_)
            · exact absurd (by rw [t2.2.2.1]; rfl) c_32
            · refine mm_iload dX11_amount_35 rfl ?_
              refine mm_i2l dX11_amount_37 rfl ?_
              refine mm_iload_n dX11_amount_38 rfl rfl ?_
              refine mm_i2l dX11_amount_39 rfl ?_
              refine mm_iload_n dX11_amount_40 rfl rfl ?_
              refine mm_i2l dX11_amount_41 rfl ?_
              refine mm_cS (Y1 := YX11_in) dX11_amount_42 lX11_171 sX11_in (mX11_in (d + 2) g2 _ _ _) rfl rfl (by simp [Value.category]) ?_
              refine mm_if_ne 54 dX11_amount_45 (by decide) (fun c_45 => ?_) (fun c_45 => ?_)
              · exact absurd ⟨hk, by have q := bI_n0.mp c_45; rw [i64_toInt, i64_toInt, i64_toInt, ex] at q; rw [Int32.le_iff_toInt_le, Int32.le_iff_toInt_le]; exact q⟩ hok
              · refine mm_aload_n dX11_amount_48 rfl rfl ?_
                refine mm_iconst (x := 1) dX11_amount_49 (by decide) ?_
                refine mm_iload_n dX11_amount_50 rfl rfl ?_
                refine mm_cV (Y1 := YX11_fails) dX11_amount_51 lX11_247 vX11_fails (M3) sh_165 rfl rfl (by simp [Value.category]) ?_
                refine mm_iload dX11_amount_54 rfl ?_
                exact mm_iretE dX11_amount_56 rfl rfl rfl
    · have hk : ¬ kd B n pos = 2 := fun z => hd (kd_2 z)
      have hok : ¬ okN B n pos lo hi := fun z => hk z.1
      have ecd : cdN B n pos = 1 + 8 * pos + 0 := by unfold cdN; rw [if_neg hk]
      have M2 := mX11_digits_n d g1 B n pos 0 t1 (by omega) (by decide) hd 99999
      have ef : flt 0 pos 0 = 1 + 8 * pos + 0 := by unfold flt; rw [if_pos rfl]
      rw [ef] at M2
      obtain ⟨g2, eg2⟩ : ∃ g : mm_H, g = (mm_up g1.1 165 22 (nI (1 + 8 * pos + 0)), g1.2.1, g1.2.2) := ⟨_, rfl⟩
      have t2 : MT B n g2 pos (1 + 8 * pos + 0) := by rw [eg2]; exact t1.f _
      rw [← eg2] at M2
      rw [if_neg hok, ecd]
      refine ⟨0, g2, pos, ?_, ⟨t2, hsk.2, fun z => by dsimp only at z; omega, by dsimp only; omega⟩, fun z => by dsimp only at z; omega, f1.trans (by rw [eg2]; exact mt_q g1 _)⟩
      refine mm_M.of [some (.ref 165), some (.int lo), some (.int hi), none, none] rfl rfl (Nat.le_of_ble_eq_true rfl) ?_
      refine mm_aload_n dX11_amount_0 rfl rfl ?_
      refine mm_cV (Y1 := YX11_blanks) dX11_amount_1 lX11_231 vX11_blanks (MB) sh_165 rfl rfl (by simp [Value.category]) ?_
      refine mm_aload_n dX11_amount_4 rfl rfl ?_
      refine mm_getI dX11_amount_5 fX11_211 sh_165 rfl ?_
      refine mm_cast (st' := [.int (nI pos)]) rfl (by rw [t1.2.1] <;> rfl) rfl ?_
      refine mm_istore_n dX11_amount_8 rfl (by decide) rfl ?_
      refine mm_aload_n dX11_amount_9 rfl rfl ?_
      refine mm_getI dX11_amount_10 fX11_208 sh_165 rfl ?_
      refine mm_if_ne 25 dX11_amount_13 (by decide) (fun c_13 => ?_) (fun c_13 => ?_)
      · exact absurd (by rw [t1.2.2.1]; rfl) c_13
      · refine mm_aload_n dX11_amount_16 rfl rfl ?_
        refine mm_ldc dX11_amount_17 kX11_255 ?_
        refine mm_cV (Y1 := YX11_digits) dX11_amount_19 lX11_256 vX11_digits (M2) sh_165 rfl rfl (by simp [Value.category]) ?_
        refine mm_goto 26 dX11_amount_22 (by decide) ?_
        refine mm_istore dX11_amount_26 (by decide) rfl ?_
        refine mm_aload_n dX11_amount_28 rfl rfl ?_
        refine mm_getI dX11_amount_29 fX11_208 sh_165 rfl ?_
        refine mm_if_ne 54 dX11_amount_32 (by decide) (fun c_32 => ?_) (fun c_32 => ?_)
        · refine mm_iload dX11_amount_54 rfl ?_
          exact mm_iretE dX11_amount_56 rfl rfl rfl
        · exact absurd ((nI_eq (b := 0) (by omega) (by omega)).mp (t2.2.2.1.symm.trans c_32)) (by omega)
  · have er : rd B n s lo hi = s := by unfold rd; rw [if_neg hf]
    rw [er]
    refine ⟨0, g1, sk B n p, ?_, ⟨t1, hsk.2, fun z => absurd z hf, hft⟩, fun z => absurd z hf, f1⟩
    refine mm_M.of [some (.ref 165), some (.int lo), some (.int hi), none, none] rfl rfl (Nat.le_of_ble_eq_true rfl) ?_
    refine mm_aload_n dX11_amount_0 rfl rfl ?_
    refine mm_cV (Y1 := YX11_blanks) dX11_amount_1 lX11_231 vX11_blanks (MB) sh_165 rfl rfl (by simp [Value.category]) ?_
    refine mm_aload_n dX11_amount_4 rfl rfl ?_
    refine mm_getI dX11_amount_5 fX11_211 sh_165 rfl ?_
    refine mm_istore_n dX11_amount_8 rfl (by decide) rfl ?_
    refine mm_aload_n dX11_amount_9 rfl rfl ?_
    refine mm_getI dX11_amount_10 fX11_208 sh_165 rfl ?_
    refine mm_if_ne 25 dX11_amount_13 (by decide) (fun c_13 => ?_) (fun c_13 => ?_)
    · refine mm_iconst (x := 0) dX11_amount_25 (by decide) ?_
      refine mm_istore dX11_amount_26 (by decide) rfl ?_
      refine mm_aload_n dX11_amount_28 rfl rfl ?_
      refine mm_getI dX11_amount_29 fX11_208 sh_165 rfl ?_
      refine mm_if_ne 54 dX11_amount_32 (by decide) (fun c_32 => ?_) (fun c_32 => ?_)
      · refine mm_iload dX11_amount_54 rfl ?_
        exact mm_iretE dX11_amount_56 rfl rfl rfl
      · exact absurd ((nI_eq (b := 0) (by omega) (by omega)).mp (t1.2.2.1.symm.trans c_32)) hf
    · exact absurd ((nI_eq (b := 0) (by omega) (by omega)).mp (t1.2.2.1.symm.trans c_13)) hf
