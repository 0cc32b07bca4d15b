/-! What is asked of the two sides; sounds, tone, tones, alike. -/
/-- the class is turned there, and knows it -/
def aimedAt (A : MD) (LQ : Nat → LD) (r k : Nat) (h : mm_H) : Prop := aimed A (LQ r) r k h ∧ h.2.2 135 = 25 + 6 * r ∧ h.1 135 3 = nI k
def cst (A : MD) (LQ : Nat → LD) (nl : Nat) (h : mm_H) : Prop := h.1 138 1 = 0 ∧ ∃ r0, r0 < 6 ∧ h.2.2 135 = 25 + 6 * r0 ∧ (h.1 135 3 = -1 ∨ ∃ k, k < mk A ∧ r0 < nl ∧ aimedAt A LQ r0 k h)
/-- the class's side -/
def stC (A : MD) (LQ : Nat → LD) (nl : Nat) (h : mm_H) (G : Nat) : Prop := mdOK A ∧ viewC h A ∧ h.1 0 6 = nI nl ∧ nl ≤ 6 ∧ (∀ r, r < nl → lawOK (LQ r) ∧ lawC h.1 (25 + 6 * r) (LQ r)) ∧ cst A LQ nl h ∧ gcn h G
/-- the reference's side -/
def stM (A : MD) (LQ : Nat → LD) (nl : Nat) (h : mm_H) : Prop := mdOK A ∧ viewM h A ∧ h.1 165 24 = nI nl ∧ nl ≤ 6 ∧ ∀ r, r < nl → lawOK (LQ r) ∧ lawM h.1 r (LQ r)
/-- what a call that only asks leaves of the class's side -/
def cfr (h g : mm_H) : Prop := (∀ c, rg 135 164 c = false → g.1 c = h.1 c ∧ g.2.1 c = h.2.1 c) ∧ ∀ c, c ≠ 135 → c ≠ 145 → g.2.2 c = h.2.2 c
theorem cfr.refl (h : mm_H) : cfr h h := ⟨fun _ _ => ⟨rfl, rfl⟩, fun _ _ _ => rfl⟩
theorem cfr.trans {h g k : mm_H} (a : cfr h g) (b : cfr g k) : cfr h k := ⟨fun c hc => ⟨(b.1 c hc).1.trans (a.1 c hc).1, (b.1 c hc).2.trans (a.1 c hc).2⟩, fun c h1 h2 => (b.2 c h1 h2).trans (a.2 c h1 h2)⟩
theorem frm.cfr {p : Nat → Bool} {h g : mm_H} (a : frm p h g) (hp : ∀ c, rg 135 164 c = false → p c = false) : cfr h g := ⟨fun c hc => a.1 c (hp c hc), fun c _ _ => by rw [a.2]⟩
theorem pC_f {c : Nat} (h : rg 135 164 c = false) : pC c = false := by
  simp only [rg, decide_eq_false_iff_not] at h
  simp only [pC, Bool.or_eq_false_iff]
  exact ⟨rg_f (by omega), rg_f (by omega)⟩
theorem lrn_fr.cfr {h g : mm_H} (a : lrn_fr h g) : cfr h g := a.1.cfr (fun c hc => pC_f hc)
theorem aim_fr.cfr {h g : mm_H} (a : aim_fr h g) : cfr h g := ⟨fun c hc => a.1 c (pC_f hc), a.2.1⟩
theorem gcn_c {h g : mm_H} {G : Nat} (hc : gcn h G) (e1 : g.1 135 11 = h.1 135 11) (e2 : g.1 142 = h.1 142) (e3 : g.1 143 = h.1 143) : gcn g G := ⟨by rw [e1]; exact hc.1, by rw [e2, e3]; exact hc.2⟩
theorem lrn_fr.gcn {h g : mm_H} {G : Nat} (a : lrn_fr h g) (hc : gcn h G) : gcn g G := gcn_c hc (a.2 11 (by decide)) (a.1.i rfl) (a.1.i rfl)
theorem lrn_fr.at {A : MD} {LQ : Nat → LD} {r k : Nat} {h g : mm_H} (a : lrn_fr h g) (hA : aimedAt A LQ r k h) (hg : aimed A (LQ r) r k g) : aimedAt A LQ r k g := ⟨hg, by rw [a.1.2]; exact hA.2.1, by rw [a.2 3 (by decide)]; exact hA.2.2⟩
theorem viewC_cf {h g : mm_H} {A : MD} (hV : viewC h A) (e : cfr h g) : viewC g A := by
  unfold viewC at *
  rw [(e.1 65 rfl).1, (e.1 66 rfl).1, (e.1 67 rfl).1, (e.1 68 rfl).1, (e.1 69 rfl).1, (e.1 70 rfl).1, (e.1 71 rfl).1, (e.1 72 rfl).1, (e.1 73 rfl).1]
  exact hV
theorem cinv.s1 {n : Nat} {ch : Nat → List Int32} {wt : Nat → Int32} {h : mm_H} {m : Nat} {W : Nat → Nat} (hI : cinv n ch wt h m W) : h.1 138 1 = 0 := hI.2.2.2.2.2.1 0 (Nat.zero_le _)
theorem aimed.s1 {A : MD} {Q : LD} {r k : Nat} {h : mm_H} (hW : aimed A Q r k h) : h.1 138 1 = 0 := by
  obtain ⟨-, -, -, -, -, m, W, hI⟩ := hW
  exact hI.s1
theorem stC.next {A : MD} {LQ : Nat → LD} {nl : Nat} {h g : mm_H} {G G2 : Nat} (S : stC A LQ nl h G) (e : cfr h g) {r k : Nat} (hr : r < nl) (hk : k < mk A) (ha : aimedAt A LQ r k g) (hg : gcn g G2) : stC A LQ nl g G2 := by
  obtain ⟨hA, hV, h6, hn6, hL, hc, hG⟩ := S
  refine ⟨hA, viewC_cf hV e, by rw [(e.1 0 rfl).1]; exact h6, hn6, fun q hq => ⟨(hL q hq).1, lawC_c (hL q hq).2 (fun c h1 h2 => (e.1 c (rg_f (by omega))).1)⟩, ⟨ha.1.s1, r, by omega, ha.2.1, Or.inr ⟨k, hk, hr, ha⟩⟩, hg⟩
theorem gr_2 {r : Nat} (h : r < 6) : mm_gr 2 r = some (25 + 6 * r) := by
  rcases (show r = 0 ∨ r = 1 ∨ r = 2 ∨ r = 3 ∨ r = 4 ∨ r = 5 by omega) with rfl | rfl | rfl | rfl | rfl | rfl <;> decide +kernel
theorem aimC (d : Nat) (h : mm_H) (A : MD) (LQ : Nat → LD) (nl G : Nat) (S : stC A LQ nl h G) (r k : Nat) (hr : r < nl) (hk : k < mk A) : ∃ g, mm_M (d + 1) YX0_aim [.ref 135, .ref (25 + 6 * r), .int (nI k)] h none g ∧ aimedAt A LQ r k g ∧ gcn g G ∧ cfr h g := by
  obtain ⟨hA, hV, h6, hn6, hL, ⟨hs1, r0, hr0, e0, hc⟩, hG⟩ := S
  by_cases he : r = r0 ∧ h.1 135 3 = nI k
  · obtain ⟨rfl, e3⟩ := he
    refine ⟨h, mX0_aim_s d h r k hr0 e0 e3, ?_, hG, cfr.refl h⟩
    have h4 := hA.2.1
    rcases hc with hc | ⟨k2, hk2, -, ha⟩
    · rw [e3] at hc
      have := nI_toInt (show k < 2 ^ 31 by omega)
      rw [hc, ti_m1] at this
      omega
    · have : k2 = k := nI_inj (by omega) (by omega) (ha.2.2.symm.trans e3)
      subst this
      exact ha
  · obtain ⟨g, M, a1, a2, a3, a4, a5⟩ := mX0_aim_n d h A hA hV (LQ r) r (by omega) (hL r hr).2 k r0 hr0 e0 he hs1
    exact ⟨g, M, ⟨a1, a2, a3⟩, gcn_c hG (a4.2.2 11 (by decide) (by decide)) (a4.1 142 rfl).1 (a4.1 143 rfl).1, a4.cfr⟩
abbrev askP (A : MD) (nl : Nat) (r c s : Int32) : Prop := (0 ≤ r.toInt ∧ r.toInt < nl) ∧ (0 ≤ c.toInt ∧ c.toInt < mk A) ∧ (0 < mk A ∧ 0 ≤ s.toInt ∧ s.toInt < (2 ^ mn A : Nat))
theorem ask_ex {A : MD} {nl : Nat} {r c s : Int32} (h : askP A nl r c s) : ∃ r' c' a : Nat, r' < nl ∧ c' < mk A ∧ a < 2 ^ mn A ∧ r = nI r' ∧ c = nI c' ∧ s = nI a := by
  obtain ⟨h1, h2, -, h3⟩ := h
  obtain ⟨r', a1, b1⟩ := nI_ex h1
  obtain ⟨c', a2, b2⟩ := nI_ex h2
  obtain ⟨a, a3, b3⟩ := nI_ex h3
  exact ⟨r', c', a, a1, a2, a3, b1, b2, b3⟩
theorem ask_of {A : MD} {nl r k a : Nat} (hn : nl ≤ 6) (hA : mdOK A) (hr : r < nl) (hk : k < mk A) (ha : a < 2 ^ mn A) : askP A nl (nI r) (nI k) (nI a) := by
  have := p2_lt hA.1
  have h4 := hA.2.1
  refine ⟨?_, ?_, by omega, ?_⟩
  · rw [nI_toInt (by omega)]; omega
  · rw [nI_toInt (by omega)]; omega
  · rw [nI_toInt (by omega)]; omega
theorem ti_ne0 {w : Int32} (h : ¬ w = 0) : ¬ w.toInt = 0 := fun z => h (Int32.toInt_inj.mp (z.trans ti_0.symm))
theorem ti_ne1 {w : Int32} (h : ¬ w = 1) : ¬ w.toInt = 1 := fun z => h (Int32.toInt_inj.mp (z.trans ti_1.symm))
theorem ti_ne2 {w : Int32} (h : ¬ w = 2) : ¬ w.toInt = 2 := fun z => h (Int32.toInt_inj.mp (z.trans ti_2.symm))
/-- what a call that only asks leaves of the reference's side -/
def pMs : Nat → Bool := fun c => rg 194 211 c || c == 165
def mfr (h g : mm_H) : Prop := frm pMs h g ∧ ∀ j, j < 49 → g.1 165 j = h.1 165 j
theorem mfr.refl (h : mm_H) : mfr h h := ⟨frm.refl _ _, fun _ _ => rfl⟩
theorem mfr.trans {h g k : mm_H} (a : mfr h g) (b : mfr g k) : mfr h k := ⟨a.1.trans b.1, fun j hj => (b.2 j hj).trans (a.2 j hj)⟩
theorem pMs_f {c : Nat} (h : ¬ (194 ≤ c ∧ c ≤ 211)) (h2 : c ≠ 165) : pMs c = false := by simp only [pMs, Bool.or_eq_false_iff]; exact ⟨rg_f h, by simp [h2]⟩
theorem pMs_g {c : Nat} (h : pMs c = false) : ¬ (194 ≤ c ∧ c ≤ 211) ∧ c ≠ 165 := by
  simp only [pMs, Bool.or_eq_false_iff, rg, decide_eq_false_iff_not, beq_eq_false_iff_ne] at h
  exact h
theorem kp_fr.mfr {h g : mm_H} (a : kp_fr h g) : mfr h g := ⟨a.1.mono (fun c hc => pKp_f (by have := pMs_g hc; omega) (pMs_g hc).2), fun j hj => a.2 j (by omega)⟩
theorem sung.mfr {A : MD} {Q : LD} {k a : Nat} {h g : mm_H} (s : sung A Q k a h g) : mfr h g := ⟨s.1.mono (fun c hc => by
  have := pMs_g hc
  simp only [pSing, Bool.or_eq_false_iff, rg, decide_eq_false_iff_not, beq_eq_false_iff_ne]
  omega), fun j hj => s.2.1 j (by omega)⟩
theorem stM.next {A : MD} {LQ : Nat → LD} {nl : Nat} {h g : mm_H} (S : stM A LQ nl h) (e : mfr h g) : stM A LQ nl g := by
  obtain ⟨hA, hV, h6, hn6, hL⟩ := S
  exact ⟨hA, viewM_f hV e.1 (fun c hc => pMs_f (by omega) (by omega)), by rw [e.2 24 (by decide)]; exact h6, hn6, fun r hr => ⟨(hL r hr).1, lawM_f (hL r hr).2 e.1 (fun c h1 h2 => pMs_f (by omega) (by omega))⟩⟩
set_option maxRecDepth 100000 in
set_option maxHeartbeats 4000000 in
theorem mX10_sounds_n (d : Nat) (h : mm_H) (A : MD) (LQ : Nat → LD) (nl G : Nat) (S : stC A LQ nl h G) (r k s c w : Int32) (hb : ¬ (askP A nl r k s ∧ (0 ≤ c.toInt ∧ c.toInt < mn A) ∧ ¬ (s >>> (c &&& 31)) &&& 1 = 0)) : mm_M (d + 2) YX10_sounds [.ref 0, .int r, .int k, .int s, .int c, .int w] h (some (.int (-20000))) h := by
  refine mm_M.of [some (.ref 0), some (.int r), some (.int k), some (.int s), some (.int c), some (.int w), none] rfl rfl (Nat.le_of_ble_eq_true rfl) ?_
  refine mm_aload_n dX10_sounds_0 rfl rfl ?_
  refine mm_iload_n dX10_sounds_1 rfl rfl ?_
  refine mm_iload_n dX10_sounds_2 rfl rfl ?_
  refine mm_iload_n dX10_sounds_3 rfl rfl ?_
  refine mm_cV (Y1 := YX10_isHearable) dX10_sounds_4 lX10_179 vX10_isHearable (mX10_isHearable d h nl (mn A) (mk A) S.2.2.1 S.2.2.2.1 S.2.1.1 S.1.1 S.2.1.2.1 S.1.2.1 r k s) sh_0 rfl rfl (by simp [Value.category]) ?_
  refine mm_if_eq 28 dX10_sounds_7 (by decide) (fun c_7 => ?_) (fun c_7 => ?_)
  · refine mm_sipush (x := (-20000)) dX10_sounds_28 (by decide) ?_
    exact mm_iretE dX10_sounds_31 rfl rfl rfl
  · refine mm_aload_n dX10_sounds_10 rfl rfl ?_
    refine mm_iload dX10_sounds_11 rfl ?_
    refine mm_cV (Y1 := YX10_isCoin) dX10_sounds_13 lX10_126 vX10_isCoin (mX10_isCoin (d + 1) h (mn A) S.2.1.1 S.1.1 c) sh_0 rfl rfl (by simp [Value.category]) ?_
    refine mm_if_eq 28 dX10_sounds_16 (by decide) (fun c_16 => ?_) (fun c_16 => ?_)
    · refine mm_sipush (x := (-20000)) dX10_sounds_28 (by decide) ?_
      exact mm_iretE dX10_sounds_31 rfl rfl rfl
    · refine mm_iload_n dX10_sounds_19 rfl rfl ?_
      refine mm_iload dX10_sounds_20 rfl ?_
      refine mm_ishr dX10_sounds_22 ?_
      refine mm_iconst (x := 1) dX10_sounds_23 (by decide) ?_
      refine mm_iand dX10_sounds_24 ?_
      refine mm_if_ne 32 dX10_sounds_25 (by decide) (fun c_25 => ?_) (fun c_25 => ?_)
      · exact absurd ⟨bI_n0.mp c_7, bI_n0.mp c_16, c_25⟩ hb
      · refine mm_sipush (x := (-20000)) dX10_sounds_28 (by decide) ?_
        exact mm_iretE dX10_sounds_31 rfl rfl rfl
set_option maxRecDepth 100000 in
set_option maxHeartbeats 4000000 in
theorem mX10_sounds_y (d : Nat) (h : mm_H) (A : MD) (LQ : Nat → LD) (nl G : Nat) (S : stC A LQ nl h G) (r k a : Nat) (hr : r < nl) (hk : k < mk A) (ha : a < 2 ^ mn A) (c : Nat) (hc : c < mn A) (hb : sp_bit (nI a) c = 1) (w : Int32) : ∃ g, mm_M (d + 4) YX10_sounds [.ref 0, .int (nI r), .int (nI k), .int (nI a), .int (nI c), .int w] h (some (.int (if w = 0 then kN A (LQ r) k a c else if w = 1 then kS A (LQ r) k a c else -20000))) g ∧ cfr h g ∧ stC A LQ nl g G := by
  have S0 := S
  obtain ⟨g1, M1, a1, a2, a3⟩ := aimC (d + 2) h A LQ nl G S r k hr hk
  have N1 := mX10_isHearable (d + 2) h nl (mn A) (mk A) S.2.2.1 S.2.2.2.1 S.2.1.1 S.1.1 S.2.1.2.1 S.1.2.1 (nI r) (nI k) (nI a)
  have N2 := mX10_isCoin (d + 3) h (mn A) S.2.1.1 S.1.1 (nI c)
  obtain ⟨hA, hV, h6, hn6, hL, -, -⟩ := S
  have h12 := hA.1
  have h4 := hA.2.1
  have hp := p2_lt h12
  obtain ⟨g2, M2, fL, s2, s3, s4, s5, s6⟩ := mX1_listen d g1 A hA a1.1.1 (LQ r) r (by omega) (hL r hr).1 a1.1.2.1 a1.1.2.2.1 k hk a1.1.2.2.2.1 a ha a1.1.2.2.2.2.1
  have hs := slt_lt hA ha hc hb
  obtain ⟨t1, t2, t3⟩ := s6 c hc hb
  have fC : cfr g1 g2 := fL.cfr (fun c hc => by simp only [rg, decide_eq_false_iff_not] at hc; exact rg_f (by omega))
  have a1' : aimedAt A LQ r k g2 := by
    obtain ⟨⟨b1, b2, b3, b4, b5, m, W, b6⟩, b7, b8⟩ := a1
    refine ⟨⟨viewC_cf b1 fC, lawC_c b2 (fun c h1 h2 => (fC.1 c (rg_f (by omega))).1), by rw [fL.2]; exact b3, by rw [s2 2 (by decide)]; exact b4, s5, m, W, cinv_f b6 (by rw [fL.i rfl]) (fL.i rfl) (fL.i rfl) (fL.i rfl) (fL.i rfl) (fL.i rfl) (fun b _ => Or.inr (by rw [fL.i rfl]))⟩, by rw [fL.2]; exact b7, by rw [fL.i rfl]; exact b8⟩
  refine ⟨g2, ?_, a3.trans fC, S0.next (a3.trans fC) hr hk a1' (gcn_c a2 (by rw [fL.i rfl]) (fL.i rfl) (fL.i rfl))⟩
  refine mm_M.of [some (.ref 0), some (.int (nI r)), some (.int (nI k)), some (.int (nI a)), some (.int (nI c)), some (.int w), none] rfl rfl (Nat.le_of_ble_eq_true rfl) ?_
  by_cases w0 : w = 0
  · subst w0
    rw [if_pos rfl]
    refine mm_aload_n dX10_sounds_0 rfl rfl ?_
    refine mm_iload_n dX10_sounds_1 rfl rfl ?_
    refine mm_iload_n dX10_sounds_2 rfl rfl ?_
    refine mm_iload_n dX10_sounds_3 rfl rfl ?_
    refine mm_cV (Y1 := YX10_isHearable) dX10_sounds_4 lX10_179 vX10_isHearable (N1) sh_0 rfl rfl (by simp [Value.category]) ?_
    refine mm_if_eq 28 dX10_sounds_7 (by decide) (fun c_7 => ?_) (fun c_7 => ?_)
    · exact absurd (ask_of hn6 hA hr hk ha) (bI_e0.mp c_7)
    · refine mm_aload_n dX10_sounds_10 rfl rfl ?_
      refine mm_iload dX10_sounds_11 rfl ?_
      refine mm_cV (Y1 := YX10_isCoin) dX10_sounds_13 lX10_126 vX10_isCoin (N2) sh_0 rfl rfl (by simp [Value.category]) ?_
      refine mm_if_eq 28 dX10_sounds_16 (by decide) (fun c_16 => ?_) (fun c_16 => ?_)
      · exact absurd (by rw [nI_toInt (by omega)]; omega) (bI_e0.mp c_16)
      · refine mm_iload_n dX10_sounds_19 rfl rfl ?_
        refine mm_iload dX10_sounds_20 rfl ?_
        refine mm_ishr dX10_sounds_22 ?_
        refine mm_iconst (x := 1) dX10_sounds_23 (by decide) ?_
        refine mm_iand dX10_sounds_24 ?_
        refine mm_if_ne 32 dX10_sounds_25 (by decide) (fun c_25 => ?_) (fun c_25 => ?_)
        · refine mm_aload_n dX10_sounds_32 rfl rfl ?_
          refine mm_getS dX10_sounds_33 fX10_69 sh_0 rfl gr_0_10 ?_
          refine mm_aload_n dX10_sounds_36 rfl rfl ?_
          refine mm_getS dX10_sounds_37 fX10_38 sh_0 rfl gr_0_5 ?_
          refine mm_iload_n dX10_sounds_40 rfl rfl ?_
          refine mm_aald (r) dX10_sounds_41 (Or.inl rfl) sh_2 rfl (by omega) (gr_2 (by omega)) ?_
          refine mm_iload_n dX10_sounds_42 rfl rfl ?_
          refine mm_cV (Y1 := YX0_aim) dX10_sounds_43 lX10_183 vX0_aim (M1) sh_135 rfl rfl (by simp [Value.category]) ?_
          refine mm_aload_n dX10_sounds_46 rfl rfl ?_
          refine mm_getS dX10_sounds_47 fX10_69 sh_0 rfl gr_0_10 ?_
          refine mm_getS dX10_sounds_50 fX10_187 sh_135 rfl gr_135_0 ?_
          refine mm_astore dX10_sounds_53 (by decide) rfl ?_
          refine mm_aload dX10_sounds_55 rfl ?_
          refine mm_iload_n dX10_sounds_57 rfl rfl ?_
          refine mm_cV (Y1 := YX1_listen) dX10_sounds_58 lX10_191 vX1_listen (M2) sh_145 rfl rfl (by simp [Value.category]) ?_
          refine mm_iload dX10_sounds_61 rfl ?_
          refine mm_lookup (off := 25) 88 dX10_sounds_63 (by decide) (by decide) (by decide) ?_
          refine mm_aload dX10_sounds_88 rfl ?_
          refine mm_iload dX10_sounds_90 rfl ?_
          refine mm_cV (Y1 := YX1_noteOf) dX10_sounds_92 lX10_196 vX1_noteOf (mX1_noteOf (d + 3) g2 c (by omega) _ t1 hs) sh_145 rfl rfl (by simp [Value.category]) ?_
          exact mm_iretE dX10_sounds_95 rfl t2 rfl
        · exact absurd (by rw [← hb]; exact c_25.symm) (show ¬ (0 : Int32) = 1 by decide)
  by_cases w1 : w = 1
  · subst w1
    rw [if_neg w0, if_pos rfl]
    refine mm_aload_n dX10_sounds_0 rfl rfl ?_
    refine mm_iload_n dX10_sounds_1 rfl rfl ?_
    refine mm_iload_n dX10_sounds_2 rfl rfl ?_
    refine mm_iload_n dX10_sounds_3 rfl rfl ?_
    refine mm_cV (Y1 := YX10_isHearable) dX10_sounds_4 lX10_179 vX10_isHearable (N1) sh_0 rfl rfl (by simp [Value.category]) ?_
    refine mm_if_eq 28 dX10_sounds_7 (by decide) (fun c_7 => ?_) (fun c_7 => ?_)
    · exact absurd (ask_of hn6 hA hr hk ha) (bI_e0.mp c_7)
    · refine mm_aload_n dX10_sounds_10 rfl rfl ?_
      refine mm_iload dX10_sounds_11 rfl ?_
      refine mm_cV (Y1 := YX10_isCoin) dX10_sounds_13 lX10_126 vX10_isCoin (N2) sh_0 rfl rfl (by simp [Value.category]) ?_
      refine mm_if_eq 28 dX10_sounds_16 (by decide) (fun c_16 => ?_) (fun c_16 => ?_)
      · exact absurd (by rw [nI_toInt (by omega)]; omega) (bI_e0.mp c_16)
      · refine mm_iload_n dX10_sounds_19 rfl rfl ?_
        refine mm_iload dX10_sounds_20 rfl ?_
        refine mm_ishr dX10_sounds_22 ?_
        refine mm_iconst (x := 1) dX10_sounds_23 (by decide) ?_
        refine mm_iand dX10_sounds_24 ?_
        refine mm_if_ne 32 dX10_sounds_25 (by decide) (fun c_25 => ?_) (fun c_25 => ?_)
        · refine mm_aload_n dX10_sounds_32 rfl rfl ?_
          refine mm_getS dX10_sounds_33 fX10_69 sh_0 rfl gr_0_10 ?_
          refine mm_aload_n dX10_sounds_36 rfl rfl ?_
          refine mm_getS dX10_sounds_37 fX10_38 sh_0 rfl gr_0_5 ?_
          refine mm_iload_n dX10_sounds_40 rfl rfl ?_
          refine mm_aald (r) dX10_sounds_41 (Or.inl rfl) sh_2 rfl (by omega) (gr_2 (by omega)) ?_
          refine mm_iload_n dX10_sounds_42 rfl rfl ?_
          refine mm_cV (Y1 := YX0_aim) dX10_sounds_43 lX10_183 vX0_aim (M1) sh_135 rfl rfl (by simp [Value.category]) ?_
          refine mm_aload_n dX10_sounds_46 rfl rfl ?_
          refine mm_getS dX10_sounds_47 fX10_69 sh_0 rfl gr_0_10 ?_
          refine mm_getS dX10_sounds_50 fX10_187 sh_135 rfl gr_135_0 ?_
          refine mm_astore dX10_sounds_53 (by decide) rfl ?_
          refine mm_aload dX10_sounds_55 rfl ?_
          refine mm_iload_n dX10_sounds_57 rfl rfl ?_
          refine mm_cV (Y1 := YX1_listen) dX10_sounds_58 lX10_191 vX1_listen (M2) sh_145 rfl rfl (by simp [Value.category]) ?_
          refine mm_iload dX10_sounds_61 rfl ?_
          refine mm_lookup (off := 33) 96 dX10_sounds_63 (by decide) (by decide) (by decide) ?_
          refine mm_aload dX10_sounds_96 rfl ?_
          refine mm_iload dX10_sounds_98 rfl ?_
          refine mm_cV (Y1 := YX1_strengthOf) dX10_sounds_100 lX10_199 vX1_strengthOf (mX1_strengthOf (d + 3) g2 c (by omega) _ t1 hs) sh_145 rfl rfl (by simp [Value.category]) ?_
          exact mm_iretE dX10_sounds_103 rfl t3 rfl
        · exact absurd (by rw [← hb]; exact c_25.symm) (show ¬ (0 : Int32) = 1 by decide)
  · rw [if_neg w0, if_neg w1]
    refine mm_aload_n dX10_sounds_0 rfl rfl ?_
    refine mm_iload_n dX10_sounds_1 rfl rfl ?_
    refine mm_iload_n dX10_sounds_2 rfl rfl ?_
    refine mm_iload_n dX10_sounds_3 rfl rfl ?_
    refine mm_cV (Y1 := YX10_isHearable) dX10_sounds_4 lX10_179 vX10_isHearable (N1) sh_0 rfl rfl (by simp [Value.category]) ?_
    refine mm_if_eq 28 dX10_sounds_7 (by decide) (fun c_7 => ?_) (fun c_7 => ?_)
    · exact absurd (ask_of hn6 hA hr hk ha) (bI_e0.mp c_7)
    · refine mm_aload_n dX10_sounds_10 rfl rfl ?_
      refine mm_iload dX10_sounds_11 rfl ?_
      refine mm_cV (Y1 := YX10_isCoin) dX10_sounds_13 lX10_126 vX10_isCoin (N2) sh_0 rfl rfl (by simp [Value.category]) ?_
      refine mm_if_eq 28 dX10_sounds_16 (by decide) (fun c_16 => ?_) (fun c_16 => ?_)
      · exact absurd (by rw [nI_toInt (by omega)]; omega) (bI_e0.mp c_16)
      · refine mm_iload_n dX10_sounds_19 rfl rfl ?_
        refine mm_iload dX10_sounds_20 rfl ?_
        refine mm_ishr dX10_sounds_22 ?_
        refine mm_iconst (x := 1) dX10_sounds_23 (by decide) ?_
        refine mm_iand dX10_sounds_24 ?_
        refine mm_if_ne 32 dX10_sounds_25 (by decide) (fun c_25 => ?_) (fun c_25 => ?_)
        · refine mm_aload_n dX10_sounds_32 rfl rfl ?_
          refine mm_getS dX10_sounds_33 fX10_69 sh_0 rfl gr_0_10 ?_
          refine mm_aload_n dX10_sounds_36 rfl rfl ?_
          refine mm_getS dX10_sounds_37 fX10_38 sh_0 rfl gr_0_5 ?_
          refine mm_iload_n dX10_sounds_40 rfl rfl ?_
          refine mm_aald (r) dX10_sounds_41 (Or.inl rfl) sh_2 rfl (by omega) (gr_2 (by omega)) ?_
          refine mm_iload_n dX10_sounds_42 rfl rfl ?_
          refine mm_cV (Y1 := YX0_aim) dX10_sounds_43 lX10_183 vX0_aim (M1) sh_135 rfl rfl (by simp [Value.category]) ?_
          refine mm_aload_n dX10_sounds_46 rfl rfl ?_
          refine mm_getS dX10_sounds_47 fX10_69 sh_0 rfl gr_0_10 ?_
          refine mm_getS dX10_sounds_50 fX10_187 sh_135 rfl gr_135_0 ?_
          refine mm_astore dX10_sounds_53 (by decide) rfl ?_
          refine mm_aload dX10_sounds_55 rfl ?_
          refine mm_iload_n dX10_sounds_57 rfl rfl ?_
          refine mm_cV (Y1 := YX1_listen) dX10_sounds_58 lX10_191 vX1_listen (M2) sh_145 rfl rfl (by simp [Value.category]) ?_
          refine mm_iload dX10_sounds_61 rfl ?_
          refine mm_lookup (off := 41) 104 dX10_sounds_63 (by decide) (by simp [Op.lookupswitch.offset, Ne.symm (ti_ne0 w0), Ne.symm (ti_ne1 w1)]) (by decide) ?_
          refine mm_sipush (x := (-20000)) dX10_sounds_104 (by decide) ?_
          exact mm_iretE dX10_sounds_107 rfl rfl rfl
        · exact absurd (by rw [← hb]; exact c_25.symm) (show ¬ (0 : Int32) = 1 by decide)
/-- what the class hears of a set, and the tones -/
theorem hearC (d : Nat) (h : mm_H) (A : MD) (hA : mdOK A) (LQ : Nat → LD) (r k : Nat) (hr : r < 6) (hQ : lawOK (LQ r)) (hk : k < mk A) (ha : aimedAt A LQ r k h) (a : Nat) (haa : a < 2 ^ mn A) : ∃ g1 g2, mm_M (d + 3) YX1_listen [.ref 145, .int (nI a)] h none g1 ∧ mm_M (d + 3) YX1_gatherTones [.ref 145] g1 none g2 ∧ cfr h g2 ∧ aimedAt A LQ r k g2 ∧ (∀ G, gcn h G → gcn g2 G) ∧ g2.1 145 13 = nI (tL A (LQ r) k a).length ∧ trep (g2.1 152) (g2.1 153) (g2.1 154) (tL A (LQ r) k a) := by
  obtain ⟨⟨hV, hC, hR, hK, hI, m, W, hcv⟩, b7, b8⟩ := ha
  obtain ⟨g1, M1, f1, s2, s3, s4, s5, s6⟩ := mX1_listen d h A hA hV (LQ r) r hr hQ hC hR k hk hK a haa hI
  have hV1 := viewC_f hV f1 (fun c hc => rg_f (by omega))
  have hol : (oL A (LQ r) k a).length ≤ mn A := ordL_len (mn A)
  have h12 := hA.1
  obtain ⟨g2, M2, t1, t2, t3, t4, t5⟩ := mX1_gatherTones (d + 2) g1 (kN A (LQ r) k a) (kS A (LQ r) k a) (oL A (LQ r) k a) (by omega) s3 s4 (fun j hj => by
    have q := ordL_mem (mn A) j hj
    exact ⟨by omega, slt A a j, slt_lt hA haa q.1 q.2.1, s6 j q.1 q.2.1⟩)
  rw [hV1.2.2.1] at t4 t5
  have f2 : frm (rg 145 154) h g2 := by
    refine (f1.mono (fun c hc => ?_)).trans ⟨fun c hc => ?_, by rw [t1]⟩
    · simp only [rg, decide_eq_false_iff_not] at hc; exact rg_f (by omega)
    · simp only [rg, decide_eq_false_iff_not] at hc
      exact ⟨t2 c (by omega) (by omega) (by omega) (by omega), by rw [t1]⟩
  refine ⟨g1, g2, M1, M2, f2.cfr (fun c hc => ?_), ⟨⟨viewC_f hV f2 (fun c hc => rg_f (by omega)), lawC_f hC f2 (fun c h1 h2 => rg_f (by omega)), by rw [f2.2]; exact hR, by rw [t3 2 (by decide), s2 2 (by decide)]; exact hK, kinv_c s5 (t2 146 (by decide) (by decide) (by decide) (by decide)) (t2 147 (by decide) (by decide) (by decide) (by decide)), m, W, cinv_f hcv (by rw [f2.i rfl]) (f2.i rfl) (f2.i rfl) (f2.i rfl) (f2.i rfl) (f2.i rfl) (fun b _ => Or.inr (by rw [f2.i rfl]))⟩, by rw [f2.2]; exact b7, by rw [f2.i rfl]; exact b8⟩, fun G hG => gcn_c hG (by rw [f2.i rfl]) (f2.i rfl) (f2.i rfl), t4, t5⟩
  simp only [rg, decide_eq_false_iff_not] at hc
  exact rg_f (by omega)
noncomputable def tv (A : MD) (Q : LD) (k a j : Nat) (w : Int32) : Int32 := if w = 0 then ((tL A Q k a).getD ((tL A Q k a).length - 1 - j) (0, 0, 0)).1 else if w = 1 then ((tL A Q k a).getD ((tL A Q k a).length - 1 - j) (0, 0, 0)).2.1 else if w = 2 then ((tL A Q k a).getD ((tL A Q k a).length - 1 - j) (0, 0, 0)).2.2 else -20000
theorem tL_len {A : MD} (h12 : mn A ≤ 12) (Q : LD) (k a : Nat) : (tL A Q k a).length ≤ 12 := by
  have h1 := tonL_len (kN A Q k a) (kS A Q k a) (mb A) (oL A Q k a)
  have h2 : (oL A Q k a).length ≤ mn A := ordL_len (mn A)
  unfold tL
  omega
set_option maxRecDepth 100000 in
set_option maxHeartbeats 4000000 in
theorem mX10_tone_n (d : Nat) (h : mm_H) (A : MD) (LQ : Nat → LD) (nl G : Nat) (S : stC A LQ nl h G) (r k s c w : Int32) (hb : ¬ askP A nl r k s) : mm_M (d + 2) YX10_tone [.ref 0, .int r, .int k, .int s, .int c, .int w] h (some (.int (-20000))) h := by
  refine mm_M.of [some (.ref 0), some (.int r), some (.int k), some (.int s), some (.int c), some (.int w), none] rfl rfl (Nat.le_of_ble_eq_true rfl) ?_
  refine mm_aload_n dX10_tone_0 rfl rfl ?_
  refine mm_iload_n dX10_tone_1 rfl rfl ?_
  refine mm_iload_n dX10_tone_2 rfl rfl ?_
  refine mm_iload_n dX10_tone_3 rfl rfl ?_
  refine mm_cV (Y1 := YX10_isHearable) dX10_tone_4 lX10_179 vX10_isHearable (mX10_isHearable d h nl (mn A) (mk A) S.2.2.1 S.2.2.2.1 S.2.1.1 S.1.1 S.2.1.2.1 S.1.2.1 r k s) sh_0 rfl rfl (by simp [Value.category]) ?_
  refine mm_if_ne 14 dX10_tone_7 (by decide) (fun c_7 => ?_) (fun c_7 => ?_)
  · exact absurd (bI_n0.mp c_7) hb
  · refine mm_sipush (x := (-20000)) dX10_tone_10 (by decide) ?_
    exact mm_iretE dX10_tone_13 rfl rfl rfl
set_option maxRecDepth 100000 in
set_option maxHeartbeats 4000000 in
theorem mX10_tone_y (d : Nat) (h : mm_H) (A : MD) (LQ : Nat → LD) (nl G : Nat) (S : stC A LQ nl h G) (r k a : Nat) (hr : r < nl) (hk : k < mk A) (ha : a < 2 ^ mn A) (c w : Int32) : ∃ g, mm_M (d + 4) YX10_tone [.ref 0, .int (nI r), .int (nI k), .int (nI a), .int c, .int w] h (some (.int (if 0 ≤ c.toInt ∧ c.toInt < (tL A (LQ r) k a).length then tv A (LQ r) k a c.toNatClampNeg w else -20000))) g ∧ cfr h g ∧ stC A LQ nl g G := by
  have S0 := S
  obtain ⟨g1, M1, a1, a2, a3⟩ := aimC (d + 2) h A LQ nl G S r k hr hk
  have N1 := mX10_isHearable (d + 2) h nl (mn A) (mk A) S.2.2.1 S.2.2.2.1 S.2.1.1 S.1.1 S.2.1.2.1 S.1.2.1 (nI r) (nI k) (nI a)
  obtain ⟨hA, hV, h6, hn6, hL, -, -⟩ := S
  have h12 := hA.1
  have h4 := hA.2.1
  have hp := p2_lt h12
  obtain ⟨g2, g3, M2, M3, b1, b2, b3, b4, b5⟩ := hearC d g1 A hA LQ r k (by omega) (hL r hr).1 hk a1 a ha
  have htl := tL_len h12 (LQ r) k a
  refine ⟨g3, ?_, a3.trans b1, S0.next (a3.trans b1) hr hk b2 (b3 G a2)⟩
  refine mm_M.of [some (.ref 0), some (.int (nI r)), some (.int (nI k)), some (.int (nI a)), some (.int c), some (.int w), none] rfl rfl (Nat.le_of_ble_eq_true rfl) ?_
  by_cases hc : 0 ≤ c.toInt ∧ c.toInt < (tL A (LQ r) k a).length
  · obtain ⟨j, hj, rfl⟩ := nI_ex hc
    obtain ⟨t1, t2, t3⟩ := b5 j hj
    rw [if_pos hc, nI_clamp (by omega)]
    by_cases w0 : w = 0
    · subst w0
      refine mm_aload_n dX10_tone_0 rfl rfl ?_
      refine mm_iload_n dX10_tone_1 rfl rfl ?_
      refine mm_iload_n dX10_tone_2 rfl rfl ?_
      refine mm_iload_n dX10_tone_3 rfl rfl ?_
      refine mm_cV (Y1 := YX10_isHearable) dX10_tone_4 lX10_179 vX10_isHearable (N1) sh_0 rfl rfl (by simp [Value.category]) ?_
      refine mm_if_ne 14 dX10_tone_7 (by decide) (fun c_7 => ?_) (fun c_7 => ?_)
      · refine mm_aload_n dX10_tone_14 rfl rfl ?_
        refine mm_getS dX10_tone_15 fX10_69 sh_0 rfl gr_0_10 ?_
        refine mm_aload_n dX10_tone_18 rfl rfl ?_
        refine mm_getS dX10_tone_19 fX10_38 sh_0 rfl gr_0_5 ?_
        refine mm_iload_n dX10_tone_22 rfl rfl ?_
        refine mm_aald (r) dX10_tone_23 (Or.inl rfl) sh_2 rfl (by omega) (gr_2 (by omega)) ?_
        refine mm_iload_n dX10_tone_24 rfl rfl ?_
        refine mm_cV (Y1 := YX0_aim) dX10_tone_25 lX10_183 vX0_aim (M1) sh_135 rfl rfl (by simp [Value.category]) ?_
        refine mm_aload_n dX10_tone_28 rfl rfl ?_
        refine mm_getS dX10_tone_29 fX10_69 sh_0 rfl gr_0_10 ?_
        refine mm_getS dX10_tone_32 fX10_187 sh_135 rfl gr_135_0 ?_
        refine mm_astore dX10_tone_35 (by decide) rfl ?_
        refine mm_aload dX10_tone_37 rfl ?_
        refine mm_iload_n dX10_tone_39 rfl rfl ?_
        refine mm_cV (Y1 := YX1_listen) dX10_tone_40 lX10_191 vX1_listen (M2) sh_145 rfl rfl (by simp [Value.category]) ?_
        refine mm_aload dX10_tone_43 rfl ?_
        refine mm_cV (Y1 := YX1_gatherTones) dX10_tone_45 lX10_202 vX1_gatherTones (M3) sh_145 rfl rfl (by simp [Value.category]) ?_
        refine mm_iload dX10_tone_48 rfl ?_
        refine mm_if_lt 63 dX10_tone_50 (by decide) (fun c_50 => ?_) (fun c_50 => ?_)
        · exact absurd c_50 (nI_pos (by omega))
        · refine mm_iload dX10_tone_53 rfl ?_
          refine mm_aload dX10_tone_55 rfl ?_
          refine mm_getI dX10_tone_57 fX10_205 sh_145 rfl ?_
          refine mm_icmp_lt 67 dX10_tone_60 (by decide) (fun c_60 => ?_) (fun c_60 => ?_)
          · refine mm_iload dX10_tone_67 rfl ?_
            refine mm_tableIn (off := 27) 96 dX10_tone_69 (by decide) (by decide) (by decide) (by decide) ?_
            refine mm_aload dX10_tone_96 rfl ?_
            refine mm_getS dX10_tone_98 fX10_208 sh_145 rfl gr_145_10 ?_
            refine mm_iload dX10_tone_101 rfl ?_
            refine mm_iald (j) dX10_tone_103 sh_152 rfl (by omega) ?_
            exact mm_iretE dX10_tone_104 rfl (by rw [t1]; unfold tv; rw [if_pos rfl]) rfl
          · exact absurd (by rw [b4]; exact nI_lt hj (by omega)) c_60
      · exact absurd (ask_of hn6 hA hr hk ha) (bI_e0.mp c_7)
    by_cases w1 : w = 1
    · subst w1
      refine mm_aload_n dX10_tone_0 rfl rfl ?_
      refine mm_iload_n dX10_tone_1 rfl rfl ?_
      refine mm_iload_n dX10_tone_2 rfl rfl ?_
      refine mm_iload_n dX10_tone_3 rfl rfl ?_
      refine mm_cV (Y1 := YX10_isHearable) dX10_tone_4 lX10_179 vX10_isHearable (N1) sh_0 rfl rfl (by simp [Value.category]) ?_
      refine mm_if_ne 14 dX10_tone_7 (by decide) (fun c_7 => ?_) (fun c_7 => ?_)
      · refine mm_aload_n dX10_tone_14 rfl rfl ?_
        refine mm_getS dX10_tone_15 fX10_69 sh_0 rfl gr_0_10 ?_
        refine mm_aload_n dX10_tone_18 rfl rfl ?_
        refine mm_getS dX10_tone_19 fX10_38 sh_0 rfl gr_0_5 ?_
        refine mm_iload_n dX10_tone_22 rfl rfl ?_
        refine mm_aald (r) dX10_tone_23 (Or.inl rfl) sh_2 rfl (by omega) (gr_2 (by omega)) ?_
        refine mm_iload_n dX10_tone_24 rfl rfl ?_
        refine mm_cV (Y1 := YX0_aim) dX10_tone_25 lX10_183 vX0_aim (M1) sh_135 rfl rfl (by simp [Value.category]) ?_
        refine mm_aload_n dX10_tone_28 rfl rfl ?_
        refine mm_getS dX10_tone_29 fX10_69 sh_0 rfl gr_0_10 ?_
        refine mm_getS dX10_tone_32 fX10_187 sh_135 rfl gr_135_0 ?_
        refine mm_astore dX10_tone_35 (by decide) rfl ?_
        refine mm_aload dX10_tone_37 rfl ?_
        refine mm_iload_n dX10_tone_39 rfl rfl ?_
        refine mm_cV (Y1 := YX1_listen) dX10_tone_40 lX10_191 vX1_listen (M2) sh_145 rfl rfl (by simp [Value.category]) ?_
        refine mm_aload dX10_tone_43 rfl ?_
        refine mm_cV (Y1 := YX1_gatherTones) dX10_tone_45 lX10_202 vX1_gatherTones (M3) sh_145 rfl rfl (by simp [Value.category]) ?_
        refine mm_iload dX10_tone_48 rfl ?_
        refine mm_if_lt 63 dX10_tone_50 (by decide) (fun c_50 => ?_) (fun c_50 => ?_)
        · exact absurd c_50 (nI_pos (by omega))
        · refine mm_iload dX10_tone_53 rfl ?_
          refine mm_aload dX10_tone_55 rfl ?_
          refine mm_getI dX10_tone_57 fX10_205 sh_145 rfl ?_
          refine mm_icmp_lt 67 dX10_tone_60 (by decide) (fun c_60 => ?_) (fun c_60 => ?_)
          · refine mm_iload dX10_tone_67 rfl ?_
            refine mm_tableIn (off := 36) 105 dX10_tone_69 (by decide) (by decide) (by decide) (by decide) ?_
            refine mm_aload dX10_tone_105 rfl ?_
            refine mm_getS dX10_tone_107 fX10_211 sh_145 rfl gr_145_11 ?_
            refine mm_iload dX10_tone_110 rfl ?_
            refine mm_iald (j) dX10_tone_112 sh_153 rfl (by omega) ?_
            exact mm_iretE dX10_tone_113 rfl (by rw [t2]; unfold tv; rw [if_neg w0, if_pos rfl]) rfl
          · exact absurd (by rw [b4]; exact nI_lt hj (by omega)) c_60
      · exact absurd (ask_of hn6 hA hr hk ha) (bI_e0.mp c_7)
    by_cases w2 : w = 2
    · subst w2
      refine mm_aload_n dX10_tone_0 rfl rfl ?_
      refine mm_iload_n dX10_tone_1 rfl rfl ?_
      refine mm_iload_n dX10_tone_2 rfl rfl ?_
      refine mm_iload_n dX10_tone_3 rfl rfl ?_
      refine mm_cV (Y1 := YX10_isHearable) dX10_tone_4 lX10_179 vX10_isHearable (N1) sh_0 rfl rfl (by simp [Value.category]) ?_
      refine mm_if_ne 14 dX10_tone_7 (by decide) (fun c_7 => ?_) (fun c_7 => ?_)
      · refine mm_aload_n dX10_tone_14 rfl rfl ?_
        refine mm_getS dX10_tone_15 fX10_69 sh_0 rfl gr_0_10 ?_
        refine mm_aload_n dX10_tone_18 rfl rfl ?_
        refine mm_getS dX10_tone_19 fX10_38 sh_0 rfl gr_0_5 ?_
        refine mm_iload_n dX10_tone_22 rfl rfl ?_
        refine mm_aald (r) dX10_tone_23 (Or.inl rfl) sh_2 rfl (by omega) (gr_2 (by omega)) ?_
        refine mm_iload_n dX10_tone_24 rfl rfl ?_
        refine mm_cV (Y1 := YX0_aim) dX10_tone_25 lX10_183 vX0_aim (M1) sh_135 rfl rfl (by simp [Value.category]) ?_
        refine mm_aload_n dX10_tone_28 rfl rfl ?_
        refine mm_getS dX10_tone_29 fX10_69 sh_0 rfl gr_0_10 ?_
        refine mm_getS dX10_tone_32 fX10_187 sh_135 rfl gr_135_0 ?_
        refine mm_astore dX10_tone_35 (by decide) rfl ?_
        refine mm_aload dX10_tone_37 rfl ?_
        refine mm_iload_n dX10_tone_39 rfl rfl ?_
        refine mm_cV (Y1 := YX1_listen) dX10_tone_40 lX10_191 vX1_listen (M2) sh_145 rfl rfl (by simp [Value.category]) ?_
        refine mm_aload dX10_tone_43 rfl ?_
        refine mm_cV (Y1 := YX1_gatherTones) dX10_tone_45 lX10_202 vX1_gatherTones (M3) sh_145 rfl rfl (by simp [Value.category]) ?_
        refine mm_iload dX10_tone_48 rfl ?_
        refine mm_if_lt 63 dX10_tone_50 (by decide) (fun c_50 => ?_) (fun c_50 => ?_)
        · exact absurd c_50 (nI_pos (by omega))
        · refine mm_iload dX10_tone_53 rfl ?_
          refine mm_aload dX10_tone_55 rfl ?_
          refine mm_getI dX10_tone_57 fX10_205 sh_145 rfl ?_
          refine mm_icmp_lt 67 dX10_tone_60 (by decide) (fun c_60 => ?_) (fun c_60 => ?_)
          · refine mm_iload dX10_tone_67 rfl ?_
            refine mm_tableIn (off := 45) 114 dX10_tone_69 (by decide) (by decide) (by decide) (by decide) ?_
            refine mm_aload dX10_tone_114 rfl ?_
            refine mm_getS dX10_tone_116 fX10_214 sh_145 rfl gr_145_12 ?_
            refine mm_iload dX10_tone_119 rfl ?_
            refine mm_iald (j) dX10_tone_121 sh_154 rfl (by omega) ?_
            exact mm_iretE dX10_tone_122 rfl (by rw [t3]; unfold tv; rw [if_neg w0, if_neg w1, if_pos rfl]) rfl
          · exact absurd (by rw [b4]; exact nI_lt hj (by omega)) c_60
      · exact absurd (ask_of hn6 hA hr hk ha) (bI_e0.mp c_7)
    · have hout : w.toInt < 0 ∨ 2 < w.toInt := by have := ti_ne0 w0; have := ti_ne1 w1; have := ti_ne2 w2; omega
      refine mm_aload_n dX10_tone_0 rfl rfl ?_
      refine mm_iload_n dX10_tone_1 rfl rfl ?_
      refine mm_iload_n dX10_tone_2 rfl rfl ?_
      refine mm_iload_n dX10_tone_3 rfl rfl ?_
      refine mm_cV (Y1 := YX10_isHearable) dX10_tone_4 lX10_179 vX10_isHearable (N1) sh_0 rfl rfl (by simp [Value.category]) ?_
      refine mm_if_ne 14 dX10_tone_7 (by decide) (fun c_7 => ?_) (fun c_7 => ?_)
      · refine mm_aload_n dX10_tone_14 rfl rfl ?_
        refine mm_getS dX10_tone_15 fX10_69 sh_0 rfl gr_0_10 ?_
        refine mm_aload_n dX10_tone_18 rfl rfl ?_
        refine mm_getS dX10_tone_19 fX10_38 sh_0 rfl gr_0_5 ?_
        refine mm_iload_n dX10_tone_22 rfl rfl ?_
        refine mm_aald (r) dX10_tone_23 (Or.inl rfl) sh_2 rfl (by omega) (gr_2 (by omega)) ?_
        refine mm_iload_n dX10_tone_24 rfl rfl ?_
        refine mm_cV (Y1 := YX0_aim) dX10_tone_25 lX10_183 vX0_aim (M1) sh_135 rfl rfl (by simp [Value.category]) ?_
        refine mm_aload_n dX10_tone_28 rfl rfl ?_
        refine mm_getS dX10_tone_29 fX10_69 sh_0 rfl gr_0_10 ?_
        refine mm_getS dX10_tone_32 fX10_187 sh_135 rfl gr_135_0 ?_
        refine mm_astore dX10_tone_35 (by decide) rfl ?_
        refine mm_aload dX10_tone_37 rfl ?_
        refine mm_iload_n dX10_tone_39 rfl rfl ?_
        refine mm_cV (Y1 := YX1_listen) dX10_tone_40 lX10_191 vX1_listen (M2) sh_145 rfl rfl (by simp [Value.category]) ?_
        refine mm_aload dX10_tone_43 rfl ?_
        refine mm_cV (Y1 := YX1_gatherTones) dX10_tone_45 lX10_202 vX1_gatherTones (M3) sh_145 rfl rfl (by simp [Value.category]) ?_
        refine mm_iload dX10_tone_48 rfl ?_
        refine mm_if_lt 63 dX10_tone_50 (by decide) (fun c_50 => ?_) (fun c_50 => ?_)
        · exact absurd c_50 (nI_pos (by omega))
        · refine mm_iload dX10_tone_53 rfl ?_
          refine mm_aload dX10_tone_55 rfl ?_
          refine mm_getI dX10_tone_57 fX10_205 sh_145 rfl ?_
          refine mm_icmp_lt 67 dX10_tone_60 (by decide) (fun c_60 => ?_) (fun c_60 => ?_)
          · refine mm_iload dX10_tone_67 rfl ?_
            refine mm_tableOut 123 dX10_tone_69 hout (by decide) ?_
            refine mm_sipush (x := (-20000)) dX10_tone_123 (by decide) ?_
            exact mm_iretE dX10_tone_126 rfl (by unfold tv; rw [if_neg w0, if_neg w1, if_neg w2]) rfl
          · exact absurd (by rw [b4]; exact nI_lt hj (by omega)) c_60
      · exact absurd (ask_of hn6 hA hr hk ha) (bI_e0.mp c_7)
  · rw [if_neg hc]
    refine mm_aload_n dX10_tone_0 rfl rfl ?_
    refine mm_iload_n dX10_tone_1 rfl rfl ?_
    refine mm_iload_n dX10_tone_2 rfl rfl ?_
    refine mm_iload_n dX10_tone_3 rfl rfl ?_
    refine mm_cV (Y1 := YX10_isHearable) dX10_tone_4 lX10_179 vX10_isHearable (N1) sh_0 rfl rfl (by simp [Value.category]) ?_
    refine mm_if_ne 14 dX10_tone_7 (by decide) (fun c_7 => ?_) (fun c_7 => ?_)
    · refine mm_aload_n dX10_tone_14 rfl rfl ?_
      refine mm_getS dX10_tone_15 fX10_69 sh_0 rfl gr_0_10 ?_
      refine mm_aload_n dX10_tone_18 rfl rfl ?_
      refine mm_getS dX10_tone_19 fX10_38 sh_0 rfl gr_0_5 ?_
      refine mm_iload_n dX10_tone_22 rfl rfl ?_
      refine mm_aald (r) dX10_tone_23 (Or.inl rfl) sh_2 rfl (by omega) (gr_2 (by omega)) ?_
      refine mm_iload_n dX10_tone_24 rfl rfl ?_
      refine mm_cV (Y1 := YX0_aim) dX10_tone_25 lX10_183 vX0_aim (M1) sh_135 rfl rfl (by simp [Value.category]) ?_
      refine mm_aload_n dX10_tone_28 rfl rfl ?_
      refine mm_getS dX10_tone_29 fX10_69 sh_0 rfl gr_0_10 ?_
      refine mm_getS dX10_tone_32 fX10_187 sh_135 rfl gr_135_0 ?_
      refine mm_astore dX10_tone_35 (by decide) rfl ?_
      refine mm_aload dX10_tone_37 rfl ?_
      refine mm_iload_n dX10_tone_39 rfl rfl ?_
      refine mm_cV (Y1 := YX1_listen) dX10_tone_40 lX10_191 vX1_listen (M2) sh_145 rfl rfl (by simp [Value.category]) ?_
      refine mm_aload dX10_tone_43 rfl ?_
      refine mm_cV (Y1 := YX1_gatherTones) dX10_tone_45 lX10_202 vX1_gatherTones (M3) sh_145 rfl rfl (by simp [Value.category]) ?_
      refine mm_iload dX10_tone_48 rfl ?_
      refine mm_if_lt 63 dX10_tone_50 (by decide) (fun c_50 => ?_) (fun c_50 => ?_)
      · refine mm_sipush (x := (-20000)) dX10_tone_63 (by decide) ?_
        exact mm_iretE dX10_tone_66 rfl rfl rfl
      · refine mm_iload dX10_tone_53 rfl ?_
        refine mm_aload dX10_tone_55 rfl ?_
        refine mm_getI dX10_tone_57 fX10_205 sh_145 rfl ?_
        refine mm_icmp_lt 67 dX10_tone_60 (by decide) (fun c_60 => ?_) (fun c_60 => ?_)
        · exact absurd ⟨by rw [Int32.lt_iff_toInt_lt, ti_0] at c_50; omega, by rw [b4, Int32.lt_iff_toInt_lt, nI_toInt (by omega)] at c_60; exact c_60⟩ hc
        · refine mm_sipush (x := (-20000)) dX10_tone_63 (by decide) ?_
          exact mm_iretE dX10_tone_66 rfl rfl rfl
    · exact absurd (ask_of hn6 hA hr hk ha) (bI_e0.mp c_7)
set_option maxRecDepth 100000 in
set_option maxHeartbeats 4000000 in
theorem mX10_tones_n (d : Nat) (h : mm_H) (A : MD) (LQ : Nat → LD) (nl G : Nat) (S : stC A LQ nl h G) (r k s : Int32) (hb : ¬ askP A nl r k s) : mm_M (d + 2) YX10_tones [.ref 0, .int r, .int k, .int s] h (some (.int (-1))) h := by
  refine mm_M.of [some (.ref 0), some (.int r), some (.int k), some (.int s)] rfl rfl (Nat.le_of_ble_eq_true rfl) ?_
  refine mm_aload_n dX10_tones_0 rfl rfl ?_
  refine mm_iload_n dX10_tones_1 rfl rfl ?_
  refine mm_iload_n dX10_tones_2 rfl rfl ?_
  refine mm_iload_n dX10_tones_3 rfl rfl ?_
  refine mm_cV (Y1 := YX10_isHearable) dX10_tones_4 lX10_179 vX10_isHearable (mX10_isHearable d h nl (mn A) (mk A) S.2.2.1 S.2.2.2.1 S.2.1.1 S.1.1 S.2.1.2.1 S.1.2.1 r k s) sh_0 rfl rfl (by simp [Value.category]) ?_
  refine mm_if_ne 12 dX10_tones_7 (by decide) (fun c_7 => ?_) (fun c_7 => ?_)
  · exact absurd (bI_n0.mp c_7) hb
  · refine mm_iconst (x := (-1)) dX10_tones_10 (by decide) ?_
    exact mm_iretE dX10_tones_11 rfl rfl rfl
set_option maxRecDepth 100000 in
set_option maxHeartbeats 4000000 in
theorem mX10_tones_y (d : Nat) (h : mm_H) (A : MD) (LQ : Nat → LD) (nl G : Nat) (S : stC A LQ nl h G) (r k a : Nat) (hr : r < nl) (hk : k < mk A) (ha : a < 2 ^ mn A) : ∃ g, mm_M (d + 4) YX10_tones [.ref 0, .int (nI r), .int (nI k), .int (nI a)] h (some (.int (nI (tL A (LQ r) k a).length))) g ∧ cfr h g ∧ stC A LQ nl g G := by
  have S0 := S
  obtain ⟨g1, M1, a1, a2, a3⟩ := aimC (d + 2) h A LQ nl G S r k hr hk
  have N1 := mX10_isHearable (d + 2) h nl (mn A) (mk A) S.2.2.1 S.2.2.2.1 S.2.1.1 S.1.1 S.2.1.2.1 S.1.2.1 (nI r) (nI k) (nI a)
  obtain ⟨hA, hV, h6, hn6, hL, -, -⟩ := S
  have h12 := hA.1
  have h4 := hA.2.1
  have hp := p2_lt h12
  obtain ⟨g2, g3, M2, M3, b1, b2, b3, b4, b5⟩ := hearC d g1 A hA LQ r k (by omega) (hL r hr).1 hk a1 a ha
  have htl := tL_len h12 (LQ r) k a
  refine ⟨g3, ?_, a3.trans b1, S0.next (a3.trans b1) hr hk b2 (b3 G a2)⟩
  refine mm_M.of [some (.ref 0), some (.int (nI r)), some (.int (nI k)), some (.int (nI a))] rfl rfl (Nat.le_of_ble_eq_true rfl) ?_
  refine mm_aload_n dX10_tones_0 rfl rfl ?_
  refine mm_iload_n dX10_tones_1 rfl rfl ?_
  refine mm_iload_n dX10_tones_2 rfl rfl ?_
  refine mm_iload_n dX10_tones_3 rfl rfl ?_
  refine mm_cV (Y1 := YX10_isHearable) dX10_tones_4 lX10_179 vX10_isHearable (N1) sh_0 rfl rfl (by simp [Value.category]) ?_
  refine mm_if_ne 12 dX10_tones_7 (by decide) (fun c_7 => ?_) (fun c_7 => ?_)
  · refine mm_aload_n dX10_tones_12 rfl rfl ?_
    refine mm_getS dX10_tones_13 fX10_69 sh_0 rfl gr_0_10 ?_
    refine mm_aload_n dX10_tones_16 rfl rfl ?_
    refine mm_getS dX10_tones_17 fX10_38 sh_0 rfl gr_0_5 ?_
    refine mm_iload_n dX10_tones_20 rfl rfl ?_
    refine mm_aald (r) dX10_tones_21 (Or.inl rfl) sh_2 rfl (by omega) (gr_2 (by omega)) ?_
    refine mm_iload_n dX10_tones_22 rfl rfl ?_
    refine mm_cV (Y1 := YX0_aim) dX10_tones_23 lX10_183 vX0_aim (M1) sh_135 rfl rfl (by simp [Value.category]) ?_
    refine mm_aload_n dX10_tones_26 rfl rfl ?_
    refine mm_getS dX10_tones_27 fX10_69 sh_0 rfl gr_0_10 ?_
    refine mm_getS dX10_tones_30 fX10_187 sh_135 rfl gr_135_0 ?_
    refine mm_iload_n dX10_tones_33 rfl rfl ?_
    refine mm_cV (Y1 := YX1_listen) dX10_tones_34 lX10_191 vX1_listen (M2) sh_145 rfl rfl (by simp [Value.category]) ?_
    refine mm_aload_n dX10_tones_37 rfl rfl ?_
    refine mm_getS dX10_tones_38 fX10_69 sh_0 rfl gr_0_10 ?_
    refine mm_getS dX10_tones_41 fX10_187 sh_135 rfl gr_135_0 ?_
    refine mm_cV (Y1 := YX1_gatherTones) dX10_tones_44 lX10_202 vX1_gatherTones (M3) sh_145 rfl rfl (by simp [Value.category]) ?_
    refine mm_aload_n dX10_tones_47 rfl rfl ?_
    refine mm_getS dX10_tones_48 fX10_69 sh_0 rfl gr_0_10 ?_
    refine mm_getS dX10_tones_51 fX10_187 sh_135 rfl gr_135_0 ?_
    refine mm_getI dX10_tones_54 fX10_205 sh_145 rfl ?_
    exact mm_iretE dX10_tones_57 rfl b4 rfl
  · exact absurd (ask_of hn6 hA hr hk ha) (bI_e0.mp c_7)
set_option maxRecDepth 100000 in
set_option maxHeartbeats 4000000 in
theorem mX10_alike_n (d : Nat) (h : mm_H) (A : MD) (LQ : Nat → LD) (nl G : Nat) (S : stC A LQ nl h G) (r k s t : Int32) (hb : ¬ (askP A nl r k s ∧ (0 < mk A ∧ 0 ≤ t.toInt ∧ t.toInt < (2 ^ mn A : Nat)))) : mm_M (d + 2) YX10_alike [.ref 0, .int r, .int k, .int s, .int t] h (some (.int (-1))) h := by
  refine mm_M.of [some (.ref 0), some (.int r), some (.int k), some (.int s), some (.int t)] rfl rfl (Nat.le_of_ble_eq_true rfl) ?_
  refine mm_aload_n dX10_alike_0 rfl rfl ?_
  refine mm_iload_n dX10_alike_1 rfl rfl ?_
  refine mm_iload_n dX10_alike_2 rfl rfl ?_
  refine mm_iload_n dX10_alike_3 rfl rfl ?_
  refine mm_cV (Y1 := YX10_isHearable) dX10_alike_4 lX10_179 vX10_isHearable (mX10_isHearable d h nl (mn A) (mk A) S.2.2.1 S.2.2.2.1 S.2.1.1 S.1.1 S.2.1.2.1 S.1.2.1 r k s) sh_0 rfl rfl (by simp [Value.category]) ?_
  refine mm_if_eq 19 dX10_alike_7 (by decide) (fun c_7 => ?_) (fun c_7 => ?_)
  · refine mm_iconst (x := (-1)) dX10_alike_19 (by decide) ?_
    exact mm_iretE dX10_alike_20 rfl rfl rfl
  · refine mm_aload_n dX10_alike_10 rfl rfl ?_
    refine mm_iload dX10_alike_11 rfl ?_
    refine mm_cV (Y1 := YX10_isSet) dX10_alike_13 lX10_165 vX10_isSet (mX10_isSet (d + 1) h (mn A) (mk A) S.2.1.1 S.1.1 S.2.1.2.1 S.1.2.1 t) sh_0 rfl rfl (by simp [Value.category]) ?_
    refine mm_if_ne 21 dX10_alike_16 (by decide) (fun c_16 => ?_) (fun c_16 => ?_)
    · exact absurd ⟨bI_n0.mp c_7, bI_n0.mp c_16⟩ hb
    · refine mm_iconst (x := (-1)) dX10_alike_19 (by decide) ?_
      exact mm_iretE dX10_alike_20 rfl rfl rfl
set_option maxRecDepth 100000 in
set_option maxHeartbeats 4000000 in
theorem mX10_alike_y (d : Nat) (h : mm_H) (A : MD) (LQ : Nat → LD) (nl G : Nat) (S : stC A LQ nl h G) (r k a : Nat) (hr : r < nl) (hk : k < mk A) (ha : a < 2 ^ mn A) (b : Nat) (hb : b < 2 ^ mn A) : ∃ g, mm_M (d + 5) YX10_alike [.ref 0, .int (nI r), .int (nI k), .int (nI a), .int (nI b)] h (some (.int (bI (chd A (LQ r) k a = chd A (LQ r) k b)))) g ∧ cfr h g ∧ stC A LQ nl g G := by
  have S0 := S
  obtain ⟨g1, M1, a1, a2, a3⟩ := aimC (d + 3) h A LQ nl G S r k hr hk
  have N1 := mX10_isHearable (d + 3) h nl (mn A) (mk A) S.2.2.1 S.2.2.2.1 S.2.1.1 S.1.1 S.2.1.2.1 S.1.2.1 (nI r) (nI k) (nI a)
  have N2 := mX10_isSet (d + 4) h (mn A) (mk A) S.2.1.1 S.1.1 S.2.1.2.1 S.1.2.1 (nI b)
  obtain ⟨hA, hV, h6, hn6, hL, -, -⟩ := S
  have h12 := hA.1
  have h4 := hA.2.1
  have hp := p2_lt h12
  obtain ⟨g2, M2, p1, p2, p3, p4⟩ := mX0_learn d g1 A hA (LQ r) r (by omega) (hL r hr).1 k hk a1.1 a ha
  obtain ⟨g3, M3, q1, q2, q3, q4⟩ := mX0_learn d g2 A hA (LQ r) r (by omega) (hL r hr).1 k hk p1 b hb
  have lf := p4.trans q4
  have heq := q1.eq ha hb (q3 a ha p2) q2
  refine ⟨g3, ?_, a3.trans lf.cfr, S0.next (a3.trans lf.cfr) hr hk (lf.at a1 q1) (lf.gcn a2)⟩
  refine mm_M.of [some (.ref 0), some (.int (nI r)), some (.int (nI k)), some (.int (nI a)), some (.int (nI b))] rfl rfl (Nat.le_of_ble_eq_true rfl) ?_
  refine mm_aload_n dX10_alike_0 rfl rfl ?_
  refine mm_iload_n dX10_alike_1 rfl rfl ?_
  refine mm_iload_n dX10_alike_2 rfl rfl ?_
  refine mm_iload_n dX10_alike_3 rfl rfl ?_
  refine mm_cV (Y1 := YX10_isHearable) dX10_alike_4 lX10_179 vX10_isHearable (N1) sh_0 rfl rfl (by simp [Value.category]) ?_
  refine mm_if_eq 19 dX10_alike_7 (by decide) (fun c_7 => ?_) (fun c_7 => ?_)
  · exact absurd (ask_of hn6 hA hr hk ha) (bI_e0.mp c_7)
  · refine mm_aload_n dX10_alike_10 rfl rfl ?_
    refine mm_iload dX10_alike_11 rfl ?_
    refine mm_cV (Y1 := YX10_isSet) dX10_alike_13 lX10_165 vX10_isSet (N2) sh_0 rfl rfl (by simp [Value.category]) ?_
    refine mm_if_ne 21 dX10_alike_16 (by decide) (fun c_16 => ?_) (fun c_16 => ?_)
    · refine mm_aload_n dX10_alike_21 rfl rfl ?_
      refine mm_getS dX10_alike_22 fX10_69 sh_0 rfl gr_0_10 ?_
      refine mm_aload_n dX10_alike_25 rfl rfl ?_
      refine mm_getS dX10_alike_26 fX10_38 sh_0 rfl gr_0_5 ?_
      refine mm_iload_n dX10_alike_29 rfl rfl ?_
      refine mm_aald (r) dX10_alike_30 (Or.inl rfl) sh_2 rfl (by omega) (gr_2 (by omega)) ?_
      refine mm_iload_n dX10_alike_31 rfl rfl ?_
      refine mm_cV (Y1 := YX0_aim) dX10_alike_32 lX10_183 vX0_aim (M1) sh_135 rfl rfl (by simp [Value.category]) ?_
      refine mm_aload_n dX10_alike_35 rfl rfl ?_
      refine mm_getS dX10_alike_36 fX10_69 sh_0 rfl gr_0_10 ?_
      refine mm_iload_n dX10_alike_39 rfl rfl ?_
      refine mm_cV (Y1 := YX0_learn) dX10_alike_40 lX10_217 vX0_learn (M2) sh_135 rfl rfl (by simp [Value.category]) ?_
      refine mm_aload_n dX10_alike_43 rfl rfl ?_
      refine mm_getS dX10_alike_44 fX10_69 sh_0 rfl gr_0_10 ?_
      refine mm_iload dX10_alike_47 rfl ?_
      refine mm_cV (Y1 := YX0_learn) dX10_alike_49 lX10_217 vX0_learn (M3) sh_135 rfl rfl (by simp [Value.category]) ?_
      refine mm_aload_n dX10_alike_52 rfl rfl ?_
      refine mm_getS dX10_alike_53 fX10_69 sh_0 rfl gr_0_10 ?_
      refine mm_iload_n dX10_alike_56 rfl rfl ?_
      refine mm_cV (Y1 := YX0_numberOf) dX10_alike_57 lX10_220 vX0_numberOf (mX0_numberOf (d + 4) g3 a (by omega)) sh_135 rfl rfl (by simp [Value.category]) ?_
      refine mm_aload_n dX10_alike_60 rfl rfl ?_
      refine mm_getS dX10_alike_61 fX10_69 sh_0 rfl gr_0_10 ?_
      refine mm_iload dX10_alike_64 rfl ?_
      refine mm_cV (Y1 := YX0_numberOf) dX10_alike_66 lX10_220 vX0_numberOf (mX0_numberOf (d + 4) g3 b (by omega)) sh_135 rfl rfl (by simp [Value.category]) ?_
      refine mm_icmp_ne 76 dX10_alike_69 (by decide) (fun c_69 => ?_) (fun c_69 => ?_)
      · refine mm_iconst (x := 0) dX10_alike_76 (by decide) ?_
        exact mm_iretE dX10_alike_77 rfl (by first | exact (bI_1 (heq.mp c_69)).symm | exact (bI_0 (fun z => c_69 (heq.mpr z))).symm) rfl
      · refine mm_iconst (x := 1) dX10_alike_72 (by decide) ?_
        refine mm_goto 77 dX10_alike_73 (by decide) ?_
        exact mm_iretE dX10_alike_77 rfl (by first | exact (bI_1 (heq.mp c_69)).symm | exact (bI_0 (fun z => c_69 (heq.mpr z))).symm) rfl
    · exact absurd (ask_of hn6 hA hr hk hb).2.2 (bI_e0.mp c_16)
