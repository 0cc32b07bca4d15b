/-! Payments that clash: the class. -/
/-- payments: how many, on which counters, which sets -/
abbrev PD : Type := Nat × (Nat → Nat) × (Nat → Nat)
def pdn (P : PD) : Nat := P.1
def pdk (P : PD) : Nat → Nat := P.2.1
def pds (P : PD) : Nat → Nat := P.2.2
def pdOK (A : MD) (P : PD) : Prop := pdn P ≤ 10 ∧ ∀ i, i < pdn P → pdk P i < mk A ∧ pds P i < 2 ^ mn A
def viewPC (h : mm_H) (P : PD) : Prop := h.1 61 5 = nI (pdn P) ∧ ∀ i, i < pdn P → h.1 63 i = nI (pdk P i) ∧ h.1 64 i = nI (pds P i)
def viewPM (h : mm_H) (P : PD) : Prop := h.1 166 5 = nI (pdn P) ∧ ∀ i, i < pdn P → h.1 183 i = nI (pdk P i) ∧ h.1 184 i = nI (pds P i)
theorem viewPC_c {h g : mm_H} {P : PD} (v : viewPC h P) (e1 : g.1 61 = h.1 61) (e2 : g.1 63 = h.1 63) (e3 : g.1 64 = h.1 64) : viewPC g P := by
  unfold viewPC at *; rw [e1, e2, e3]; exact v
theorem viewPM_c {h g : mm_H} {P : PD} (v : viewPM h P) (e1 : g.1 166 = h.1 166) (e2 : g.1 183 = h.1 183) (e3 : g.1 184 = h.1 184) : viewPM g P := by
  unfold viewPM at *; rw [e1, e2, e3]; exact v
/-- two sets that fall at once clash -/
def clh (A : MD) (Q : LD) (k a b : Nat) : Prop := ¬ a &&& b = 0 ∨ ∃ t, sub t (a ||| b) ∧ chd A Q k t = chd A Q k (a ||| b) ∧ ¬ wtA A t = wtA A (a ||| b)
theorem clh_comm {A : MD} {Q : LD} {k a b : Nat} : clh A Q k a b ↔ clh A Q k b a := by unfold clh; rw [Nat.and_comm, Nat.or_comm]
def CL (A : MD) (Q : LD) (P : PD) (i j : Nat) : Prop := pdk P i = pdk P j ∧ clh A Q (pdk P i) (pds P i) (pds P j)
def rel (A : MD) (Q : LD) (P : PD) (c i j : Nat) : Nat → Nat → Prop := fun i2 j2 => j2 < i2 ∧ i2 < pdn P ∧ CL A Q P i2 j2 ∧ (pdk P i2 < c ∨ (pdk P i2 = c ∧ (i2 < i ∨ (i2 = i ∧ j2 < j))))
def relF (A : MD) (Q : LD) (P : PD) : Nat → Nat → Prop := fun i j => j < i ∧ i < pdn P ∧ CL A Q P i j
theorem rel_lt {A : MD} {Q : LD} {P : PD} {c i j i2 j2 : Nat} (h : pdn P ≤ 10) (z : rel A Q P c i j i2 j2) : i2 < 10 ∧ j2 < 10 := by have := z.1; have := z.2.1; omega
theorem rel_row {A : MD} {Q : LD} {P : PD} {c i i2 j2 : Nat} : rel A Q P c i i i2 j2 ↔ rel A Q P c (i + 1) 0 i2 j2 := by
  unfold rel
  constructor
  · rintro ⟨a, b, e, o⟩; exact ⟨a, b, e, by omega⟩
  · rintro ⟨a, b, e, o⟩; exact ⟨a, b, e, by omega⟩
theorem rel_end {A : MD} {Q : LD} {P : PD} {c i2 j2 : Nat} : rel A Q P c (pdn P) 0 i2 j2 ↔ rel A Q P (c + 1) 0 0 i2 j2 := by
  unfold rel
  constructor
  · rintro ⟨a, b, e, o⟩; exact ⟨a, b, e, by omega⟩
  · rintro ⟨a, b, e, o⟩; exact ⟨a, b, e, by omega⟩
theorem rel_all {A : MD} {Q : LD} {P : PD} (hP : pdOK A P) {i2 j2 : Nat} : rel A Q P (mk A) 0 0 i2 j2 ↔ relF A Q P i2 j2 := by
  unfold rel relF
  constructor
  · rintro ⟨a, b, e, o⟩; exact ⟨a, b, e⟩
  · rintro ⟨a, b, e⟩; exact ⟨a, b, e, Or.inl (hP.2 _ b).1⟩
theorem rel_y {A : MD} {Q : LD} {P : PD} {c i j : Nat} (hj : j < i) (hi : i < pdn P) (hk : pdk P i = c) (hc : CL A Q P i j) : ∀ i2 j2, rel A Q P c i (j + 1) i2 j2 ↔ rel A Q P c i j i2 j2 ∨ (i2 = i ∧ j2 = j) := by
  intro i2 j2
  unfold rel
  constructor
  · rintro ⟨a, b, e, o⟩
    by_cases z : i2 = i ∧ j2 = j
    · exact Or.inr z
    · exact Or.inl ⟨a, b, e, by omega⟩
  · rintro (⟨a, b, e, o⟩ | ⟨rfl, rfl⟩)
    · exact ⟨a, b, e, by omega⟩
    · exact ⟨hj, hi, hc, by omega⟩
theorem rel_no {A : MD} {Q : LD} {P : PD} {c i j : Nat} (hc : ¬ (pdk P i = c ∧ CL A Q P i j)) : ∀ i2 j2, rel A Q P c i (j + 1) i2 j2 ↔ rel A Q P c i j i2 j2 := by
  intro i2 j2
  unfold rel
  constructor
  · rintro ⟨a, b, e, o⟩
    by_cases z : i2 = i ∧ j2 = j
    · obtain ⟨rfl, rfl⟩ := z
      rcases o with o | o
      · exact ⟨a, b, e, Or.inl o⟩
      · exact absurd ⟨o.1, e⟩ hc
    · exact ⟨a, b, e, by omega⟩
  · rintro ⟨a, b, e, o⟩; exact ⟨a, b, e, by omega⟩
/-- a row of numbers whose bits are R -/
def msk (cell : Nat) (R : Nat → Nat → Prop) (g : mm_H) : Prop := ∃ M : Nat → Nat, ∀ i, i < 10 → g.1 cell i = nI (M i) ∧ M i < 1024 ∧ ∀ j, ((M i).testBit j = true ↔ R i j)
theorem msk_c {cell : Nat} {R R2 : Nat → Nat → Prop} {g g2 : mm_H} (h : msk cell R g) (e : ∀ i j, R2 i j ↔ R i j) (eg : g2.1 cell = g.1 cell) : msk cell R2 g2 := by
  obtain ⟨M, hM⟩ := h
  refine ⟨M, fun i hi => ?_⟩
  obtain ⟨a, b, c⟩ := hM i hi
  exact ⟨by rw [eg]; exact a, b, fun j => (c j).trans (e i j).symm⟩
theorem msk_add {cell : Nat} {R R2 : Nat → Nat → Prop} {g : mm_H} (h : msk cell R g) {i j : Nat} (hi : i < 10) (hj : j < 10) (e : ∀ i2 j2, R2 i2 j2 ↔ R i2 j2 ∨ (i2 = i ∧ j2 = j)) : msk cell R2 (mm_up g.1 cell i (g.1 cell i ||| ((1 : Int32) <<< (nI j &&& 31))), g.2.1, g.2.2) := by
  obtain ⟨M, hM⟩ := h
  refine ⟨fun x => if x = i then M i ||| 2 ^ j else M x, fun x hx => ?_⟩
  obtain ⟨a, b, c⟩ := hM x hx
  have hp : 2 ^ j < 2 ^ 10 := Nat.pow_lt_pow_right (by decide) hj
  dsimp only
  by_cases z : x = i
  · subst z
    rw [mm_up_e, if_pos rfl, a, sh1 (by omega), nI_lor]
    refine ⟨rfl, Nat.or_lt_two_pow (n := 10) b hp, fun y => ?_⟩
    rw [Nat.testBit_or, Bool.or_eq_true, c y, e, Nat.testBit_two_pow]
    constructor
    · rintro (q | q)
      · exact Or.inl q
      · exact Or.inr ⟨rfl, (of_decide_eq_true q).symm⟩
    · rintro (q | q)
      · exact Or.inl q
      · exact Or.inr (decide_eq_true q.2.symm)
  · rw [mm_up_k z, if_neg z]
    refine ⟨a, b, fun y => (c y).trans ?_⟩
    rw [e]
    exact ⟨Or.inl, fun q => q.elim id (fun w => absurd w.1 z)⟩
/-- how many pairs R has -/
noncomputable def cN (R : Nat → Nat → Prop) : Nat := cnP (fun x => R ((x - 1) / 10) ((x - 1) % 10)) 100
theorem cN_c {R R2 : Nat → Nat → Prop} (e : ∀ i j, R2 i j ↔ R i j) : cN R2 = cN R := cnP_c 100 (fun x _ _ => e _ _)
theorem cN_le (R : Nat → Nat → Prop) : cN R ≤ 100 := cnP_le 100
theorem cN_add {R R2 : Nat → Nat → Prop} {i j : Nat} (hi : i < 10) (hj : j < 10) (hn : ¬ R i j) (e : ∀ i2 j2, R2 i2 j2 ↔ R i2 j2 ∨ (i2 = i ∧ j2 = j)) : cN R2 = cN R + 1 := by
  refine cnP_add (y := 10 * i + j + 1) 100 (by omega) (by omega) ?_ (fun x h1 h2 => ?_)
  · rw [show (10 * i + j + 1 - 1) / 10 = i by omega, show (10 * i + j + 1 - 1) % 10 = j by omega]; exact hn
  · rw [e]
    constructor
    · rintro (q | q)
      · exact Or.inl q
      · exact Or.inr (by omega)
    · rintro (q | q)
      · exact Or.inl q
      · exact Or.inr (by omega)
def cl_fr (h g : mm_H) : Prop := frm (fun c => pC c || c == 160) h g ∧ ∀ j, j ≠ 6 → g.1 135 j = h.1 135 j
theorem cl_fr.refl (h : mm_H) : cl_fr h h := ⟨frm.refl _ _, fun _ _ => rfl⟩
theorem cl_fr.trans {h g k : mm_H} (a : cl_fr h g) (b : cl_fr g k) : cl_fr h k := ⟨a.1.trans b.1, fun j hj => (b.2 j hj).trans (a.2 j hj)⟩
theorem lrn_fr.cl {h g : mm_H} (a : lrn_fr h g) : cl_fr h g := ⟨a.1.mono (fun c hc => by simp only [Bool.or_eq_false_iff] at hc; exact hc.1), a.2⟩
theorem cl_fr.up {h g : mm_H} (a : cl_fr h g) {i : Nat} {x : Int32} : cl_fr h (mm_up g.1 160 i x, g.2.1, g.2.2) := ⟨a.1.up (c := 160) rfl, fun j hj => by dsimp only; rw [mm_up_n (by decide)]; exact a.2 j hj⟩
theorem cl_fr.lo {h g : mm_H} (a : cl_fr h g) {c : Nat} (hc : c ≤ 134) : g.1 c = h.1 c := a.1.i (by simp only [pC, Bool.or_eq_false_iff, beq_eq_false_iff_ne]; exact ⟨⟨rg_f (by omega), rg_f (by omega)⟩, by omega⟩)
theorem cl_fr.cfr {h g : mm_H} (a : cl_fr h g) : cfr h g := a.1.cfr (fun c hc => by simp only [Bool.or_eq_false_iff, beq_eq_false_iff_ne]; refine ⟨pC_f hc, ?_⟩; simp only [rg, decide_eq_false_iff_not] at hc; omega)
theorem cl_fr.at {A : MD} {LQ : Nat → LD} {r k : Nat} {h g : mm_H} (a : cl_fr h g) (hA : aimedAt A LQ r k h) (hg : aimed A (LQ r) r k g) : aimedAt A LQ r k g := ⟨hg, by rw [a.1.2]; exact hA.2.1, by rw [a.2 3 (by decide)]; exact hA.2.2⟩
theorem cl_fr.gcn {h g : mm_H} {G : Nat} (a : cl_fr h g) (hc : gcn h G) : gcn g G := gcn_c hc (a.2 11 (by decide)) (a.1.i rfl) (a.1.i rfl)
theorem stC_o {A : MD} {LQ : Nat → LD} {nl : Nat} {h g : mm_H} {G : Nat} {p : Nat → Bool} (S : stC A LQ nl h G) (fr : frm p h g) (hp : ∀ c, c ≤ 154 → p c = false) : stC A LQ nl g G := by
  obtain ⟨hA, hV, h6, hn6, hL, ⟨c1, r0, c2, c3, c4⟩, hcG⟩ := S
  refine ⟨hA, viewC_f hV fr (fun c hc => hp c (by omega)), by rw [fr.i (hp 0 (by decide))]; exact h6, hn6, fun r hr => ⟨(hL r hr).1, lawC_f (hL r hr).2 fr (fun c h1 h2 => hp c (by omega))⟩, ⟨by rw [fr.i (hp 138 (by decide))]; exact c1, r0, c2, by rw [fr.2]; exact c3, ?_⟩, gcn_c hcG (by rw [fr.i (hp 135 (by decide))]) (fr.i (hp 142 (by decide))) (fr.i (hp 143 (by decide)))⟩
  rcases c4 with q | ⟨k, q1, q2, q3⟩
  · exact Or.inl (by rw [fr.i (hp 135 (by decide))]; exact q)
  · exact Or.inr ⟨k, q1, q2, aimed_o c2 q3.1 fr hp, by rw [fr.2]; exact q3.2.1, by rw [fr.i (hp 135 (by decide))]; exact q3.2.2⟩
set_option maxRecDepth 100000 in
set_option maxHeartbeats 4000000 in
theorem mX2_isClash (d : Nat) (h : mm_H) (A : MD) (hA : mdOK A) (Q : LD) (r k : Nat) (hW : aimed A Q r k h) (a b : Nat) (ha : a < 2 ^ mn A) (hb : b < 2 ^ mn A) (hl : ∀ t, sub t (a ||| b) → ¬ h.1 136 t = 0) : mm_M (d + 1) YX2_isClash [.ref 159, .int (nI a), .int (nI b)] h (some (.int (pI (clh A Q k a b)))) h := by
  refine mm_M.of [some (.ref 159), some (.int (nI a)), some (.int (nI b)), none, none, none, none, none, none] rfl rfl (Nat.le_of_ble_eq_true rfl) ?_
  have h12 := hA.1
  have hp := p2_lt h12
  have hab := Nat.or_lt_two_pow ha hb
  obtain ⟨R, eR⟩ : ∃ R, R = clh A Q k a b := ⟨_, rfl⟩
  obtain ⟨W, eW⟩ : ∃ W, W = a ||| b := ⟨_, rfl⟩
  have hcl : R ↔ (¬ a &&& b = 0 ∨ ∃ t, sub t W ∧ chd A Q k t = chd A Q k W ∧ ¬ wtA A t = wtA A W) := by rw [eR, eW]; exact Iff.rfl
  rw [← eR]
  rw [← eW] at hab hl
  have hW4 : W < 4096 := by omega
  have hpc := pc_le hW4
  have hp2 : 2 ^ pc W ≤ 4096 := p2_lt hpc
  have hWW : sub W W := Nat.and_self W
  have K1 : R → ∀ (x5 : Int32) (i : Int32) x8, mm_R (d + 1) YX2_isClash 31 [some (.ref 159), some (.int (nI a)), some (.int (nI b)), some (.int (nI W)), some (.int (nI (2 ^ pc W))), some (.int x5), some (.int 1), some (.int i), x8] [] h (some (.int (pI R))) h := by
    intro hR x5 i x8
    refine mm_iload dX2_isClash_31 rfl ?_
    refine mm_iload dX2_isClash_33 rfl ?_
    refine mm_icmp_ge 116 dX2_isClash_35 (by decide) (fun c_35 => ?_) (fun c_35 => ?_)
    · refine mm_iload dX2_isClash_116 rfl ?_
      exact mm_zretE dX2_isClash_118 rfl (pI_nar _) (pI_1 hR).symm rfl
    · refine mm_iload dX2_isClash_38 rfl ?_
      refine mm_if_ne 116 dX2_isClash_40 (by decide) (fun c_40 => ?_) (fun c_40 => ?_)
      · refine mm_iload dX2_isClash_116 rfl ?_
        exact mm_zretE dX2_isClash_118 rfl (pI_nar _) (pI_1 hR).symm rfl
      · exact absurd c_40 (by decide)
  have K31 : a &&& b = 0 → ∀ m i, i + m = 2 ^ pc W → (∀ i2, i2 < i → ¬ (chd A Q k (sbs W i2) = chd A Q k W ∧ ¬ wtA A (sbs W i2) = wtA A W)) → ∀ x8, mm_R (d + 1) YX2_isClash 31 [some (.ref 159), some (.int (nI a)), some (.int (nI b)), some (.int (nI W)), some (.int (nI (2 ^ pc W))), some (.int (nI (sbs W i))), some (.int 0), some (.int (nI i)), x8] [] h (some (.int (pI R))) h := by
    intro h0 m
    induction m with
    | zero =>
      intro i hi hno x8
      have hi : i = 2 ^ pc W := by omega
      subst hi
      have hR : ¬ R := by
        rw [hcl]
        rintro (q | ⟨t, q1, q2⟩)
        · exact q h0
        · obtain ⟨j, j1, j2⟩ := sbs_onto hW4 q1
          exact hno j j1 (by rw [j2]; exact q2)
      refine mm_iload dX2_isClash_31 rfl ?_
      refine mm_iload dX2_isClash_33 rfl ?_
      refine mm_icmp_ge 116 dX2_isClash_35 (by decide) (fun c_35 => ?_) (fun c_35 => ?_)
      · refine mm_iload dX2_isClash_116 rfl ?_
        exact mm_zretE dX2_isClash_118 rfl (pI_nar _) (pI_0 hR).symm rfl
      · exact absurd (Int32.le_refl _) c_35
    | succ m ih =>
      intro i hi hno x8
      have hin : i < 2 ^ pc W := by omega
      obtain ⟨t, et⟩ : ∃ t, t = sbs W i := ⟨_, rfl⟩
      have ht : sub t W := by rw [et]; exact sbs_sub W i
      have htl := sub_le ht
      have eqn := hW.eq (a := t) (b := W) (by omega) hab (hl t ht) (hl W hWW)
      have w1 := hW.wt (a := t) (by omega) (hl t ht)
      have w2 := hW.wt (a := W) hab (hl W hWW)
      have hnx : (nI t - nI W) &&& nI W = nI (sbs W (i + 1)) := by rw [et]; exact nxt_sbs hW4 hin
      by_cases hbad : chd A Q k t = chd A Q k W ∧ ¬ wtA A t = wtA A W
      · have hR : R := hcl.mpr (Or.inr ⟨t, ht, hbad⟩)
        rw [← et]
        refine mm_iload dX2_isClash_31 rfl ?_
        refine mm_iload dX2_isClash_33 rfl ?_
        refine mm_icmp_ge 116 dX2_isClash_35 (by decide) (fun c_35 => ?_) (fun c_35 => ?_)
        · exact absurd c_35 (nI_ge hin (by omega))
        · refine mm_iload dX2_isClash_38 rfl ?_
          refine mm_if_ne 116 dX2_isClash_40 (by decide) (fun c_40 => ?_) (fun c_40 => ?_)
          · exact absurd c_40 (by decide)
          · refine mm_aload_n dX2_isClash_43 rfl rfl ?_
            refine mm_getS dX2_isClash_44 fX2_32 sh_159 rfl gr_159_1 ?_
            refine mm_iload dX2_isClash_47 rfl ?_
            refine mm_cV (Y1 := YX0_numberOf) dX2_isClash_49 lX2_48 vX0_numberOf (mX0_numberOf d h t (by omega)) sh_135 rfl rfl (by simp [Value.category]) ?_
            refine mm_aload_n dX2_isClash_52 rfl rfl ?_
            refine mm_getS dX2_isClash_53 fX2_32 sh_159 rfl gr_159_1 ?_
            refine mm_iload_n dX2_isClash_56 rfl rfl ?_
            refine mm_cV (Y1 := YX0_numberOf) dX2_isClash_57 lX2_48 vX0_numberOf (mX0_numberOf d h W (by omega)) sh_135 rfl rfl (by simp [Value.category]) ?_
            refine mm_icmp_ne 67 dX2_isClash_60 (by decide) (fun c_60 => ?_) (fun c_60 => ?_)
            · exact absurd (eqn.mpr hbad.1) c_60
            · refine mm_iconst (x := 1) dX2_isClash_63 (by decide) ?_
              refine mm_goto 68 dX2_isClash_64 (by decide) ?_
              refine mm_istore dX2_isClash_68 (by decide) rfl ?_
              refine mm_iload dX2_isClash_70 rfl ?_
              refine mm_if_eq 99 dX2_isClash_72 (by decide) (fun c_72 => ?_) (fun c_72 => ?_)
              · exact absurd c_72 (by decide)
              · refine mm_aload_n dX2_isClash_75 rfl rfl ?_
                refine mm_getS dX2_isClash_76 fX2_32 sh_159 rfl gr_159_1 ?_
                refine mm_iload dX2_isClash_79 rfl ?_
                refine mm_cV (Y1 := YX0_worthOf) dX2_isClash_81 lX2_64 vX0_worthOf (mX0_worthOf d h t (by omega)) sh_135 rfl rfl (by simp [Value.category]) ?_
                refine mm_aload_n dX2_isClash_84 rfl rfl ?_
                refine mm_getS dX2_isClash_85 fX2_32 sh_159 rfl gr_159_1 ?_
                refine mm_iload_n dX2_isClash_88 rfl rfl ?_
                refine mm_cV (Y1 := YX0_worthOf) dX2_isClash_89 lX2_64 vX0_worthOf (mX0_worthOf d h W (by omega)) sh_135 rfl rfl (by simp [Value.category]) ?_
                refine mm_icmp_eq 99 dX2_isClash_92 (by decide) (fun c_92 => ?_) (fun c_92 => ?_)
                · exact absurd (w1.symm.trans (c_92.trans w2)) hbad.2
                · refine mm_iconst (x := 1) dX2_isClash_95 (by decide) ?_
                  refine mm_goto 100 dX2_isClash_96 (by decide) ?_
                  refine mm_istore dX2_isClash_100 (by decide) rfl ?_
                  refine mm_iload dX2_isClash_102 rfl ?_
                  refine mm_iload_n dX2_isClash_104 rfl rfl ?_
                  refine mm_cSN (Y1 := YX10_nextWithin) dX2_isClash_105 (List.Mem.tail _ (List.Mem.head _)) sX10_nextWithin (mX10_nextWithin d h (nI t) (nI W)) rfl rfl (by simp [Value.category]) ?_
                  refine mm_istore dX2_isClash_108 (by decide) rfl ?_
                  refine mm_iinc dX2_isClash_110 rfl (nI_inc i) rfl ?_
                  refine mm_goto 31 dX2_isClash_113 (by decide) ?_
                  exact K1 hR _ _ _
      · have K := ih (i + 1) (by omega) (fun i2 h2 => by
          by_cases z : i2 = i
          · rw [z, ← et]; exact hbad
          · exact hno i2 (by omega))
        rw [← et]
        refine mm_iload dX2_isClash_31 rfl ?_
        refine mm_iload dX2_isClash_33 rfl ?_
        refine mm_icmp_ge 116 dX2_isClash_35 (by decide) (fun c_35 => ?_) (fun c_35 => ?_)
        · exact absurd c_35 (nI_ge hin (by omega))
        · refine mm_iload dX2_isClash_38 rfl ?_
          refine mm_if_ne 116 dX2_isClash_40 (by decide) (fun c_40 => ?_) (fun c_40 => ?_)
          · exact absurd c_40 (by decide)
          · refine mm_aload_n dX2_isClash_43 rfl rfl ?_
            refine mm_getS dX2_isClash_44 fX2_32 sh_159 rfl gr_159_1 ?_
            refine mm_iload dX2_isClash_47 rfl ?_
            refine mm_cV (Y1 := YX0_numberOf) dX2_isClash_49 lX2_48 vX0_numberOf (mX0_numberOf d h t (by omega)) sh_135 rfl rfl (by simp [Value.category]) ?_
            refine mm_aload_n dX2_isClash_52 rfl rfl ?_
            refine mm_getS dX2_isClash_53 fX2_32 sh_159 rfl gr_159_1 ?_
            refine mm_iload_n dX2_isClash_56 rfl rfl ?_
            refine mm_cV (Y1 := YX0_numberOf) dX2_isClash_57 lX2_48 vX0_numberOf (mX0_numberOf d h W (by omega)) sh_135 rfl rfl (by simp [Value.category]) ?_
            refine mm_icmp_ne 67 dX2_isClash_60 (by decide) (fun c_60 => ?_) (fun c_60 => ?_)
            · refine mm_iconst (x := 0) dX2_isClash_67 (by decide) ?_
              refine mm_istore dX2_isClash_68 (by decide) rfl ?_
              refine mm_iload dX2_isClash_70 rfl ?_
              refine mm_if_eq 99 dX2_isClash_72 (by decide) (fun c_72 => ?_) (fun c_72 => ?_)
              · refine mm_iconst (x := 0) dX2_isClash_99 (by decide) ?_
                refine mm_istore dX2_isClash_100 (by decide) rfl ?_
                refine mm_iload dX2_isClash_102 rfl ?_
                refine mm_iload_n dX2_isClash_104 rfl rfl ?_
                refine mm_cSN (Y1 := YX10_nextWithin) dX2_isClash_105 (List.Mem.tail _ (List.Mem.head _)) sX10_nextWithin (mX10_nextWithin d h (nI t) (nI W)) rfl rfl (by simp [Value.category]) ?_
                refine mm_cast (st' := [.int (nI (sbs W (i + 1)))]) rfl (by rw [hnx]; rfl) rfl ?_
                refine mm_istore dX2_isClash_108 (by decide) rfl ?_
                refine mm_iinc dX2_isClash_110 rfl (nI_inc i) rfl ?_
                refine mm_goto 31 dX2_isClash_113 (by decide) ?_
                exact K _
              · exact absurd c_72 (by decide)
            · refine mm_iconst (x := 1) dX2_isClash_63 (by decide) ?_
              refine mm_goto 68 dX2_isClash_64 (by decide) ?_
              refine mm_istore dX2_isClash_68 (by decide) rfl ?_
              refine mm_iload dX2_isClash_70 rfl ?_
              refine mm_if_eq 99 dX2_isClash_72 (by decide) (fun c_72 => ?_) (fun c_72 => ?_)
              · exact absurd c_72 (by decide)
              · refine mm_aload_n dX2_isClash_75 rfl rfl ?_
                refine mm_getS dX2_isClash_76 fX2_32 sh_159 rfl gr_159_1 ?_
                refine mm_iload dX2_isClash_79 rfl ?_
                refine mm_cV (Y1 := YX0_worthOf) dX2_isClash_81 lX2_64 vX0_worthOf (mX0_worthOf d h t (by omega)) sh_135 rfl rfl (by simp [Value.category]) ?_
                refine mm_aload_n dX2_isClash_84 rfl rfl ?_
                refine mm_getS dX2_isClash_85 fX2_32 sh_159 rfl gr_159_1 ?_
                refine mm_iload_n dX2_isClash_88 rfl rfl ?_
                refine mm_cV (Y1 := YX0_worthOf) dX2_isClash_89 lX2_64 vX0_worthOf (mX0_worthOf d h W (by omega)) sh_135 rfl rfl (by simp [Value.category]) ?_
                refine mm_icmp_eq 99 dX2_isClash_92 (by decide) (fun c_92 => ?_) (fun c_92 => ?_)
                · refine mm_iconst (x := 0) dX2_isClash_99 (by decide) ?_
                  refine mm_istore dX2_isClash_100 (by decide) rfl ?_
                  refine mm_iload dX2_isClash_102 rfl ?_
                  refine mm_iload_n dX2_isClash_104 rfl rfl ?_
                  refine mm_cSN (Y1 := YX10_nextWithin) dX2_isClash_105 (List.Mem.tail _ (List.Mem.head _)) sX10_nextWithin (mX10_nextWithin d h (nI t) (nI W)) rfl rfl (by simp [Value.category]) ?_
                  refine mm_cast (st' := [.int (nI (sbs W (i + 1)))]) rfl (by rw [hnx]; rfl) rfl ?_
                  refine mm_istore dX2_isClash_108 (by decide) rfl ?_
                  refine mm_iinc dX2_isClash_110 rfl (nI_inc i) rfl ?_
                  refine mm_goto 31 dX2_isClash_113 (by decide) ?_
                  exact K _
                · exact absurd ⟨eqn.mp c_60, fun z => c_92 (w1.trans (z.trans w2.symm))⟩ hbad
  have hand : a &&& b < 4096 := Nat.lt_of_le_of_lt Nat.and_le_left (by omega)
  by_cases h0 : a &&& b = 0
  · have K := K31 h0 (2 ^ pc W) 0 (by omega) (fun i2 h2 => by omega) none
    rw [sbs_0] at K
    refine mm_iload_n dX2_isClash_0 rfl rfl ?_
    refine mm_iload_n dX2_isClash_1 rfl rfl ?_
    refine mm_ior dX2_isClash_2 ?_
    refine mm_cast (st' := [.int (nI W)]) rfl (by rw [nI_lor, ← eW]) rfl ?_
    refine mm_istore_n dX2_isClash_3 rfl (by decide) rfl ?_
    refine mm_iconst (x := 1) dX2_isClash_4 (by decide) ?_
    refine mm_iload_n dX2_isClash_5 rfl rfl ?_
    refine mm_cS (Y1 := YJ6_bitCount_0f7a4) dX2_isClash_6 lX2_36 sJ6_bitCount_0f7a4 (mJ6_bitCount_0f7a4 d h W hW4) rfl rfl (by simp [Value.category]) ?_
    refine mm_ishl dX2_isClash_9 ?_
    refine mm_cast (st' := [.int (nI (2 ^ pc W))]) rfl (by rw [sh1 hpc]) rfl ?_
    refine mm_istore dX2_isClash_10 (by decide) rfl ?_
    refine mm_iconst (x := 0) dX2_isClash_12 (by decide) ?_
    refine mm_istore dX2_isClash_13 (by decide) rfl ?_
    refine mm_iload_n dX2_isClash_15 rfl rfl ?_
    refine mm_iload_n dX2_isClash_16 rfl rfl ?_
    refine mm_iand dX2_isClash_17 ?_
    refine mm_cast (st' := [.int (nI (a &&& b))]) rfl (by rw [nI_land]) rfl ?_
    refine mm_if_eq 25 dX2_isClash_18 (by decide) (fun c_18 => ?_) (fun c_18 => ?_)
    · refine mm_iconst (x := 0) dX2_isClash_25 (by decide) ?_
      refine mm_istore dX2_isClash_26 (by decide) rfl ?_
      refine mm_iconst (x := 0) dX2_isClash_28 (by decide) ?_
      refine mm_istore dX2_isClash_29 (by decide) rfl ?_
      exact K
    · exact absurd (by rw [h0]; rfl) c_18
  · have hR : R := hcl.mpr (Or.inl h0)
    refine mm_iload_n dX2_isClash_0 rfl rfl ?_
    refine mm_iload_n dX2_isClash_1 rfl rfl ?_
    refine mm_ior dX2_isClash_2 ?_
    refine mm_cast (st' := [.int (nI W)]) rfl (by rw [nI_lor, ← eW]) rfl ?_
    refine mm_istore_n dX2_isClash_3 rfl (by decide) rfl ?_
    refine mm_iconst (x := 1) dX2_isClash_4 (by decide) ?_
    refine mm_iload_n dX2_isClash_5 rfl rfl ?_
    refine mm_cS (Y1 := YJ6_bitCount_0f7a4) dX2_isClash_6 lX2_36 sJ6_bitCount_0f7a4 (mJ6_bitCount_0f7a4 d h W hW4) rfl rfl (by simp [Value.category]) ?_
    refine mm_ishl dX2_isClash_9 ?_
    refine mm_cast (st' := [.int (nI (2 ^ pc W))]) rfl (by rw [sh1 hpc]) rfl ?_
    refine mm_istore dX2_isClash_10 (by decide) rfl ?_
    refine mm_iconst (x := 0) dX2_isClash_12 (by decide) ?_
    refine mm_istore dX2_isClash_13 (by decide) rfl ?_
    refine mm_iload_n dX2_isClash_15 rfl rfl ?_
    refine mm_iload_n dX2_isClash_16 rfl rfl ?_
    refine mm_iand dX2_isClash_17 ?_
    refine mm_cast (st' := [.int (nI (a &&& b))]) rfl (by rw [nI_land]) rfl ?_
    refine mm_if_eq 25 dX2_isClash_18 (by decide) (fun c_18 => ?_) (fun c_18 => ?_)
    · exact absurd ((nI_eq (b := 0) (by omega) (by omega)).mp c_18) h0
    · refine mm_iconst (x := 1) dX2_isClash_21 (by decide) ?_
      refine mm_goto 26 dX2_isClash_22 (by decide) ?_
      refine mm_istore dX2_isClash_26 (by decide) rfl ?_
      refine mm_iconst (x := 0) dX2_isClash_28 (by decide) ?_
      refine mm_istore dX2_isClash_29 (by decide) rfl ?_
      exact K1 hR _ _ _
set_option maxRecDepth 100000 in
set_option maxHeartbeats 4000000 in
theorem mX2_forgetClashes (d : Nat) (h : mm_H) : ∃ g, mm_M d YX2_forgetClashes [.ref 159] h none g ∧ frm (onep 160) h g ∧ ∀ i, i < 10 → g.1 160 i = 0 := by
  suffices hE : mm_E d YX2_forgetClashes 0 [some (.ref 159), none] [] h (fun v g => v = none ∧ frm (onep 160) h g ∧ ∀ i, i < 10 → g.1 160 i = 0) by
    obtain ⟨v, g, hR, rfl, h1⟩ := hE
    exact ⟨g, mm_M.of _ rfl rfl (Nat.le_of_ble_eq_true rfl) hR, h1⟩
  have K2 : ∀ m i, i + m = 10 → ∀ gg, frm (onep 160) h gg → (∀ x, x < i → gg.1 160 x = 0) → mm_E d YX2_forgetClashes 2 [some (.ref 159), some (.int (nI i))] [] gg (fun v g => v = none ∧ frm (onep 160) h g ∧ ∀ i, i < 10 → g.1 160 i = 0) := by
    intro m
    induction m with
    | zero =>
      intro i hi gg fg S
      have hi : i = 10 := by omega
      subst hi
      refine mm_Es (fun _ _ => mm_iload_n dX2_forgetClashes_2 rfl rfl) ?_
      refine mm_Es (fun _ _ => mm_bipush (x := 10) dX2_forgetClashes_3 (by decide)) ?_
      refine mm_Eb (fun _ _ => mm_icmp_ge 21 dX2_forgetClashes_5 (by decide)) (fun c_5 => ?_) (fun c_5 => ?_)
      · refine mm_Er (mm_return dX2_forgetClashes_21 rfl) ?_
        exact ⟨rfl, fg, S⟩
      · exact absurd (by decide) c_5
    | succ m ih =>
      intro i hi gg fg S
      have K := ih (i + 1) (by omega) (mm_up gg.1 160 i 0, gg.2.1, gg.2.2) (fg.up (c := 160) rfl) (fun x hx => by
        dsimp only
        by_cases z : x = i
        · subst z; rw [mm_up_e]
        · rw [mm_up_k z]; exact S x (by omega))
      refine mm_Es (fun _ _ => mm_iload_n dX2_forgetClashes_2 rfl rfl) ?_
      refine mm_Es (fun _ _ => mm_bipush (x := 10) dX2_forgetClashes_3 (by decide)) ?_
      refine mm_Eb (fun _ _ => mm_icmp_ge 21 dX2_forgetClashes_5 (by decide)) (fun c_5 => ?_) (fun c_5 => ?_)
      · exact absurd c_5 (nI_ge (b := 10) (by omega) (by omega))
      · refine mm_Es (fun _ _ => mm_aload_n dX2_forgetClashes_8 rfl rfl) ?_
        refine mm_Es (fun _ _ => mm_getS dX2_forgetClashes_9 fX2_9 sh_159 rfl gr_159_2) ?_
        refine mm_Es (fun _ _ => mm_iload_n dX2_forgetClashes_12 rfl rfl) ?_
        refine mm_Es (fun _ _ => mm_iconst (x := 0) dX2_forgetClashes_13 (by decide)) ?_
        refine mm_Es (fun _ _ => mm_iast (i) dX2_forgetClashes_14 sh_160 rfl (by omega)) ?_
        refine mm_Es (fun _ _ => mm_iinc dX2_forgetClashes_15 rfl (nI_inc i) rfl) ?_
        refine mm_Es (fun _ _ => mm_goto 2 dX2_forgetClashes_18 (by decide)) ?_
        exact K
  have K := K2 10 0 rfl h (frm.refl _ _) (fun x hx => by omega)
  refine mm_Es (fun _ _ => mm_iconst (x := 0) dX2_forgetClashes_0 (by decide)) ?_
  refine mm_Es (fun _ _ => mm_istore_n dX2_forgetClashes_1 rfl (by decide) rfl) ?_
  exact K
set_option maxRecDepth 100000 in
set_option maxHeartbeats 4000000 in
theorem mX2_findClashes (d : Nat) (h : mm_H) (A : MD) (hA : mdOK A) (Q : LD) (r : Nat) (hr : r < 6) (hQ : lawOK Q) (k : Nat) (hk : k < mk A) (hW : aimed A Q r k h) (P : PD) (hP : pdOK A P) (hv : viewPC h P) (hm : msk 160 (rel A Q P k 0 0) h) : ∃ x g, mm_M (d + 6) YX2_findClashes [.ref 159, .int (nI k)] h (some (.int (nI x))) g ∧ x + cN (rel A Q P k 0 0) = cN (rel A Q P (k + 1) 0 0) ∧ aimed A Q r k g ∧ msk 160 (rel A Q P (k + 1) 0 0) g ∧ cl_fr h g := by
  suffices hE : mm_E (d + 6) YX2_findClashes 0 [some (.ref 159), some (.int (nI k)), none, none, none] [] h (fun v g => ∃ x, v = some (.int (nI x)) ∧ x + cN (rel A Q P k 0 0) = cN (rel A Q P (k + 1) 0 0) ∧ aimed A Q r k g ∧ msk 160 (rel A Q P (k + 1) 0 0) g ∧ cl_fr h g) by
    obtain ⟨v, g, hR, x, rfl, h1⟩ := hE
    exact ⟨x, g, mm_M.of _ rfl rfl (Nat.le_of_ble_eq_true rfl) hR, h1⟩
  have h12 := hA.1
  have h4 := hA.2.1
  have hp := p2_lt h12
  have hn10 := hP.1
  have K4 : ∀ m i, i + m = pdn P → ∀ gg, (aimed A Q r k gg ∧ msk 160 (rel A Q P k i 0) gg ∧ cl_fr h gg) → ∀ x, x + cN (rel A Q P k 0 0) = cN (rel A Q P k i 0) → ∀ x4, mm_E (d + 6) YX2_findClashes 4 [some (.ref 159), some (.int (nI k)), some (.int (nI x)), some (.int (nI i)), x4] [] gg (fun v g => ∃ x, v = some (.int (nI x)) ∧ x + cN (rel A Q P k 0 0) = cN (rel A Q P (k + 1) 0 0) ∧ aimed A Q r k g ∧ msk 160 (rel A Q P (k + 1) 0 0) g ∧ cl_fr h g) := by
    intro m
    induction m with
    | zero =>
      intro i hi gg S x hx x4
      have hi : i = pdn P := by omega
      subst hi
      have e61 : gg.1 61 5 = nI (pdn P) := by rw [S.2.2.lo (by decide)]; exact hv.1
      refine mm_Es (fun _ _ => mm_iload_n dX2_findClashes_4 rfl rfl) ?_
      refine mm_Es (fun _ _ => mm_aload_n dX2_findClashes_5 rfl rfl) ?_
      refine mm_Es (fun _ _ => mm_getS dX2_findClashes_6 fX2_28 sh_159 rfl gr_159_0) ?_
      refine mm_Es (fun _ _ => mm_getI dX2_findClashes_9 fX2_85 sh_61 rfl) ?_
      refine mm_Eb (fun _ _ => mm_icmp_ge 134 dX2_findClashes_12 (by decide)) (fun c_12 => ?_) (fun c_12 => ?_)
      · refine mm_Es (fun _ _ => mm_iload_n dX2_findClashes_134 rfl rfl) ?_
        refine mm_Er (mm_ireturn dX2_findClashes_135 rfl) ?_
        exact ⟨x, rfl, by rw [hx]; exact cN_c (fun _ _ => rel_end.symm) |>.symm, S.1, msk_c S.2.1 (fun _ _ => rel_end.symm) rfl, S.2.2⟩
      · exact absurd (by rw [e61]; exact Int32.le_refl _) c_12
    | succ m ih =>
      intro i hi gg S x hx x4
      have hin : i < pdn P := by omega
      have e61 : gg.1 61 5 = nI (pdn P) := by rw [S.2.2.lo (by decide)]; exact hv.1
      have K18 : ∀ m j, j + m = i → ∀ gg, (aimed A Q r k gg ∧ msk 160 (rel A Q P k i j) gg ∧ cl_fr h gg) → ∀ x, x + cN (rel A Q P k 0 0) = cN (rel A Q P k i j) → mm_E (d + 6) YX2_findClashes 18 [some (.ref 159), some (.int (nI k)), some (.int (nI x)), some (.int (nI i)), some (.int (nI j))] [] gg (fun v g => ∃ x, v = some (.int (nI x)) ∧ x + cN (rel A Q P k 0 0) = cN (rel A Q P (k + 1) 0 0) ∧ aimed A Q r k g ∧ msk 160 (rel A Q P (k + 1) 0 0) g ∧ cl_fr h g) := by
        intro m
        induction m with
        | zero =>
          intro j hj gg S x hx
          have hj : j = i := by omega
          subst hj
          have K := ih (j + 1) (by omega) gg ⟨S.1, msk_c S.2.1 (fun _ _ => rel_row.symm) rfl, S.2.2⟩ x (by rw [hx]; exact cN_c (fun _ _ => rel_row))
          refine mm_Es (fun _ _ => mm_iload dX2_findClashes_18 rfl) ?_
          refine mm_Es (fun _ _ => mm_iload_n dX2_findClashes_20 rfl rfl) ?_
          refine mm_Eb (fun _ _ => mm_icmp_ge 128 dX2_findClashes_21 (by decide)) (fun c_21 => ?_) (fun c_21 => ?_)
          · refine mm_Es (fun _ _ => mm_iinc dX2_findClashes_128 rfl (nI_inc j) rfl) ?_
            refine mm_Es (fun _ _ => mm_goto 4 dX2_findClashes_131 (by decide)) ?_
            exact K _
          · exact absurd (Int32.le_refl _) c_21
        | succ m ihm =>
          intro j hj gg S x hx
          have hji : j < i := by omega
          obtain ⟨S1, S2, S3⟩ := S
          obtain ⟨a, ea⟩ : ∃ a, a = pds P i := ⟨_, rfl⟩
          obtain ⟨b, eb⟩ : ∃ b, b = pds P j := ⟨_, rfl⟩
          have ha : a < 2 ^ mn A := by rw [ea]; exact (hP.2 i hin).2
          have hb : b < 2 ^ mn A := by rw [eb]; exact (hP.2 j (by omega)).2
          have hab := Nat.or_lt_two_pow ha hb
          have e63i : gg.1 63 i = nI (pdk P i) := by rw [S3.lo (by decide)]; exact (hv.2 i hin).1
          have e63j : gg.1 63 j = nI (pdk P j) := by rw [S3.lo (by decide)]; exact (hv.2 j (by omega)).1
          have e64i : h.1 64 i = nI a := by rw [ea]; exact (hv.2 i hin).2
          have e64j : h.1 64 j = nI b := by rw [eb]; exact (hv.2 j (by omega)).2
          have k1 := (hP.2 i hin).1
          have k2 := (hP.2 j (by omega)).1
          by_cases hkk : pdk P i = k ∧ pdk P j = k
          · obtain ⟨g1, M1, b1, b2, b3, b4⟩ := mX0_learnWithin d gg A hA Q r hr hQ k hk S1 (a ||| b) hab 12 (by decide)
            have M2 := mX2_isClash (d + 4) g1 A hA Q r k b1 a b ha hb (fun t hs => b4 t hs (pc_le (by have := sub_le hs; omega)))
            have S3g := S3.trans b2.cl
            have msk1 : msk 160 (rel A Q P k i j) g1 := msk_c S2 (fun _ _ => Iff.rfl) (b2.1.i rfl)
            by_cases hcl : clh A Q k a b
            · have hC : CL A Q P i j := ⟨hkk.1.trans hkk.2.symm, by rw [hkk.1, ← ea, ← eb]; exact hcl⟩
              have K := ihm (j + 1) (by omega) (mm_up g1.1 160 i (g1.1 160 i ||| ((1 : Int32) <<< (nI j &&& 31))), g1.2.1, g1.2.2) ⟨aimed_o hr b1 ((frm.refl (onep 160) g1).up (c := 160) rfl) (fun c hc => by simp [onep]; omega), msk_add msk1 (by omega) (by omega) (rel_y hji hin hkk.1 hC), S3g.up⟩ (x + 1) (by rw [cN_add (i := i) (j := j) (by omega) (by omega) (fun z => by have := z.2.2.2; omega) (rel_y hji hin hkk.1 hC)]; omega)
              refine mm_Es (fun _ _ => mm_iload dX2_findClashes_18 rfl) ?_
              refine mm_Es (fun _ _ => mm_iload_n dX2_findClashes_20 rfl rfl) ?_
              refine mm_Eb (fun _ _ => mm_icmp_ge 128 dX2_findClashes_21 (by decide)) (fun c_21 => ?_) (fun c_21 => ?_)
              · exact absurd c_21 (nI_ge hji (by omega))
              · refine mm_Es (fun _ _ => mm_aload_n dX2_findClashes_24 rfl rfl) ?_
                refine mm_Es (fun _ _ => mm_getS dX2_findClashes_25 fX2_28 sh_159 rfl gr_159_0) ?_
                refine mm_Es (fun _ _ => mm_getS dX2_findClashes_28 fX2_88 sh_61 rfl gr_61_3) ?_
                refine mm_Es (fun _ _ => mm_iload_n dX2_findClashes_31 rfl rfl) ?_
                refine mm_Es (fun _ _ => mm_iald (i) dX2_findClashes_32 sh_63 rfl (by omega)) ?_
                refine mm_Es (fun _ _ => mm_iload_n dX2_findClashes_33 rfl rfl) ?_
                refine mm_Ebn (fun _ _ => mm_icmp_ne 122 dX2_findClashes_34 (by decide)) (fun c_34 => ?_) (fun c_34 => ?_)
                · exact absurd (by rw [e63i, hkk.1]) c_34
                · refine mm_Es (fun _ _ => mm_aload_n dX2_findClashes_37 rfl rfl) ?_
                  refine mm_Es (fun _ _ => mm_getS dX2_findClashes_38 fX2_28 sh_159 rfl gr_159_0) ?_
                  refine mm_Es (fun _ _ => mm_getS dX2_findClashes_41 fX2_88 sh_61 rfl gr_61_3) ?_
                  refine mm_Es (fun _ _ => mm_iload dX2_findClashes_44 rfl) ?_
                  refine mm_Es (fun _ _ => mm_iald (j) dX2_findClashes_46 sh_63 rfl (by omega)) ?_
                  refine mm_Es (fun _ _ => mm_iload_n dX2_findClashes_47 rfl rfl) ?_
                  refine mm_Ebn (fun _ _ => mm_icmp_ne 122 dX2_findClashes_48 (by decide)) (fun c_48 => ?_) (fun c_48 => ?_)
                  · exact absurd (by rw [e63j, hkk.2]) c_48
                  · refine mm_Es (fun _ _ => mm_aload_n dX2_findClashes_51 rfl rfl) ?_
                    refine mm_Es (fun _ _ => mm_getS dX2_findClashes_52 fX2_32 sh_159 rfl gr_159_1) ?_
                    refine mm_Es (fun _ _ => mm_aload_n dX2_findClashes_55 rfl rfl) ?_
                    refine mm_Es (fun _ _ => mm_getS dX2_findClashes_56 fX2_28 sh_159 rfl gr_159_0) ?_
                    refine mm_Es (fun _ _ => mm_getS dX2_findClashes_59 fX2_91 sh_61 rfl gr_61_4) ?_
                    refine mm_Es (fun _ _ => mm_iload_n dX2_findClashes_62 rfl rfl) ?_
                    refine mm_Es (fun _ _ => mm_iald (i) dX2_findClashes_63 sh_64 rfl (by omega)) ?_
                    refine mm_Es (fun _ _ => mm_aload_n dX2_findClashes_64 rfl rfl) ?_
                    refine mm_Es (fun _ _ => mm_getS dX2_findClashes_65 fX2_28 sh_159 rfl gr_159_0) ?_
                    refine mm_Es (fun _ _ => mm_getS dX2_findClashes_68 fX2_91 sh_61 rfl gr_61_4) ?_
                    refine mm_Es (fun _ _ => mm_iload dX2_findClashes_71 rfl) ?_
                    refine mm_Es (fun _ _ => mm_iald (j) dX2_findClashes_73 sh_64 rfl (by omega)) ?_
                    refine mm_Es (fun _ _ => mm_ior dX2_findClashes_74) ?_
                    refine mm_Es (fun _ _ => mm_cast (st' := [.int (nI (a ||| b)), .ref 135]) rfl (by rw [S3.lo (by decide), e64i, e64j, nI_lor]) rfl) ?_
                    refine mm_Es (fun _ _ => mm_bipush (x := 12) dX2_findClashes_75 (by decide)) ?_
                    refine mm_Es (fun _ _ => mm_cV (Y1 := YX0_learnWithin) dX2_findClashes_77 lX2_42 vX0_learnWithin (M1) sh_135 rfl rfl (by simp [Value.category])) ?_
                    refine mm_Es (fun _ _ => mm_aload_n dX2_findClashes_80 rfl rfl) ?_
                    refine mm_Es (fun _ _ => mm_aload_n dX2_findClashes_81 rfl rfl) ?_
                    refine mm_Es (fun _ _ => mm_getS dX2_findClashes_82 fX2_28 sh_159 rfl gr_159_0) ?_
                    refine mm_Es (fun _ _ => mm_getS dX2_findClashes_85 fX2_91 sh_61 rfl gr_61_4) ?_
                    refine mm_Es (fun _ _ => mm_iload_n dX2_findClashes_88 rfl rfl) ?_
                    refine mm_Es (fun _ _ => mm_iald (i) dX2_findClashes_89 sh_64 rfl (by omega)) ?_
                    refine mm_Es (fun _ _ => mm_aload_n dX2_findClashes_90 rfl rfl) ?_
                    refine mm_Es (fun _ _ => mm_getS dX2_findClashes_91 fX2_28 sh_159 rfl gr_159_0) ?_
                    refine mm_Es (fun _ _ => mm_getS dX2_findClashes_94 fX2_91 sh_61 rfl gr_61_4) ?_
                    refine mm_Es (fun _ _ => mm_iload dX2_findClashes_97 rfl) ?_
                    refine mm_Es (fun _ _ => mm_iald (j) dX2_findClashes_99 sh_64 rfl (by omega)) ?_
                    refine mm_Es (fun _ _ => mm_cast (st' := [.int (nI b), .int (nI a), .ref 159]) rfl (by rw [S3g.lo (by decide), e64i, e64j]; rfl) rfl) ?_
                    refine mm_Es (fun _ _ => mm_cV (Y1 := YX2_isClash) dX2_findClashes_100 lX2_94 vX2_isClash (M2) sh_159 rfl rfl (by simp [Value.category])) ?_
                    refine mm_Eb (fun _ _ => mm_if_eq 122 dX2_findClashes_103 (by decide)) (fun c_103 => ?_) (fun c_103 => ?_)
                    · exact absurd hcl (pI_e0.mp c_103)
                    · refine mm_Es (fun _ _ => mm_aload_n dX2_findClashes_106 rfl rfl) ?_
                      refine mm_Es (fun _ _ => mm_getS dX2_findClashes_107 fX2_9 sh_159 rfl gr_159_2) ?_
                      refine mm_Es (fun _ _ => mm_iload_n dX2_findClashes_110 rfl rfl) ?_
                      refine mm_Es (fun _ _ => mm_dup2 dX2_findClashes_111 rfl rfl) ?_
                      refine mm_Es (fun _ _ => mm_iald (i) dX2_findClashes_112 sh_160 rfl (by omega)) ?_
                      refine mm_Es (fun _ _ => mm_iconst (x := 1) dX2_findClashes_113 (by decide)) ?_
                      refine mm_Es (fun _ _ => mm_iload dX2_findClashes_114 rfl) ?_
                      refine mm_Es (fun _ _ => mm_ishl dX2_findClashes_116) ?_
                      refine mm_Es (fun _ _ => mm_ior dX2_findClashes_117) ?_
                      refine mm_Es (fun _ _ => mm_iast (i) dX2_findClashes_118 sh_160 rfl (by omega)) ?_
                      refine mm_Es (fun _ _ => mm_iinc dX2_findClashes_119 rfl (nI_inc x) rfl) ?_
                      refine mm_Es (fun _ _ => mm_iinc dX2_findClashes_122 rfl (nI_inc j) rfl) ?_
                      refine mm_Es (fun _ _ => mm_goto 18 dX2_findClashes_125 (by decide)) ?_
                      exact K
            · have hC : ¬ (pdk P i = k ∧ CL A Q P i j) := fun z => hcl (by have q := z.2.2; rw [hkk.1, ← ea, ← eb] at q; exact q)
              have K := ihm (j + 1) (by omega) g1 ⟨b1, msk_c msk1 (rel_no hC) rfl, S3g⟩ x (by rw [hx]; exact (cN_c (rel_no hC)).symm)
              refine mm_Es (fun _ _ => mm_iload dX2_findClashes_18 rfl) ?_
              refine mm_Es (fun _ _ => mm_iload_n dX2_findClashes_20 rfl rfl) ?_
              refine mm_Eb (fun _ _ => mm_icmp_ge 128 dX2_findClashes_21 (by decide)) (fun c_21 => ?_) (fun c_21 => ?_)
              · exact absurd c_21 (nI_ge hji (by omega))
              · refine mm_Es (fun _ _ => mm_aload_n dX2_findClashes_24 rfl rfl) ?_
                refine mm_Es (fun _ _ => mm_getS dX2_findClashes_25 fX2_28 sh_159 rfl gr_159_0) ?_
                refine mm_Es (fun _ _ => mm_getS dX2_findClashes_28 fX2_88 sh_61 rfl gr_61_3) ?_
                refine mm_Es (fun _ _ => mm_iload_n dX2_findClashes_31 rfl rfl) ?_
                refine mm_Es (fun _ _ => mm_iald (i) dX2_findClashes_32 sh_63 rfl (by omega)) ?_
                refine mm_Es (fun _ _ => mm_iload_n dX2_findClashes_33 rfl rfl) ?_
                refine mm_Ebn (fun _ _ => mm_icmp_ne 122 dX2_findClashes_34 (by decide)) (fun c_34 => ?_) (fun c_34 => ?_)
                · exact absurd (by rw [e63i, hkk.1]) c_34
                · refine mm_Es (fun _ _ => mm_aload_n dX2_findClashes_37 rfl rfl) ?_
                  refine mm_Es (fun _ _ => mm_getS dX2_findClashes_38 fX2_28 sh_159 rfl gr_159_0) ?_
                  refine mm_Es (fun _ _ => mm_getS dX2_findClashes_41 fX2_88 sh_61 rfl gr_61_3) ?_
                  refine mm_Es (fun _ _ => mm_iload dX2_findClashes_44 rfl) ?_
                  refine mm_Es (fun _ _ => mm_iald (j) dX2_findClashes_46 sh_63 rfl (by omega)) ?_
                  refine mm_Es (fun _ _ => mm_iload_n dX2_findClashes_47 rfl rfl) ?_
                  refine mm_Ebn (fun _ _ => mm_icmp_ne 122 dX2_findClashes_48 (by decide)) (fun c_48 => ?_) (fun c_48 => ?_)
                  · exact absurd (by rw [e63j, hkk.2]) c_48
                  · refine mm_Es (fun _ _ => mm_aload_n dX2_findClashes_51 rfl rfl) ?_
                    refine mm_Es (fun _ _ => mm_getS dX2_findClashes_52 fX2_32 sh_159 rfl gr_159_1) ?_
                    refine mm_Es (fun _ _ => mm_aload_n dX2_findClashes_55 rfl rfl) ?_
                    refine mm_Es (fun _ _ => mm_getS dX2_findClashes_56 fX2_28 sh_159 rfl gr_159_0) ?_
                    refine mm_Es (fun _ _ => mm_getS dX2_findClashes_59 fX2_91 sh_61 rfl gr_61_4) ?_
                    refine mm_Es (fun _ _ => mm_iload_n dX2_findClashes_62 rfl rfl) ?_
                    refine mm_Es (fun _ _ => mm_iald (i) dX2_findClashes_63 sh_64 rfl (by omega)) ?_
                    refine mm_Es (fun _ _ => mm_aload_n dX2_findClashes_64 rfl rfl) ?_
                    refine mm_Es (fun _ _ => mm_getS dX2_findClashes_65 fX2_28 sh_159 rfl gr_159_0) ?_
                    refine mm_Es (fun _ _ => mm_getS dX2_findClashes_68 fX2_91 sh_61 rfl gr_61_4) ?_
                    refine mm_Es (fun _ _ => mm_iload dX2_findClashes_71 rfl) ?_
                    refine mm_Es (fun _ _ => mm_iald (j) dX2_findClashes_73 sh_64 rfl (by omega)) ?_
                    refine mm_Es (fun _ _ => mm_ior dX2_findClashes_74) ?_
                    refine mm_Es (fun _ _ => mm_cast (st' := [.int (nI (a ||| b)), .ref 135]) rfl (by rw [S3.lo (by decide), e64i, e64j, nI_lor]) rfl) ?_
                    refine mm_Es (fun _ _ => mm_bipush (x := 12) dX2_findClashes_75 (by decide)) ?_
                    refine mm_Es (fun _ _ => mm_cV (Y1 := YX0_learnWithin) dX2_findClashes_77 lX2_42 vX0_learnWithin (M1) sh_135 rfl rfl (by simp [Value.category])) ?_
                    refine mm_Es (fun _ _ => mm_aload_n dX2_findClashes_80 rfl rfl) ?_
                    refine mm_Es (fun _ _ => mm_aload_n dX2_findClashes_81 rfl rfl) ?_
                    refine mm_Es (fun _ _ => mm_getS dX2_findClashes_82 fX2_28 sh_159 rfl gr_159_0) ?_
                    refine mm_Es (fun _ _ => mm_getS dX2_findClashes_85 fX2_91 sh_61 rfl gr_61_4) ?_
                    refine mm_Es (fun _ _ => mm_iload_n dX2_findClashes_88 rfl rfl) ?_
                    refine mm_Es (fun _ _ => mm_iald (i) dX2_findClashes_89 sh_64 rfl (by omega)) ?_
                    refine mm_Es (fun _ _ => mm_aload_n dX2_findClashes_90 rfl rfl) ?_
                    refine mm_Es (fun _ _ => mm_getS dX2_findClashes_91 fX2_28 sh_159 rfl gr_159_0) ?_
                    refine mm_Es (fun _ _ => mm_getS dX2_findClashes_94 fX2_91 sh_61 rfl gr_61_4) ?_
                    refine mm_Es (fun _ _ => mm_iload dX2_findClashes_97 rfl) ?_
                    refine mm_Es (fun _ _ => mm_iald (j) dX2_findClashes_99 sh_64 rfl (by omega)) ?_
                    refine mm_Es (fun _ _ => mm_cast (st' := [.int (nI b), .int (nI a), .ref 159]) rfl (by rw [S3g.lo (by decide), e64i, e64j]; rfl) rfl) ?_
                    refine mm_Es (fun _ _ => mm_cV (Y1 := YX2_isClash) dX2_findClashes_100 lX2_94 vX2_isClash (M2) sh_159 rfl rfl (by simp [Value.category])) ?_
                    refine mm_Eb (fun _ _ => mm_if_eq 122 dX2_findClashes_103 (by decide)) (fun c_103 => ?_) (fun c_103 => ?_)
                    · refine mm_Es (fun _ _ => mm_iinc dX2_findClashes_122 rfl (nI_inc j) rfl) ?_
                      refine mm_Es (fun _ _ => mm_goto 18 dX2_findClashes_125 (by decide)) ?_
                      exact K
                    · exact absurd (pI_n0.mp c_103) hcl
          · have hC : ¬ (pdk P i = k ∧ CL A Q P i j) := fun z => hkk ⟨z.1, z.2.1.symm.trans z.1⟩
            have K := ihm (j + 1) (by omega) gg ⟨S1, msk_c S2 (rel_no hC) rfl, S3⟩ x (by rw [hx]; exact (cN_c (rel_no hC)).symm)
            refine mm_Es (fun _ _ => mm_iload dX2_findClashes_18 rfl) ?_
            refine mm_Es (fun _ _ => mm_iload_n dX2_findClashes_20 rfl rfl) ?_
            refine mm_Eb (fun _ _ => mm_icmp_ge 128 dX2_findClashes_21 (by decide)) (fun c_21 => ?_) (fun c_21 => ?_)
            · exact absurd c_21 (nI_ge hji (by omega))
            · refine mm_Es (fun _ _ => mm_aload_n dX2_findClashes_24 rfl rfl) ?_
              refine mm_Es (fun _ _ => mm_getS dX2_findClashes_25 fX2_28 sh_159 rfl gr_159_0) ?_
              refine mm_Es (fun _ _ => mm_getS dX2_findClashes_28 fX2_88 sh_61 rfl gr_61_3) ?_
              refine mm_Es (fun _ _ => mm_iload_n dX2_findClashes_31 rfl rfl) ?_
              refine mm_Es (fun _ _ => mm_iald (i) dX2_findClashes_32 sh_63 rfl (by omega)) ?_
              refine mm_Es (fun _ _ => mm_iload_n dX2_findClashes_33 rfl rfl) ?_
              refine mm_Ebn (fun _ _ => mm_icmp_ne 122 dX2_findClashes_34 (by decide)) (fun c_34 => ?_) (fun c_34 => ?_)
              · refine mm_Es (fun _ _ => mm_iinc dX2_findClashes_122 rfl (nI_inc j) rfl) ?_
                refine mm_Es (fun _ _ => mm_goto 18 dX2_findClashes_125 (by decide)) ?_
                exact K
              · refine mm_Es (fun _ _ => mm_aload_n dX2_findClashes_37 rfl rfl) ?_
                refine mm_Es (fun _ _ => mm_getS dX2_findClashes_38 fX2_28 sh_159 rfl gr_159_0) ?_
                refine mm_Es (fun _ _ => mm_getS dX2_findClashes_41 fX2_88 sh_61 rfl gr_61_3) ?_
                refine mm_Es (fun _ _ => mm_iload dX2_findClashes_44 rfl) ?_
                refine mm_Es (fun _ _ => mm_iald (j) dX2_findClashes_46 sh_63 rfl (by omega)) ?_
                refine mm_Es (fun _ _ => mm_iload_n dX2_findClashes_47 rfl rfl) ?_
                refine mm_Ebn (fun _ _ => mm_icmp_ne 122 dX2_findClashes_48 (by decide)) (fun c_48 => ?_) (fun c_48 => ?_)
                · refine mm_Es (fun _ _ => mm_iinc dX2_findClashes_122 rfl (nI_inc j) rfl) ?_
                  refine mm_Es (fun _ _ => mm_goto 18 dX2_findClashes_125 (by decide)) ?_
                  exact K
                · exact absurd ⟨by rw [e63i] at c_34; exact (nI_eq (by omega) (by omega)).mp c_34, by rw [e63j] at c_48; exact (nI_eq (by omega) (by omega)).mp c_48⟩ hkk
      have K := K18 i 0 (by omega) gg S x hx
      refine mm_Es (fun _ _ => mm_iload_n dX2_findClashes_4 rfl rfl) ?_
      refine mm_Es (fun _ _ => mm_aload_n dX2_findClashes_5 rfl rfl) ?_
      refine mm_Es (fun _ _ => mm_getS dX2_findClashes_6 fX2_28 sh_159 rfl gr_159_0) ?_
      refine mm_Es (fun _ _ => mm_getI dX2_findClashes_9 fX2_85 sh_61 rfl) ?_
      refine mm_Eb (fun _ _ => mm_icmp_ge 134 dX2_findClashes_12 (by decide)) (fun c_12 => ?_) (fun c_12 => ?_)
      · exact absurd (by rw [e61] at c_12; exact c_12) (nI_ge hin (by omega))
      · refine mm_Es (fun _ _ => mm_iconst (x := 0) dX2_findClashes_15 (by decide)) ?_
        refine mm_Es (fun _ _ => mm_istore dX2_findClashes_16 (by decide) rfl) ?_
        exact K
  have K := K4 (pdn P) 0 (by omega) h ⟨hW, hm, cl_fr.refl h⟩ 0 (by omega) none
  refine mm_Es (fun _ _ => mm_iconst (x := 0) dX2_findClashes_0 (by decide)) ?_
  refine mm_Es (fun _ _ => mm_istore_n dX2_findClashes_1 rfl (by decide) rfl) ?_
  refine mm_Es (fun _ _ => mm_iconst (x := 0) dX2_findClashes_2 (by decide)) ?_
  refine mm_Es (fun _ _ => mm_istore_n dX2_findClashes_3 rfl (by decide) rfl) ?_
  exact K
