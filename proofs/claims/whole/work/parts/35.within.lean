/-! learnWithin; what the reference keeps of chords: keepsChord, keepsAll, areAlike, isHeard. -/
set_option maxRecDepth 100000 in
set_option maxHeartbeats 4000000 in
theorem mX0_learnWithin (d : Nat) (h : mm_H) (A : MD) (hA : mdOK A) (Q : LD) (r : Nat) (hr : r < 6) (hQ : lawOK Q) (k : Nat) (hk : k < mk A) (hW : aimed A Q r k h) (W : Nat) (hWn : W < 2 ^ mn A) (q : Nat) (hq : q ≤ 12) : ∃ g, mm_M (d + 5) YX0_learnWithin [.ref 135, .int (nI W), .int (nI q)] h none g ∧ aimed A Q r k g ∧ lrn_fr h g ∧ more (mn A) h g ∧ ∀ t, sub t W → pc t ≤ q → ¬ g.1 136 t = 0 := by
  refine mm_EM.v (mm_EM.of [some (.ref 135), some (.int (nI W)), some (.int (nI q)), none, none, none] rfl rfl (Nat.le_of_ble_eq_true rfl) ?_)
  have h12 := hA.1
  have hp := p2_lt h12
  have hW4 : W < 4096 := by omega
  have hpW := pc_le hW4
  have hp2 := p2_lt hpW
  have K13 : ∀ m i, i + m = 2 ^ pc W → ∀ g, aimed A Q r k g → lrn_fr h g → more (mn A) h g → (∀ j, j < i → pc (sbs W j) ≤ q → ¬ g.1 136 (sbs W j) = 0) → mm_E (d + 5) YX0_learnWithin 13 [some (.ref 135), some (.int (nI W)), some (.int (nI q)), some (.int (nI (2 ^ pc W))), some (.int (nI (sbs W i))), some (.int (nI i))] [] g (fun v g => v = none ∧ aimed A Q r k g ∧ lrn_fr h g ∧ more (mn A) h g ∧ ∀ t, sub t W → pc t ≤ q → ¬ g.1 136 t = 0) := by
    intro m
    induction m with
    | zero =>
      intro i hi g a1 a2 a3 a4
      have hi : i = 2 ^ pc W := by omega
      subst hi
      refine mm_Es (fun _ _ => mm_iload dX0_learnWithin_13 rfl) ?_
      refine mm_Es (fun _ _ => mm_iload_n dX0_learnWithin_15 rfl rfl) ?_
      refine mm_Eb (fun _ _ => mm_icmp_ge 48 dX0_learnWithin_16 (by decide)) (fun c_16 => ?_) (fun c_16 => ?_)
      · refine mm_Er (mm_return dX0_learnWithin_48 rfl) ?_
        refine ⟨rfl, a1, a2, a3, fun t ht hpt => ?_⟩
        obtain ⟨j, hj, ej⟩ := sbs_onto hW4 ht
        rw [← ej] at hpt ⊢
        exact a4 j hj hpt
      · exact absurd (Int32.le_refl _) c_16
    | succ m ih =>
      intro i hi g a1 a2 a3 a4
      have hin : i < 2 ^ pc W := by omega
      have hsW := sbs_le (i := i) hW4
      have hps := pc_le (show sbs W i < 4096 by omega)
      have nx := nxt_sbs hW4 hin
      by_cases hb : pc (sbs W i) ≤ q
      · obtain ⟨g2, M2, b1, b2, b3, b4⟩ := mX0_learn d g A hA Q r hr hQ k hk a1 (sbs W i) (by omega)
        have K := ih (i + 1) (by omega) g2 b1 (a2.trans b4) (fun b hb2 hn => b3 b hb2 (a3 b hb2 hn)) (fun j hj hpj => by
          by_cases z : j = i
          · subst z; exact b2
          · exact b3 _ (by have := sbs_le (i := j) hW4; omega) (a4 j (by omega) hpj))
        refine mm_Es (fun _ _ => mm_iload dX0_learnWithin_13 rfl) ?_
        refine mm_Es (fun _ _ => mm_iload_n dX0_learnWithin_15 rfl rfl) ?_
        refine mm_Eb (fun _ _ => mm_icmp_ge 48 dX0_learnWithin_16 (by decide)) (fun c_16 => ?_) (fun c_16 => ?_)
        · exact absurd c_16 (nI_ge hin (by omega))
        · refine mm_Es (fun _ _ => mm_iload dX0_learnWithin_19 rfl) ?_
          refine mm_Es (fun _ _ => mm_cS (Y1 := YJ6_bitCount_0f7a4) dX0_learnWithin_21 lX0_72 sJ6_bitCount_0f7a4 (mJ6_bitCount_0f7a4 (d + 4) g (sbs W i) (by omega)) rfl rfl (by simp [Value.category])) ?_
          refine mm_Es (fun _ _ => mm_iload_n dX0_learnWithin_24 rfl rfl) ?_
          refine mm_Eb (fun _ _ => mm_icmp_gt 34 dX0_learnWithin_25 (by decide)) (fun c_25 => ?_) (fun c_25 => ?_)
          · exact absurd (nI_le hb (by omega)) (Int32.not_le.mpr c_25)
          · refine mm_Es (fun _ _ => mm_aload_n dX0_learnWithin_28 rfl rfl) ?_
            refine mm_Es (fun _ _ => mm_iload dX0_learnWithin_29 rfl) ?_
            refine mm_Es (fun _ _ => mm_cV (Y1 := YX0_learn) dX0_learnWithin_31 lX0_78 vX0_learn (M2) sh_135 rfl rfl (by simp [Value.category])) ?_
            refine mm_Es (fun _ _ => mm_iload dX0_learnWithin_34 rfl) ?_
            refine mm_Es (fun _ _ => mm_iload_n dX0_learnWithin_36 rfl rfl) ?_
            refine mm_Es (fun _ _ => mm_cSN (Y1 := YX10_nextWithin) dX0_learnWithin_37 (List.Mem.head _) sX10_nextWithin (mX10_nextWithin (d + 4) g2 (nI (sbs W i)) (nI W)) rfl rfl (by simp [Value.category])) ?_
            refine mm_Es (fun _ _ => mm_istore dX0_learnWithin_40 (by decide) rfl) ?_
            refine mm_Es (fun _ _ => mm_iinc dX0_learnWithin_42 rfl (nI_inc i) rfl) ?_
            refine mm_Es (fun _ _ => mm_goto 13 dX0_learnWithin_45 (by decide)) ?_
            exact mm_Ec (by rw [nx]; rfl) rfl rfl K
      · have K := ih (i + 1) (by omega) g a1 a2 a3 (fun j hj hpj => by
          by_cases z : j = i
          · subst z; exact absurd hpj hb
          · exact a4 j (by omega) hpj)
        refine mm_Es (fun _ _ => mm_iload dX0_learnWithin_13 rfl) ?_
        refine mm_Es (fun _ _ => mm_iload_n dX0_learnWithin_15 rfl rfl) ?_
        refine mm_Eb (fun _ _ => mm_icmp_ge 48 dX0_learnWithin_16 (by decide)) (fun c_16 => ?_) (fun c_16 => ?_)
        · exact absurd c_16 (nI_ge hin (by omega))
        · refine mm_Es (fun _ _ => mm_iload dX0_learnWithin_19 rfl) ?_
          refine mm_Es (fun _ _ => mm_cS (Y1 := YJ6_bitCount_0f7a4) dX0_learnWithin_21 lX0_72 sJ6_bitCount_0f7a4 (mJ6_bitCount_0f7a4 (d + 4) g (sbs W i) (by omega)) rfl rfl (by simp [Value.category])) ?_
          refine mm_Es (fun _ _ => mm_iload_n dX0_learnWithin_24 rfl rfl) ?_
          refine mm_Eb (fun _ _ => mm_icmp_gt 34 dX0_learnWithin_25 (by decide)) (fun c_25 => ?_) (fun c_25 => ?_)
          · refine mm_Es (fun _ _ => mm_iload dX0_learnWithin_34 rfl) ?_
            refine mm_Es (fun _ _ => mm_iload_n dX0_learnWithin_36 rfl rfl) ?_
            refine mm_Es (fun _ _ => mm_cSN (Y1 := YX10_nextWithin) dX0_learnWithin_37 (List.Mem.head _) sX10_nextWithin (mX10_nextWithin (d + 4) g (nI (sbs W i)) (nI W)) rfl rfl (by simp [Value.category])) ?_
            refine mm_Es (fun _ _ => mm_istore dX0_learnWithin_40 (by decide) rfl) ?_
            refine mm_Es (fun _ _ => mm_iinc dX0_learnWithin_42 rfl (nI_inc i) rfl) ?_
            refine mm_Es (fun _ _ => mm_goto 13 dX0_learnWithin_45 (by decide)) ?_
            exact mm_Ec (by rw [nx]; rfl) rfl rfl K
          · exact absurd (nI_lt (show q < pc (sbs W i) by omega) (by omega)) c_25
  have K := K13 (2 ^ pc W) 0 (by omega) h hW (lrn_fr.refl h) (fun _ _ z => z) (fun j hj => by omega)
  rw [sbs_0] at K
  refine mm_Es (fun _ _ => mm_iconst (x := 1) dX0_learnWithin_0 (by decide)) ?_
  refine mm_Es (fun _ _ => mm_iload_n dX0_learnWithin_1 rfl rfl) ?_
  refine mm_Es (fun _ _ => mm_cS (Y1 := YJ6_bitCount_0f7a4) dX0_learnWithin_2 lX0_72 sJ6_bitCount_0f7a4 (mJ6_bitCount_0f7a4 (d + 4) h W hW4) rfl rfl (by simp [Value.category])) ?_
  refine mm_Es (fun _ _ => mm_ishl dX0_learnWithin_5) ?_
  refine mm_Es (fun _ _ => mm_istore_n dX0_learnWithin_6 rfl (by decide) rfl) ?_
  refine mm_Es (fun _ _ => mm_iconst (x := 0) dX0_learnWithin_7 (by decide)) ?_
  refine mm_Es (fun _ _ => mm_istore dX0_learnWithin_8 (by decide) rfl) ?_
  refine mm_Es (fun _ _ => mm_iconst (x := 0) dX0_learnWithin_10 (by decide)) ?_
  refine mm_Es (fun _ _ => mm_istore dX0_learnWithin_11 (by decide) rfl) ?_
  exact mm_Ec (by rw [sh1 hpW]; rfl) rfl rfl K
theorem sub_I {s W : Nat} (hs : s < 4096) (hW : W < 4096) : (nI s &&& (nI W ^^^ -1) = 0) ↔ sub s W := by
  rw [← Int32.toBitVec_inj, Int32.toBitVec_and, Int32.toBitVec_xor]
  have b1 : (nI W).toBitVec = BitVec.ofNat 32 W := rfl
  have b2 : (nI s).toBitVec = BitVec.ofNat 32 s := rfl
  have b3 : (-1 : Int32).toBitVec = BitVec.allOnes 32 := by decide
  have b4 : (0 : Int32).toBitVec = 0#32 := rfl
  rw [b1, b2, b3, b4, BitVec.xor_allOnes]
  have l1 : ∀ i, 32 ≤ i → s.testBit i = false := fun i hi => Nat.testBit_lt_two_pow (Nat.lt_of_lt_of_le (show s < 2 ^ 32 by omega) (Nat.pow_le_pow_right (by decide) hi))
  constructor
  · intro e
    unfold sub
    apply Nat.eq_of_testBit_eq
    intro i
    rw [Nat.testBit_and]
    by_cases hi : i < 32
    · have := congrArg (fun x => x.getLsbD i) e
      simp only [BitVec.getLsbD_and, BitVec.getLsbD_not, BitVec.getLsbD_ofNat, hi, decide_true, Bool.true_and, BitVec.getLsbD_zero] at this
      cases h1 : s.testBit i <;> cases h2 : W.testBit i <;> simp [h1, h2] at this ⊢
    · rw [l1 i (by omega)]; rfl
  · intro e
    apply BitVec.eq_of_getLsbD_eq
    intro i hi
    simp only [BitVec.getLsbD_and, BitVec.getLsbD_not, BitVec.getLsbD_ofNat, hi, decide_true, Bool.true_and, BitVec.getLsbD_zero]
    have := congrArg (fun x => x.testBit i) e
    simp only [Nat.testBit_and] at this
    cases h1 : s.testBit i <;> cases h2 : W.testBit i <;> simp [h1, h2] at this ⊢
/-- the reference keeps this chord of this set -/
def kept (ch : List Int32) (h : mm_H) (a : Nat) : Prop := h.1 202 a = nI ch.length ∧ (∀ j, j < ch.length → h.1 203 (12 * a + j) = ch.getD j 0) ∧ h.2.1 204 a = ch.foldl (fun s x => s * 1000003 + x.toInt64) (nI ch.length).toInt64
def pKp : Nat → Bool := fun c => rg 194 204 c || c == 165
/-- what a run that keeps chords leaves as it was -/
def kp_fr (h g : mm_H) : Prop := frm pKp h g ∧ ∀ j, j ≠ 49 → g.1 165 j = h.1 165 j
theorem kp_fr.refl (h : mm_H) : kp_fr h h := ⟨frm.refl _ _, fun _ _ => rfl⟩
theorem kp_fr.trans {h g k : mm_H} (a : kp_fr h g) (b : kp_fr g k) : kp_fr h k := ⟨a.1.trans b.1, fun j hj => (b.2 j hj).trans (a.2 j hj)⟩
theorem pKp_f {c : Nat} (h : ¬ (194 ≤ c ∧ c ≤ 204)) (h2 : c ≠ 165) : pKp c = false := by simp only [pKp, Bool.or_eq_false_iff]; exact ⟨rg_f h, by simp [h2]⟩
/-- the chords of the other sets stay -/
def kp_oth (h g : mm_H) (P : Nat → Prop) : Prop := ∀ b, b < 4096 → ¬ P b → g.1 202 b = h.1 202 b ∧ (∀ j, j < 12 → g.1 203 (12 * b + j) = h.1 203 (12 * b + j)) ∧ g.2.1 204 b = h.2.1 204 b
theorem kept.oth {ch : List Int32} {h g : mm_H} {P : Nat → Prop} {b : Nat} (hk : kept ch h b) (ho : kp_oth h g P) (hb : b < 4096) (hn : ¬ P b) (hl : ch.length ≤ 12) : kept ch g b := by
  obtain ⟨o1, o2, o3⟩ := ho b hb hn
  exact ⟨by rw [o1]; exact hk.1, fun j hj => by rw [o2 j (by omega)]; exact hk.2.1 j hj, by rw [o3]; exact hk.2.2⟩
set_option maxRecDepth 100000 in
set_option maxHeartbeats 4000000 in
theorem mX11_keepsChord (d : Nat) (h : mm_H) (A : MD) (hA : mdOK A) (hV : viewM h A) (Q : LD) (r : Nat) (hr : r < 6) (hQ : lawOK Q) (hM : lawM h.1 r Q) (k : Nat) (hk : k < mk A) (a : Nat) (ha : a < 4096) : ∃ g, mm_M (d + 7) YX11_keepsChord [.ref 165, .int (nI r), .int (nI k), .int (nI a)] h none g ∧ kp_fr h g ∧ kept (chd A Q k a) g a ∧ kp_oth h g (fun b => b = a) := by
  refine mm_EM.v (mm_EM.of [some (.ref 165), some (.int (nI r)), some (.int (nI k)), some (.int (nI a)), none, none, none] rfl rfl (Nat.le_of_ble_eq_true rfl) ?_)
  obtain ⟨g1, M1, f1, s1, s2, s3⟩ := mX11_sings d h A hA hV Q r hr hQ hM k hk a ha
  obtain ⟨L, hL⟩ : ∃ L, L = chd A Q k a := ⟨_, rfl⟩
  have hll : L.length ≤ 12 := by rw [hL]; exact Nat.le_trans (chd_pc hA.1 Q k ha) (pc_le ha)
  have e49 : g1.1 165 49 = nI L.length := by rw [s2, hL, chd_len]
  have e199 : ∀ j, j < L.length → g1.1 199 j = L.getD j 0 := fun j hj => by
    rw [hL] at hj ⊢
    exact chd_at s3 (by rw [← chd_len]; exact hj)
  rw [← hL]
  have K17 : ∀ q i, i + q = L.length → ∀ g, frm (onep 203) g1 g → (∀ b j, ¬ (b = a ∧ j < 12) → j < 12 → g.1 203 (12 * b + j) = g1.1 203 (12 * b + j)) → (∀ j, j < i → g.1 203 (12 * a + j) = L.getD j 0) → mm_E (d + 7) YX11_keepsChord 17 [some (.ref 165), some (.int (nI r)), some (.int (nI k)), some (.int (nI a)), some (.long ((L.take i).foldl (fun s x => s * 1000003 + x.toInt64) (nI L.length).toInt64)), none, some (.int (nI i))] [] g (fun v g => v = none ∧ kp_fr h g ∧ kept L g a ∧ kp_oth h g (fun b => b = a)) := by
    intro q
    induction q with
    | zero =>
      intro i hi g fg b1 b2
      have hi : i = L.length := by omega
      subst hi
      rw [List.take_length]
      have eg : ∀ c, c ≠ 203 → g.1 c = g1.1 c := fun c hc => fg.i (by simp [onep, hc])
      have eg49 : g.1 165 49 = nI L.length := by rw [eg 165 (by decide)]; exact e49
      obtain ⟨G, hG⟩ : ∃ G : mm_H, G = (mm_up g.1 202 a (nI L.length), mm_upL g.2.1 204 a (L.foldl (fun s x => s * 1000003 + x.toInt64) (nI L.length).toInt64), g.2.2) := ⟨_, rfl⟩
      have hpost : kp_fr h G ∧ kept L G a ∧ kp_oth h G (fun b => b = a) := by
        have fG : frm pKp h G := by
          rw [hG]
          have z1 : frm pKp h g1 := f1.mono (fun c hc => by
            simp only [pKp, Bool.or_eq_false_iff, rg, decide_eq_false_iff_not, beq_eq_false_iff_ne] at hc
            simp only [pSing, Bool.or_eq_false_iff, rg, decide_eq_false_iff_not, beq_eq_false_iff_ne]
            omega)
          have z2 : frm pKp h g := z1.trans (fg.mono (fun c hc => by
            simp only [pKp, Bool.or_eq_false_iff, rg, decide_eq_false_iff_not, beq_eq_false_iff_ne] at hc
            simp only [onep, beq_eq_false_iff_ne]
            omega))
          exact (z2.upL (c := 204) rfl).up (c := 202) rfl
        refine ⟨⟨fG, fun j hj => ?_⟩, ⟨?_, fun j hj => ?_, ?_⟩, fun b hb hn => ⟨?_, fun j hj => ?_, ?_⟩⟩
        · rw [hG]; dsimp only; rw [mm_up_n (by decide), eg 165 (by decide)]; exact s1 j hj
        · rw [hG]; dsimp only; rw [mm_up_e]
        · rw [hG]; dsimp only; rw [mm_up_n (by decide)]; exact b2 j hj
        · rw [hG]; dsimp only; simp [mm_upL, vp_updL]
        · rw [hG]; dsimp only; rw [mm_up_k hn, eg 202 (by decide), f1.i rfl]
        · rw [hG]; dsimp only; rw [mm_up_n (by decide), b1 b j (fun z => hn z.1) hj, f1.i rfl]
        · rw [hG]; dsimp only
          have : mm_upL g.2.1 204 a (L.foldl (fun s x => s * 1000003 + x.toInt64) (nI L.length).toInt64) 204 b = g.2.1 204 b := by simp [mm_upL, vp_updL, hn]
          rw [this, fg.l rfl, f1.l rfl]
      refine mm_Es (fun _ _ => mm_iload dX11_keepsChord_17 rfl) ?_
      refine mm_Es (fun _ _ => mm_aload_n dX11_keepsChord_19 rfl rfl) ?_
      refine mm_Es (fun _ _ => mm_getI dX11_keepsChord_20 fX11_422 sh_165 rfl) ?_
      refine mm_Eb (fun _ _ => mm_icmp_ge 68 dX11_keepsChord_23 (by decide)) (fun c_23 => ?_) (fun c_23 => ?_)
      · refine mm_Es (fun _ _ => mm_aload_n dX11_keepsChord_68 rfl rfl) ?_
        refine mm_Es (fun _ _ => mm_getS dX11_keepsChord_69 fX11_124 sh_165 rfl gr_165_50) ?_
        refine mm_Es (fun _ _ => mm_iload_n dX11_keepsChord_72 rfl rfl) ?_
        refine mm_Es (fun _ _ => mm_aload_n dX11_keepsChord_73 rfl rfl) ?_
        refine mm_Es (fun _ _ => mm_getI dX11_keepsChord_74 fX11_422 sh_165 rfl) ?_
        refine mm_Es (fun _ _ => mm_iast (a) dX11_keepsChord_77 sh_202 rfl ha) ?_
        refine mm_Es (fun _ _ => mm_aload_n dX11_keepsChord_78 rfl rfl) ?_
        refine mm_Es (fun _ _ => mm_getS dX11_keepsChord_79 fX11_131 sh_165 rfl gr_165_52) ?_
        refine mm_Es (fun _ _ => mm_iload_n dX11_keepsChord_82 rfl rfl) ?_
        refine mm_Es (fun _ _ => mm_lload dX11_keepsChord_83 rfl) ?_
        refine mm_Es (fun _ _ => mm_last (a) dX11_keepsChord_85 sh_204 rfl ha) ?_
        refine mm_Es (fun _ _ => mm_cast (g := G) rfl rfl (by rw [hG, eg49])) ?_
        refine mm_Er (mm_return dX11_keepsChord_86 rfl) ?_
        exact ⟨rfl, hpost⟩
      · exact absurd (by rw [eg49]; exact Int32.le_refl _) c_23
    | succ q ih =>
      intro i hi g fg b1 b2
      have hin : i < L.length := by omega
      have eg : ∀ c, c ≠ 203 → g.1 c = g1.1 c := fun c hc => fg.i (by simp [onep, hc])
      have eg49 : g.1 165 49 = nI L.length := by rw [eg 165 (by decide)]; exact e49
      have eg199 : g.1 199 i = L.getD i 0 := by rw [eg 199 (by decide)]; exact e199 i hin
      have K := ih (i + 1) (by omega) (mm_up g.1 203 (12 * a + i) (L.getD i 0), g.2.1, g.2.2) (fg.up rfl) (fun b j hn hj => by
        dsimp only
        rw [mm_up_k (fun z => hn ⟨by omega, hj⟩)]
        exact b1 b j hn hj) (fun j hj => by
        dsimp only
        rw [mm_up_s]
        unfold upd
        by_cases z : j = i
        · subst z; rw [if_pos rfl]
        · rw [if_neg (by omega)]; exact b2 j (by omega))
      rw [take_sI hin, List.foldl_append] at K
      refine mm_Es (fun _ _ => mm_iload dX11_keepsChord_17 rfl) ?_
      refine mm_Es (fun _ _ => mm_aload_n dX11_keepsChord_19 rfl rfl) ?_
      refine mm_Es (fun _ _ => mm_getI dX11_keepsChord_20 fX11_422 sh_165 rfl) ?_
      refine mm_Eb (fun _ _ => mm_icmp_ge 68 dX11_keepsChord_23 (by decide)) (fun c_23 => ?_) (fun c_23 => ?_)
      · exact absurd (by rw [eg49] at c_23; exact c_23) (nI_ge hin (by omega))
      · refine mm_Es (fun _ _ => mm_aload_n dX11_keepsChord_26 rfl rfl) ?_
        refine mm_Es (fun _ _ => mm_getS dX11_keepsChord_27 fX11_128 sh_165 rfl gr_165_51) ?_
        refine mm_Es (fun _ _ => mm_bipush (x := 12) dX11_keepsChord_30 (by decide)) ?_
        refine mm_Es (fun _ _ => mm_iload_n dX11_keepsChord_32 rfl rfl) ?_
        refine mm_Es (fun _ _ => mm_imul dX11_keepsChord_33) ?_
        refine mm_Es (fun _ _ => mm_iload dX11_keepsChord_34 rfl) ?_
        refine mm_Es (fun _ _ => mm_iadd dX11_keepsChord_36) ?_
        refine mm_Es (fun _ _ => mm_aload_n dX11_keepsChord_37 rfl rfl) ?_
        refine mm_Es (fun _ _ => mm_getS dX11_keepsChord_38 fX11_115 sh_165 rfl gr_165_46) ?_
        refine mm_Es (fun _ _ => mm_iload dX11_keepsChord_41 rfl) ?_
        refine mm_Es (fun _ _ => mm_iald (i) dX11_keepsChord_43 sh_199 rfl (by omega)) ?_
        refine mm_Es (fun _ _ => mm_iast (12 * a + i) dX11_keepsChord_44 sh_203 (by rw [← nI_add, ← nI_mul]; rfl) (by omega)) ?_
        refine mm_Es (fun _ _ => mm_cast (g := (mm_up g.1 203 (12 * a + i) (L.getD i 0), g.2.1, g.2.2)) rfl rfl (by rw [eg199])) ?_
        refine mm_Es (fun _ _ => mm_lload dX11_keepsChord_45 rfl) ?_
        refine mm_Es (fun _ _ => mm_ldc2 dX11_keepsChord_47 kX11_433) ?_
        refine mm_Es (fun _ _ => mm_lmul dX11_keepsChord_50) ?_
        refine mm_Es (fun _ _ => mm_aload_n dX11_keepsChord_51 rfl rfl) ?_
        refine mm_Es (fun _ _ => mm_getS dX11_keepsChord_52 fX11_115 sh_165 rfl gr_165_46) ?_
        refine mm_Es (fun _ _ => mm_iload dX11_keepsChord_55 rfl) ?_
        refine mm_Es (fun _ _ => mm_iald (i) dX11_keepsChord_57 sh_199 rfl (by omega)) ?_
        refine mm_Es (fun _ _ => mm_i2l dX11_keepsChord_58 rfl) ?_
        refine mm_Es (fun _ _ => mm_ladd dX11_keepsChord_59) ?_
        refine mm_Es (fun _ _ => mm_lstore dX11_keepsChord_60 (by decide) rfl) ?_
        refine mm_Es (fun _ _ => mm_iinc dX11_keepsChord_62 rfl (nI_inc i) rfl) ?_
        refine mm_Es (fun _ _ => mm_goto 17 dX11_keepsChord_65 (by decide)) ?_
        exact mm_Ec (by dsimp only; rw [mm_up_n (show 199 ≠ 203 by decide), eg199]; rfl) rfl rfl K
  have K := K17 L.length 0 (by omega) g1 (frm.refl _ _) (fun _ _ _ _ => rfl) (fun j hj => by omega)
  refine mm_Es (fun _ _ => mm_aload_n dX11_keepsChord_0 rfl rfl) ?_
  refine mm_Es (fun _ _ => mm_iload_n dX11_keepsChord_1 rfl rfl) ?_
  refine mm_Es (fun _ _ => mm_iload_n dX11_keepsChord_2 rfl rfl) ?_
  refine mm_Es (fun _ _ => mm_iload_n dX11_keepsChord_3 rfl rfl) ?_
  refine mm_Es (fun _ _ => mm_cV (Y1 := YX11_sings) dX11_keepsChord_4 lX11_430 vX11_sings (M1) sh_165 rfl rfl (by simp [Value.category])) ?_
  refine mm_Es (fun _ _ => mm_aload_n dX11_keepsChord_7 rfl rfl) ?_
  refine mm_Es (fun _ _ => mm_getI dX11_keepsChord_8 fX11_422 sh_165 rfl) ?_
  refine mm_Es (fun _ _ => mm_i2l dX11_keepsChord_11 rfl) ?_
  refine mm_Es (fun _ _ => mm_lstore dX11_keepsChord_12 (by decide) rfl) ?_
  refine mm_Es (fun _ _ => mm_iconst (x := 0) dX11_keepsChord_14 (by decide)) ?_
  refine mm_Es (fun _ _ => mm_istore dX11_keepsChord_15 (by decide) rfl) ?_
  exact mm_Ec (by rw [e49]; rfl) rfl rfl K
set_option maxRecDepth 100000 in
set_option maxHeartbeats 4000000 in
theorem mX11_keepsAll (d : Nat) (h : mm_H) (A : MD) (hA : mdOK A) (hV : viewM h A) (Q : LD) (r : Nat) (hr : r < 6) (hQ : lawOK Q) (hM : lawM h.1 r Q) (k : Nat) (hk : k < mk A) (W : Nat) (hWn : W < 4096) (q : Nat) (hq : q ≤ 12) : ∃ g, mm_M (d + 8) YX11_keepsAll [.ref 165, .int (nI r), .int (nI k), .int (nI W), .int (nI q)] h none g ∧ kp_fr h g ∧ (∀ t, sub t W → pc t ≤ q → kept (chd A Q k t) g t) ∧ kp_oth h g (fun t => sub t W) := by
  refine mm_EM.v (mm_EM.of [some (.ref 165), some (.int (nI r)), some (.int (nI k)), some (.int (nI W)), some (.int (nI q)), none] rfl rfl (Nat.le_of_ble_eq_true rfl) ?_)
  have K3 : ∀ m i, i + m = W + 1 → ∀ g, kp_fr h g → (∀ t, t < i → sub t W → pc t ≤ q → kept (chd A Q k t) g t) → kp_oth h g (fun t => sub t W) → mm_E (d + 8) YX11_keepsAll 3 [some (.ref 165), some (.int (nI r)), some (.int (nI k)), some (.int (nI W)), some (.int (nI q)), some (.int (nI i))] [] g (fun v g => v = none ∧ kp_fr h g ∧ (∀ t, sub t W → pc t ≤ q → kept (chd A Q k t) g t) ∧ kp_oth h g (fun t => sub t W)) := by
    intro m
    induction m with
    | zero =>
      intro i hi g a1 a2 a3
      have hi : i = W + 1 := by omega
      subst hi
      refine mm_Es (fun _ _ => mm_iload dX11_keepsAll_3 rfl) ?_
      refine mm_Es (fun _ _ => mm_iload_n dX11_keepsAll_5 rfl rfl) ?_
      refine mm_Eb (fun _ _ => mm_icmp_gt 42 dX11_keepsAll_6 (by decide)) (fun c_6 => ?_) (fun c_6 => ?_)
      · refine mm_Er (mm_return dX11_keepsAll_42 rfl) ?_
        exact ⟨rfl, a1, fun t ht hp => a2 t (by have := sub_le ht; omega) ht hp, a3⟩
      · exact absurd (nI_lt (show W < W + 1 by omega) (by omega)) c_6
    | succ m ih =>
      intro i hi g a1 a2 a3
      have hiW : i ≤ W := by omega
      have B6 : ¬ nI W < nI i := nI_nlt hiW (by omega)
      have hpi := pc_le (show i < 4096 by omega)
      by_cases hs : sub i W ∧ pc i ≤ q
      · have hVg := viewM_f hV a1.1 (fun c hc => pKp_f (by omega) (by omega))
        have hMg := lawM_f hM a1.1 (fun c h1 h2 => pKp_f (by omega) (by omega))
        obtain ⟨g2, M2, b1, b2, b3⟩ := mX11_keepsChord d g A hA hVg Q r hr hQ hMg k hk i (by omega)
        have K := ih (i + 1) (by omega) g2 (a1.trans b1) (fun t ht hst hpt => by
          by_cases z : t = i
          · subst z; exact b2
          · exact (a2 t (by omega) hst hpt).oth b3 (by omega) z (Nat.le_trans (chd_pc hA.1 Q k (by omega)) (pc_le (by omega)))) (fun b hb hn => by
          have z : ¬ b = i := fun z => hn (by rw [z]; exact hs.1)
          obtain ⟨o1, o2, o3⟩ := a3 b hb hn
          obtain ⟨p1, p2, p3⟩ := b3 b hb z
          exact ⟨p1.trans o1, fun j hj => (p2 j hj).trans (o2 j hj), p3.trans o3⟩)
        refine mm_Es (fun _ _ => mm_iload dX11_keepsAll_3 rfl) ?_
        refine mm_Es (fun _ _ => mm_iload_n dX11_keepsAll_5 rfl rfl) ?_
        refine mm_Eb (fun _ _ => mm_icmp_gt 42 dX11_keepsAll_6 (by decide)) (fun c_6 => ?_) (fun c_6 => ?_)
        · exact absurd c_6 B6
        · refine mm_Es (fun _ _ => mm_iload dX11_keepsAll_9 rfl) ?_
          refine mm_Es (fun _ _ => mm_iload_n dX11_keepsAll_11 rfl rfl) ?_
          refine mm_Es (fun _ _ => mm_iconst (x := (-1)) dX11_keepsAll_12 (by decide)) ?_
          refine mm_Es (fun _ _ => mm_ixor dX11_keepsAll_13) ?_
          refine mm_Es (fun _ _ => mm_iand dX11_keepsAll_14) ?_
          refine mm_Ebn (fun _ _ => mm_if_ne 36 dX11_keepsAll_15 (by decide)) (fun c_15 => ?_) (fun c_15 => ?_)
          · exact absurd ((sub_I (show i < 4096 by omega) hWn).mpr hs.1) c_15
          · refine mm_Es (fun _ _ => mm_iload dX11_keepsAll_18 rfl) ?_
            refine mm_Es (fun _ _ => mm_cS (Y1 := YX11_bits) dX11_keepsAll_20 lX11_363 sX11_bits (mX11_bits (d + 7) g i (by omega)) rfl rfl (by simp [Value.category])) ?_
            refine mm_Es (fun _ _ => mm_iload dX11_keepsAll_23 rfl) ?_
            refine mm_Eb (fun _ _ => mm_icmp_gt 36 dX11_keepsAll_25 (by decide)) (fun c_25 => ?_) (fun c_25 => ?_)
            · exact absurd c_25 (nI_nlt hs.2 (by omega))
            · refine mm_Es (fun _ _ => mm_aload_n dX11_keepsAll_28 rfl rfl) ?_
              refine mm_Es (fun _ _ => mm_iload_n dX11_keepsAll_29 rfl rfl) ?_
              refine mm_Es (fun _ _ => mm_iload_n dX11_keepsAll_30 rfl rfl) ?_
              refine mm_Es (fun _ _ => mm_iload dX11_keepsAll_31 rfl) ?_
              refine mm_Es (fun _ _ => mm_cV (Y1 := YX11_keepsChord) dX11_keepsAll_33 lX11_435 vX11_keepsChord (M2) sh_165 rfl rfl (by simp [Value.category])) ?_
              refine mm_Es (fun _ _ => mm_iinc dX11_keepsAll_36 rfl (nI_inc i) rfl) ?_
              refine mm_Es (fun _ _ => mm_goto 3 dX11_keepsAll_39 (by decide)) ?_
              exact K
      · have K := ih (i + 1) (by omega) g a1 (fun t ht hst hpt => by
          by_cases z : t = i
          · subst z; exact absurd ⟨hst, hpt⟩ hs
          · exact a2 t (by omega) hst hpt) a3
        refine mm_Es (fun _ _ => mm_iload dX11_keepsAll_3 rfl) ?_
        refine mm_Es (fun _ _ => mm_iload_n dX11_keepsAll_5 rfl rfl) ?_
        refine mm_Eb (fun _ _ => mm_icmp_gt 42 dX11_keepsAll_6 (by decide)) (fun c_6 => ?_) (fun c_6 => ?_)
        · exact absurd c_6 B6
        · refine mm_Es (fun _ _ => mm_iload dX11_keepsAll_9 rfl) ?_
          refine mm_Es (fun _ _ => mm_iload_n dX11_keepsAll_11 rfl rfl) ?_
          refine mm_Es (fun _ _ => mm_iconst (x := (-1)) dX11_keepsAll_12 (by decide)) ?_
          refine mm_Es (fun _ _ => mm_ixor dX11_keepsAll_13) ?_
          refine mm_Es (fun _ _ => mm_iand dX11_keepsAll_14) ?_
          refine mm_Ebn (fun _ _ => mm_if_ne 36 dX11_keepsAll_15 (by decide)) (fun c_15 => ?_) (fun c_15 => ?_)
          · refine mm_Es (fun _ _ => mm_iinc dX11_keepsAll_36 rfl (nI_inc i) rfl) ?_
            refine mm_Es (fun _ _ => mm_goto 3 dX11_keepsAll_39 (by decide)) ?_
            exact K
          · refine mm_Es (fun _ _ => mm_iload dX11_keepsAll_18 rfl) ?_
            refine mm_Es (fun _ _ => mm_cS (Y1 := YX11_bits) dX11_keepsAll_20 lX11_363 sX11_bits (mX11_bits (d + 7) g i (by omega)) rfl rfl (by simp [Value.category])) ?_
            refine mm_Es (fun _ _ => mm_iload dX11_keepsAll_23 rfl) ?_
            refine mm_Eb (fun _ _ => mm_icmp_gt 36 dX11_keepsAll_25 (by decide)) (fun c_25 => ?_) (fun c_25 => ?_)
            · refine mm_Es (fun _ _ => mm_iinc dX11_keepsAll_36 rfl (nI_inc i) rfl) ?_
              refine mm_Es (fun _ _ => mm_goto 3 dX11_keepsAll_39 (by decide)) ?_
              exact K
            · exact absurd ⟨(sub_I (show i < 4096 by omega) hWn).mp c_15, Nat.le_of_not_lt (fun z => c_25 (nI_lt z (by omega)))⟩ hs
  have K := K3 (W + 1) 0 (by omega) h (kp_fr.refl h) (fun t ht => by omega) (fun b _ _ => ⟨rfl, fun _ _ => rfl, rfl⟩)
  refine mm_Es (fun _ _ => mm_iconst (x := 0) dX11_keepsAll_0 (by decide)) ?_
  refine mm_Es (fun _ _ => mm_istore dX11_keepsAll_1 (by decide) rfl) ?_
  exact K
