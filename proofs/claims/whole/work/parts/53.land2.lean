/-! smallestLand, land of the class. -/
theorem pI_vp (P : Prop) : vp_nar .boolean (pI P) = pI P := by
  by_cases z : P
  · rw [pI_1 z] <;> rfl
  · rw [pI_0 z] <;> rfl
def sl_fr (h g : mm_H) : Prop := frm (rg 135 164) h g ∧ ∀ j, j ≠ 6 → j ≠ 11 → g.1 135 j = h.1 135 j
theorem sl_fr.trans {h g k : mm_H} (a : sl_fr h g) (b : sl_fr g k) : sl_fr h k := ⟨a.1.trans b.1, fun j h1 h2 => (b.2 j h1 h2).trans (a.2 j h1 h2)⟩
theorem sl_fr.refl (h : mm_H) : sl_fr h h := ⟨frm.refl _ _, fun _ _ _ => rfl⟩
theorem ln_fr.sl {h g : mm_H} (a : ln_fr h g) : sl_fr h g := ⟨a.1.mono (fun c hc => by
  simp only [rg, decide_eq_false_iff_not] at hc
  simp only [ln_p, Bool.or_eq_false_iff, beq_eq_false_iff_ne]
  exact ⟨⟨⟨rg_f (by omega), by omega⟩, by omega⟩, by omega⟩), fun j _ h2 => a.2 j h2⟩
theorem lrn_fr.sl {h g : mm_H} (a : lrn_fr h g) : sl_fr h g := ⟨a.1.mono (fun c hc => pC_f hc), fun j h1 _ => a.2 j h1⟩
theorem sl_fr.cfr {h g : mm_H} (a : sl_fr h g) : cfr h g := a.1.cfr (fun c hc => hc)
theorem sl_fr.at {A : MD} {LQ : Nat → LD} {r k : Nat} {h g : mm_H} (a : sl_fr h g) (hA : aimedAt A LQ r k h) (hg : aimed A (LQ r) r k g) : aimedAt A LQ r k g := ⟨hg, by rw [a.1.2]; exact hA.2.1, by rw [a.2 3 (by decide) (by decide)]; exact hA.2.2⟩
/-- the best so far and its size -/
def bsI (good : Nat → Prop) (L : Nat) (best : Int32) (fw : Nat) : Prop := (best = -2 ∧ fw = 13 ∧ ∀ t, t < L → ¬ good t) ∨ ∃ s, s < L ∧ best = nI s ∧ fw = pc s ∧ good s ∧ ∀ t, t < L → good t → pc s < pc t ∨ (pc s = pc t ∧ s ≤ t)
theorem bsI_n {good : Nat → Prop} {L : Nat} {best : Int32} {fw : Nat} (h : bsI good L best fw) (hn : ¬ (pc L < fw ∧ good L)) (hp : pc L ≤ 12) : bsI good (L + 1) best fw := by
  rcases h with ⟨a, b, c⟩ | ⟨s, a, b, c, d, e⟩
  · refine Or.inl ⟨a, b, fun t ht => ?_⟩
    by_cases z : t = L
    · rw [z]; exact fun w => hn ⟨by omega, w⟩
    · exact c t (by omega)
  · refine Or.inr ⟨s, by omega, b, c, d, fun t ht hg => ?_⟩
    by_cases z : t = L
    · rw [z] at hg ⊢
      have : ¬ pc L < fw := fun w => hn ⟨w, hg⟩
      omega
    · exact e t (by omega) hg
theorem bsI_y {good : Nat → Prop} {L : Nat} {best : Int32} {fw : Nat} (h : bsI good L best fw) (hp : pc L < fw) (hg : good L) : bsI good (L + 1) (nI L) (pc L) := by
  refine Or.inr ⟨L, by omega, rfl, rfl, hg, fun t ht hgt => ?_⟩
  by_cases z : t = L
  · rw [z]; exact Or.inr ⟨rfl, Nat.le_refl _⟩
  · rcases h with ⟨a, b, c⟩ | ⟨s, a, b, c, d, e⟩
    · exact absurd hgt (c t (by omega))
    · have := e t (by omega) hgt
      left; omega
theorem bsI_R {good : Nat → Prop} {N : Nat} {best : Int32} {fw : Nat} (h : bsI good N best fw) : ldR good N best := by
  rcases h with ⟨a, b, c⟩ | ⟨s, a, b, c, d, e⟩
  · exact Or.inl ⟨a, c⟩
  · exact Or.inr ⟨s, a, b, d, e⟩
set_option maxRecDepth 100000 in
set_option maxHeartbeats 4000000 in
theorem mX2_smallestLand (d : Nat) (h : mm_H) (A : MD) (hA : mdOK A) (Q : LD) (r : Nat) (hr : r < 6) (hQ : lawOK Q) (k : Nat) (hk : k < mk A) (hW : aimed A Q r k h) (G : Nat) (hG : gcn h G) (hGb : G + 4096 < 2 ^ 31) (p q : Nat) (hp2 : p ≤ 200) (hq2 : q ≤ 12) : ∃ x g, mm_M (d + 6) YX2_smallestLand [.ref 159, .int (nI p), .int (nI q)] h (some (.int x)) g ∧ ldR (goodL A Q k q p) (2 ^ mn A) x ∧ aimed A Q r k g ∧ (∃ G2, G2 ≤ G + 4096 ∧ gcn g G2) ∧ sl_fr h g := by
  suffices hE : mm_E (d + 6) YX2_smallestLand 0 [some (.ref 159), some (.int (nI p)), some (.int (nI q)), none, none, none] [] h (fun v g => ∃ x, v = some (.int x) ∧ ldR (goodL A Q k q p) (2 ^ mn A) x ∧ aimed A Q r k g ∧ (∃ G2, G2 ≤ G + 4096 ∧ gcn g G2) ∧ sl_fr h g) by
    obtain ⟨v, g, hR, x, rfl, h1⟩ := hE
    exact ⟨x, g, mm_M.of _ rfl rfl (Nat.le_of_ble_eq_true rfl) hR, h1⟩
  have h12 := hA.1
  have hp := p2_lt h12
  have hp0 : 0 < 2 ^ mn A := Nat.pos_of_ne_zero (p2_ne _)
  have K32 : ∀ m L, L + m = 2 ^ mn A → ∀ gg GG, aimed A Q r k gg → gcn gg GG → GG ≤ G + L → sl_fr h gg → (∀ t, t < 2 ^ mn A → pc t ≤ q → ¬ gg.1 136 t = 0) → ∀ u : Nat → Prop, (∀ T, T < L → gg.1 163 T = pI (u T)) → (∀ T, T < L → u T → unS (chd A Q k) (wtA A) q T) → ∀ best fw, fw ≤ 13 → bsI (goodL A Q k q p) L best fw → mm_E (d + 6) YX2_smallestLand 32 [some (.ref 159), some (.int (nI p)), some (.int (nI q)), some (.int best), some (.int (nI fw)), some (.int (nI L))] [] gg (fun v g => ∃ x, v = some (.int x) ∧ ldR (goodL A Q k q p) (2 ^ mn A) x ∧ aimed A Q r k g ∧ (∃ G2, G2 ≤ G + 4096 ∧ gcn g G2) ∧ sl_fr h g) := by
    intro m
    induction m with
    | zero =>
      intro L hL gg GG ha hg hGG fr hl u u1 u2 best fw hfw hB
      have hL : L = 2 ^ mn A := by omega
      subst hL
      have e65 : gg.1 65 0 = nI (mn A) := ha.1.1
      refine mm_Es (fun _ _ => mm_iload dX2_smallestLand_32 rfl) ?_
      refine mm_Es (fun _ _ => mm_iconst (x := 1) dX2_smallestLand_34 (by decide)) ?_
      refine mm_Es (fun _ _ => mm_aload_n dX2_smallestLand_35 rfl rfl) ?_
      refine mm_Es (fun _ _ => mm_getS dX2_smallestLand_36 fX2_28 sh_159 rfl gr_159_0) ?_
      refine mm_Es (fun _ _ => mm_getS dX2_smallestLand_39 fX2_104 sh_61 rfl gr_61_0) ?_
      refine mm_Es (fun _ _ => mm_getI dX2_smallestLand_42 fX2_108 sh_65 rfl) ?_
      refine mm_Es (fun _ _ => mm_ishl dX2_smallestLand_45) ?_
      refine mm_Es (fun _ _ => mm_cast (st' := [.int (nI (2 ^ mn A)), .int (nI (2 ^ mn A))]) rfl (by rw [e65, sh1 h12] <;> rfl) rfl) ?_
      refine mm_Eb (fun _ _ => mm_icmp_ge 109 dX2_smallestLand_46 (by decide)) (fun c_46 => ?_) (fun c_46 => ?_)
      · refine mm_Es (fun _ _ => mm_iload_n dX2_smallestLand_109 rfl rfl) ?_
        refine mm_Er (mm_ireturn dX2_smallestLand_110 rfl) ?_
        exact ⟨best, rfl, bsI_R hB, ha, ⟨GG, by omega, hg⟩, fr⟩
      · exact absurd (Int32.le_refl _) c_46
    | succ m ih =>
      intro L hL gg GG ha hg hGG fr hl u u1 u2 best fw hfw hB
      have hLn : L < 2 ^ mn A := by omega
      have hpl := pc_le (show L < 4096 by omega)
      have e65 : gg.1 65 0 = nI (mn A) := ha.1.1
      have MU := mX2_hasUnsoundPart (d + 5) gg (mn A) e65 h12 L hLn u u1
      obtain ⟨v, ev⟩ : ∃ v, v = (∃ c, c < mn A ∧ L.testBit c = true ∧ u (L ^^^ 2 ^ c)) := ⟨_, rfl⟩
      have hvu : v → unS (chd A Q k) (wtA A) q L := fun z => by
        rw [ev] at z
        obtain ⟨c, c1, c2, c3⟩ := z
        exact unS_mono (xor_sub (sub_p2 c2)) (u2 _ (xor_lt (sub_p2 c2) (p2_ne c)) c3)
      rw [← ev] at MU
      obtain ⟨g1, eg1⟩ : ∃ g1 : mm_H, g1 = (mm_up gg.1 163 L (pI v), gg.2.1, gg.2.2) := ⟨_, rfl⟩
      have f1 : frm (onep 163) gg g1 := by rw [eg1]; exact (frm.refl _ gg).up (c := 163) rfl
      have a1 := aimed_o hr ha f1 (fun c hc => by simp [onep]; omega)
      have hg1 : gcn g1 GG := gcn_c hg (by rw [f1.i rfl]) (f1.i rfl) (f1.i rfl)
      have fr1 : sl_fr h g1 := fr.trans ⟨f1.mono (fun c hc => by simp only [rg, decide_eq_false_iff_not] at hc; simp [onep]; omega), fun j _ _ => by rw [f1.i rfl]⟩
      have hl1 : ∀ t, t < 2 ^ mn A → pc t ≤ q → ¬ g1.1 136 t = 0 := fun t h1 h2 => by rw [f1.i rfl]; exact hl t h1 h2
      have x1 : ∀ T, T < L + 1 → g1.1 163 T = pI (if T = L then v else u T) := fun T hT => by
        rw [eg1]; dsimp only
        by_cases z : T = L
        · rw [z, mm_up_e, if_pos rfl]
        · rw [mm_up_k z, if_neg z]; exact u1 T (by omega)
      have x2 : ∀ T, T < L + 1 → (if T = L then v else u T) → unS (chd A Q k) (wtA A) q T := fun T hT => by
        by_cases z : T = L
        · rw [z, if_pos rfl]; exact hvu
        · rw [if_neg z]; exact u2 T (by omega)
      have eL : g1.1 163 L = pI v := by have := x1 L (by omega); rw [if_pos rfl] at this; exact this
      have K1 := ih (L + 1) (by omega) g1 GG a1 hg1 (by omega) fr1 hl1 _ x1 x2
      by_cases hv : v
      · have K := K1 best fw hfw (bsI_n hB (fun z => z.2.1 (hvu hv)) hpl)
        refine mm_Es (fun _ _ => mm_iload dX2_smallestLand_32 rfl) ?_
        refine mm_Es (fun _ _ => mm_iconst (x := 1) dX2_smallestLand_34 (by decide)) ?_
        refine mm_Es (fun _ _ => mm_aload_n dX2_smallestLand_35 rfl rfl) ?_
        refine mm_Es (fun _ _ => mm_getS dX2_smallestLand_36 fX2_28 sh_159 rfl gr_159_0) ?_
        refine mm_Es (fun _ _ => mm_getS dX2_smallestLand_39 fX2_104 sh_61 rfl gr_61_0) ?_
        refine mm_Es (fun _ _ => mm_getI dX2_smallestLand_42 fX2_108 sh_65 rfl) ?_
        refine mm_Es (fun _ _ => mm_ishl dX2_smallestLand_45) ?_
        refine mm_Es (fun _ _ => mm_cast (st' := [.int (nI (2 ^ mn A)), .int (nI L)]) rfl (by rw [e65, sh1 h12] <;> rfl) rfl) ?_
        refine mm_Eb (fun _ _ => mm_icmp_ge 109 dX2_smallestLand_46 (by decide)) (fun c_46 => ?_) (fun c_46 => ?_)
        · exact absurd c_46 (nI_ge hLn (by omega))
        · refine mm_Es (fun _ _ => mm_aload_n dX2_smallestLand_49 rfl rfl) ?_
          refine mm_Es (fun _ _ => mm_getS dX2_smallestLand_50 fX2_22 sh_159 rfl gr_159_5) ?_
          refine mm_Es (fun _ _ => mm_iload dX2_smallestLand_53 rfl) ?_
          refine mm_Es (fun _ _ => mm_aload_n dX2_smallestLand_55 rfl rfl) ?_
          refine mm_Es (fun _ _ => mm_iload dX2_smallestLand_56 rfl) ?_
          refine mm_Es (fun _ _ => mm_cV (Y1 := YX2_hasUnsoundPart) dX2_smallestLand_58 lX2_113 vX2_hasUnsoundPart (MU) sh_159 rfl rfl (by simp [Value.category])) ?_
          refine mm_Es (fun _ _ => mm_zast (L) dX2_smallestLand_61 sh_163 rfl (by omega) (pI_vp v)) ?_
          refine mm_Ec rfl rfl eg1.symm ?_
          refine mm_Es (fun _ _ => mm_aload_n dX2_smallestLand_62 rfl rfl) ?_
          refine mm_Es (fun _ _ => mm_getS dX2_smallestLand_63 fX2_22 sh_159 rfl gr_159_5) ?_
          refine mm_Es (fun _ _ => mm_iload dX2_smallestLand_66 rfl) ?_
          refine mm_Es (fun _ _ => mm_zald (L) dX2_smallestLand_68 sh_163 rfl (by omega)) ?_
          refine mm_Ebn (fun _ _ => mm_if_ne 103 dX2_smallestLand_69 (by decide)) (fun c_69 => ?_) (fun c_69 => ?_)
          · refine mm_Es (fun _ _ => mm_iinc dX2_smallestLand_103 rfl (nI_inc L) rfl) ?_
            refine mm_Es (fun _ _ => mm_goto 32 dX2_smallestLand_106 (by decide)) ?_
            exact K
          · exact absurd hv (pI_e0.mp (eL.symm.trans c_69))
      · by_cases hpf : pc L < fw
        · obtain ⟨g2, M2, c2, c3, c4, c5⟩ := mX2_isLand (d + 4) g1 A hA Q r hr k a1 GG hg1 (by omega) L hLn p q hp2 hq2 (fun t ht => hl1 t (by have := sub_le ht.1; omega) ht.2)
          have a2 := c3.aimed hr a1
          have fr2 := fr1.trans c3.sl
          have hl2 : ∀ t, t < 2 ^ mn A → pc t ≤ q → ¬ g2.1 136 t = 0 := fun t h1 h2 => by rw [c3.1.i rfl]; exact hl1 t h1 h2
          have mk2 : ∃ u2 : Nat → Prop, (∀ T, T < L + 1 → g2.1 163 T = pI (u2 T)) ∧ ∀ T, T < L + 1 → u2 T → unS (chd A Q k) (wtA A) q T := by
            by_cases hun : unS (chd A Q k) (wtA A) q L
            · refine ⟨fun T => if T = L then True else u T, fun T hT => ?_, fun T hT => ?_⟩
              · rw [c4 hun]; unfold upd
                dsimp only
                by_cases z : T = L
                · rw [if_pos z, if_pos z, pI_1 trivial]
                · rw [if_neg z, if_neg z]
                  have := x1 T hT
                  rw [if_neg z] at this
                  exact this
              · dsimp only
                by_cases z : T = L
                · rw [z]; exact fun _ => hun
                · rw [if_neg z]; exact u2 T (by omega)
            · exact ⟨_, fun T hT => by rw [c5 hun]; exact x1 T hT, x2⟩
          obtain ⟨w, w1, w2⟩ := mk2
          have K2 := ih (L + 1) (by omega) g2 (GG + 1) a2 c2 (by omega) fr2 hl2 w w1 w2
          by_cases hgd : goodL A Q k q p L
          · have K := K2 (nI L) (pc L) (by omega) (bsI_y hB hpf hgd)
            refine mm_Es (fun _ _ => mm_iload dX2_smallestLand_32 rfl) ?_
            refine mm_Es (fun _ _ => mm_iconst (x := 1) dX2_smallestLand_34 (by decide)) ?_
            refine mm_Es (fun _ _ => mm_aload_n dX2_smallestLand_35 rfl rfl) ?_
            refine mm_Es (fun _ _ => mm_getS dX2_smallestLand_36 fX2_28 sh_159 rfl gr_159_0) ?_
            refine mm_Es (fun _ _ => mm_getS dX2_smallestLand_39 fX2_104 sh_61 rfl gr_61_0) ?_
            refine mm_Es (fun _ _ => mm_getI dX2_smallestLand_42 fX2_108 sh_65 rfl) ?_
            refine mm_Es (fun _ _ => mm_ishl dX2_smallestLand_45) ?_
            refine mm_Es (fun _ _ => mm_cast (st' := [.int (nI (2 ^ mn A)), .int (nI L)]) rfl (by rw [e65, sh1 h12] <;> rfl) rfl) ?_
            refine mm_Eb (fun _ _ => mm_icmp_ge 109 dX2_smallestLand_46 (by decide)) (fun c_46 => ?_) (fun c_46 => ?_)
            · exact absurd c_46 (nI_ge hLn (by omega))
            · refine mm_Es (fun _ _ => mm_aload_n dX2_smallestLand_49 rfl rfl) ?_
              refine mm_Es (fun _ _ => mm_getS dX2_smallestLand_50 fX2_22 sh_159 rfl gr_159_5) ?_
              refine mm_Es (fun _ _ => mm_iload dX2_smallestLand_53 rfl) ?_
              refine mm_Es (fun _ _ => mm_aload_n dX2_smallestLand_55 rfl rfl) ?_
              refine mm_Es (fun _ _ => mm_iload dX2_smallestLand_56 rfl) ?_
              refine mm_Es (fun _ _ => mm_cV (Y1 := YX2_hasUnsoundPart) dX2_smallestLand_58 lX2_113 vX2_hasUnsoundPart (MU) sh_159 rfl rfl (by simp [Value.category])) ?_
              refine mm_Es (fun _ _ => mm_zast (L) dX2_smallestLand_61 sh_163 rfl (by omega) (pI_vp v)) ?_
              refine mm_Ec rfl rfl eg1.symm ?_
              refine mm_Es (fun _ _ => mm_aload_n dX2_smallestLand_62 rfl rfl) ?_
              refine mm_Es (fun _ _ => mm_getS dX2_smallestLand_63 fX2_22 sh_159 rfl gr_159_5) ?_
              refine mm_Es (fun _ _ => mm_iload dX2_smallestLand_66 rfl) ?_
              refine mm_Es (fun _ _ => mm_zald (L) dX2_smallestLand_68 sh_163 rfl (by omega)) ?_
              refine mm_Ebn (fun _ _ => mm_if_ne 103 dX2_smallestLand_69 (by decide)) (fun c_69 => ?_) (fun c_69 => ?_)
              · exact absurd (eL.trans (pI_0 hv)) c_69
              · refine mm_Es (fun _ _ => mm_iload dX2_smallestLand_72 rfl) ?_
                refine mm_Es (fun _ _ => mm_cS (Y1 := YJ6_bitCount_0f7a4) dX2_smallestLand_74 lX2_36 sJ6_bitCount_0f7a4 (mJ6_bitCount_0f7a4 (d + 5) g1 L (by omega)) rfl rfl (by simp [Value.category])) ?_
                refine mm_Es (fun _ _ => mm_iload dX2_smallestLand_77 rfl) ?_
                refine mm_Eb (fun _ _ => mm_icmp_ge 103 dX2_smallestLand_79 (by decide)) (fun c_79 => ?_) (fun c_79 => ?_)
                · exact absurd c_79 (nI_ge hpf (by omega))
                · refine mm_Es (fun _ _ => mm_aload_n dX2_smallestLand_82 rfl rfl) ?_
                  refine mm_Es (fun _ _ => mm_iload dX2_smallestLand_83 rfl) ?_
                  refine mm_Es (fun _ _ => mm_iload_n dX2_smallestLand_85 rfl rfl) ?_
                  refine mm_Es (fun _ _ => mm_iload_n dX2_smallestLand_86 rfl rfl) ?_
                  refine mm_Es (fun _ _ => mm_cV (Y1 := YX2_isLand) dX2_smallestLand_87 lX2_117 vX2_isLand (M2) sh_159 rfl rfl (by simp [Value.category])) ?_
                  refine mm_Eb (fun _ _ => mm_if_eq 103 dX2_smallestLand_90 (by decide)) (fun c_90 => ?_) (fun c_90 => ?_)
                  · exact absurd hgd (pI_e0.mp c_90)
                  · refine mm_Es (fun _ _ => mm_iload dX2_smallestLand_93 rfl) ?_
                    refine mm_Es (fun _ _ => mm_istore_n dX2_smallestLand_95 rfl (by decide) rfl) ?_
                    refine mm_Es (fun _ _ => mm_iload dX2_smallestLand_96 rfl) ?_
                    refine mm_Es (fun _ _ => mm_cS (Y1 := YJ6_bitCount_0f7a4) dX2_smallestLand_98 lX2_36 sJ6_bitCount_0f7a4 (mJ6_bitCount_0f7a4 (d + 5) g2 L (by omega)) rfl rfl (by simp [Value.category])) ?_
                    refine mm_Es (fun _ _ => mm_istore dX2_smallestLand_101 (by decide) rfl) ?_
                    refine mm_Es (fun _ _ => mm_iinc dX2_smallestLand_103 rfl (nI_inc L) rfl) ?_
                    refine mm_Es (fun _ _ => mm_goto 32 dX2_smallestLand_106 (by decide)) ?_
                    exact K
          · have K := K2 best fw hfw (bsI_n hB (fun z => hgd z.2) hpl)
            refine mm_Es (fun _ _ => mm_iload dX2_smallestLand_32 rfl) ?_
            refine mm_Es (fun _ _ => mm_iconst (x := 1) dX2_smallestLand_34 (by decide)) ?_
            refine mm_Es (fun _ _ => mm_aload_n dX2_smallestLand_35 rfl rfl) ?_
            refine mm_Es (fun _ _ => mm_getS dX2_smallestLand_36 fX2_28 sh_159 rfl gr_159_0) ?_
            refine mm_Es (fun _ _ => mm_getS dX2_smallestLand_39 fX2_104 sh_61 rfl gr_61_0) ?_
            refine mm_Es (fun _ _ => mm_getI dX2_smallestLand_42 fX2_108 sh_65 rfl) ?_
            refine mm_Es (fun _ _ => mm_ishl dX2_smallestLand_45) ?_
            refine mm_Es (fun _ _ => mm_cast (st' := [.int (nI (2 ^ mn A)), .int (nI L)]) rfl (by rw [e65, sh1 h12] <;> rfl) rfl) ?_
            refine mm_Eb (fun _ _ => mm_icmp_ge 109 dX2_smallestLand_46 (by decide)) (fun c_46 => ?_) (fun c_46 => ?_)
            · exact absurd c_46 (nI_ge hLn (by omega))
            · refine mm_Es (fun _ _ => mm_aload_n dX2_smallestLand_49 rfl rfl) ?_
              refine mm_Es (fun _ _ => mm_getS dX2_smallestLand_50 fX2_22 sh_159 rfl gr_159_5) ?_
              refine mm_Es (fun _ _ => mm_iload dX2_smallestLand_53 rfl) ?_
              refine mm_Es (fun _ _ => mm_aload_n dX2_smallestLand_55 rfl rfl) ?_
              refine mm_Es (fun _ _ => mm_iload dX2_smallestLand_56 rfl) ?_
              refine mm_Es (fun _ _ => mm_cV (Y1 := YX2_hasUnsoundPart) dX2_smallestLand_58 lX2_113 vX2_hasUnsoundPart (MU) sh_159 rfl rfl (by simp [Value.category])) ?_
              refine mm_Es (fun _ _ => mm_zast (L) dX2_smallestLand_61 sh_163 rfl (by omega) (pI_vp v)) ?_
              refine mm_Ec rfl rfl eg1.symm ?_
              refine mm_Es (fun _ _ => mm_aload_n dX2_smallestLand_62 rfl rfl) ?_
              refine mm_Es (fun _ _ => mm_getS dX2_smallestLand_63 fX2_22 sh_159 rfl gr_159_5) ?_
              refine mm_Es (fun _ _ => mm_iload dX2_smallestLand_66 rfl) ?_
              refine mm_Es (fun _ _ => mm_zald (L) dX2_smallestLand_68 sh_163 rfl (by omega)) ?_
              refine mm_Ebn (fun _ _ => mm_if_ne 103 dX2_smallestLand_69 (by decide)) (fun c_69 => ?_) (fun c_69 => ?_)
              · exact absurd (eL.trans (pI_0 hv)) c_69
              · refine mm_Es (fun _ _ => mm_iload dX2_smallestLand_72 rfl) ?_
                refine mm_Es (fun _ _ => mm_cS (Y1 := YJ6_bitCount_0f7a4) dX2_smallestLand_74 lX2_36 sJ6_bitCount_0f7a4 (mJ6_bitCount_0f7a4 (d + 5) g1 L (by omega)) rfl rfl (by simp [Value.category])) ?_
                refine mm_Es (fun _ _ => mm_iload dX2_smallestLand_77 rfl) ?_
                refine mm_Eb (fun _ _ => mm_icmp_ge 103 dX2_smallestLand_79 (by decide)) (fun c_79 => ?_) (fun c_79 => ?_)
                · exact absurd c_79 (nI_ge hpf (by omega))
                · refine mm_Es (fun _ _ => mm_aload_n dX2_smallestLand_82 rfl rfl) ?_
                  refine mm_Es (fun _ _ => mm_iload dX2_smallestLand_83 rfl) ?_
                  refine mm_Es (fun _ _ => mm_iload_n dX2_smallestLand_85 rfl rfl) ?_
                  refine mm_Es (fun _ _ => mm_iload_n dX2_smallestLand_86 rfl rfl) ?_
                  refine mm_Es (fun _ _ => mm_cV (Y1 := YX2_isLand) dX2_smallestLand_87 lX2_117 vX2_isLand (M2) sh_159 rfl rfl (by simp [Value.category])) ?_
                  refine mm_Eb (fun _ _ => mm_if_eq 103 dX2_smallestLand_90 (by decide)) (fun c_90 => ?_) (fun c_90 => ?_)
                  · refine mm_Es (fun _ _ => mm_iinc dX2_smallestLand_103 rfl (nI_inc L) rfl) ?_
                    refine mm_Es (fun _ _ => mm_goto 32 dX2_smallestLand_106 (by decide)) ?_
                    exact K
                  · exact absurd (pI_n0.mp c_90) hgd
        · have K := K1 best fw hfw (bsI_n hB (fun z => hpf z.1) hpl)
          refine mm_Es (fun _ _ => mm_iload dX2_smallestLand_32 rfl) ?_
          refine mm_Es (fun _ _ => mm_iconst (x := 1) dX2_smallestLand_34 (by decide)) ?_
          refine mm_Es (fun _ _ => mm_aload_n dX2_smallestLand_35 rfl rfl) ?_
          refine mm_Es (fun _ _ => mm_getS dX2_smallestLand_36 fX2_28 sh_159 rfl gr_159_0) ?_
          refine mm_Es (fun _ _ => mm_getS dX2_smallestLand_39 fX2_104 sh_61 rfl gr_61_0) ?_
          refine mm_Es (fun _ _ => mm_getI dX2_smallestLand_42 fX2_108 sh_65 rfl) ?_
          refine mm_Es (fun _ _ => mm_ishl dX2_smallestLand_45) ?_
          refine mm_Es (fun _ _ => mm_cast (st' := [.int (nI (2 ^ mn A)), .int (nI L)]) rfl (by rw [e65, sh1 h12] <;> rfl) rfl) ?_
          refine mm_Eb (fun _ _ => mm_icmp_ge 109 dX2_smallestLand_46 (by decide)) (fun c_46 => ?_) (fun c_46 => ?_)
          · exact absurd c_46 (nI_ge hLn (by omega))
          · refine mm_Es (fun _ _ => mm_aload_n dX2_smallestLand_49 rfl rfl) ?_
            refine mm_Es (fun _ _ => mm_getS dX2_smallestLand_50 fX2_22 sh_159 rfl gr_159_5) ?_
            refine mm_Es (fun _ _ => mm_iload dX2_smallestLand_53 rfl) ?_
            refine mm_Es (fun _ _ => mm_aload_n dX2_smallestLand_55 rfl rfl) ?_
            refine mm_Es (fun _ _ => mm_iload dX2_smallestLand_56 rfl) ?_
            refine mm_Es (fun _ _ => mm_cV (Y1 := YX2_hasUnsoundPart) dX2_smallestLand_58 lX2_113 vX2_hasUnsoundPart (MU) sh_159 rfl rfl (by simp [Value.category])) ?_
            refine mm_Es (fun _ _ => mm_zast (L) dX2_smallestLand_61 sh_163 rfl (by omega) (pI_vp v)) ?_
            refine mm_Ec rfl rfl eg1.symm ?_
            refine mm_Es (fun _ _ => mm_aload_n dX2_smallestLand_62 rfl rfl) ?_
            refine mm_Es (fun _ _ => mm_getS dX2_smallestLand_63 fX2_22 sh_159 rfl gr_159_5) ?_
            refine mm_Es (fun _ _ => mm_iload dX2_smallestLand_66 rfl) ?_
            refine mm_Es (fun _ _ => mm_zald (L) dX2_smallestLand_68 sh_163 rfl (by omega)) ?_
            refine mm_Ebn (fun _ _ => mm_if_ne 103 dX2_smallestLand_69 (by decide)) (fun c_69 => ?_) (fun c_69 => ?_)
            · exact absurd (eL.trans (pI_0 hv)) c_69
            · refine mm_Es (fun _ _ => mm_iload dX2_smallestLand_72 rfl) ?_
              refine mm_Es (fun _ _ => mm_cS (Y1 := YJ6_bitCount_0f7a4) dX2_smallestLand_74 lX2_36 sJ6_bitCount_0f7a4 (mJ6_bitCount_0f7a4 (d + 5) g1 L (by omega)) rfl rfl (by simp [Value.category])) ?_
              refine mm_Es (fun _ _ => mm_iload dX2_smallestLand_77 rfl) ?_
              refine mm_Eb (fun _ _ => mm_icmp_ge 103 dX2_smallestLand_79 (by decide)) (fun c_79 => ?_) (fun c_79 => ?_)
              · refine mm_Es (fun _ _ => mm_iinc dX2_smallestLand_103 rfl (nI_inc L) rfl) ?_
                refine mm_Es (fun _ _ => mm_goto 32 dX2_smallestLand_106 (by decide)) ?_
                exact K
              · exact absurd (nI_le (Nat.le_of_not_lt hpf) (by omega)) c_79
  have e65 : h.1 65 0 = nI (mn A) := hW.1.1
  obtain ⟨g0, M0, a0, f0, m0, l0⟩ := mX0_learnWithin d h A hA Q r hr hQ k hk hW (2 ^ mn A - 1) (by omega) q hq2
  have hall : ∀ t, t < 2 ^ mn A → sub t (2 ^ mn A - 1) := fun t ht => by
    rw [sub_iff]; intro i hi
    rw [Nat.testBit_two_pow_sub_one]
    refine decide_eq_true (Nat.lt_of_not_le (fun z => ?_))
    rw [Nat.testBit_lt_two_pow (Nat.lt_of_lt_of_le ht (Nat.pow_le_pow_right (by decide) z))] at hi
    cases hi
  have K := K32 (2 ^ mn A) 0 (by omega) g0 G a0 (f0.gcn hG) (by omega) f0.sl (fun t h1 h2 => l0 t (hall t h1) h2) (fun _ => False) (fun T hT => by omega) (fun T hT => by omega) (-2) 13 (by omega) (Or.inl ⟨rfl, rfl, fun t ht => by omega⟩)
  refine mm_Es (fun _ _ => mm_bipush (x := (-2)) dX2_smallestLand_0 (by decide)) ?_
  refine mm_Es (fun _ _ => mm_istore_n dX2_smallestLand_2 rfl (by decide) rfl) ?_
  refine mm_Es (fun _ _ => mm_bipush (x := 13) dX2_smallestLand_3 (by decide)) ?_
  refine mm_Es (fun _ _ => mm_istore dX2_smallestLand_5 (by decide) rfl) ?_
  refine mm_Es (fun _ _ => mm_aload_n dX2_smallestLand_7 rfl rfl) ?_
  refine mm_Es (fun _ _ => mm_getS dX2_smallestLand_8 fX2_32 sh_159 rfl gr_159_1) ?_
  refine mm_Es (fun _ _ => mm_iconst (x := 1) dX2_smallestLand_11 (by decide)) ?_
  refine mm_Es (fun _ _ => mm_aload_n dX2_smallestLand_12 rfl rfl) ?_
  refine mm_Es (fun _ _ => mm_getS dX2_smallestLand_13 fX2_28 sh_159 rfl gr_159_0) ?_
  refine mm_Es (fun _ _ => mm_getS dX2_smallestLand_16 fX2_104 sh_61 rfl gr_61_0) ?_
  refine mm_Es (fun _ _ => mm_getI dX2_smallestLand_19 fX2_108 sh_65 rfl) ?_
  refine mm_Es (fun _ _ => mm_ishl dX2_smallestLand_22) ?_
  refine mm_Es (fun _ _ => mm_iconst (x := 1) dX2_smallestLand_23 (by decide)) ?_
  refine mm_Es (fun _ _ => mm_isub dX2_smallestLand_24) ?_
  refine mm_Es (fun _ _ => mm_cast (st' := [.int (nI (2 ^ mn A - 1)), .ref 135]) rfl (by rw [e65, sh1 h12, p2m1 h12] <;> rfl) rfl) ?_
  refine mm_Es (fun _ _ => mm_iload_n dX2_smallestLand_25 rfl rfl) ?_
  refine mm_Es (fun _ _ => mm_cV (Y1 := YX0_learnWithin) dX2_smallestLand_26 lX2_42 vX0_learnWithin (M0) sh_135 rfl rfl (by simp [Value.category])) ?_
  refine mm_Es (fun _ _ => mm_iconst (x := 0) dX2_smallestLand_29 (by decide)) ?_
  refine mm_Es (fun _ _ => mm_istore dX2_smallestLand_30 (by decide) rfl) ?_
  exact K
abbrev lndP (A : MD) (nl : Nat) (r c p k : Int32) : Prop := ((0 ≤ r.toInt ∧ r.toInt < nl) ∧ (0 ≤ c.toInt ∧ c.toInt < mk A)) ∧ (0 ≤ p.toInt ∧ p.toInt ≤ 200) ∧ (1 ≤ k.toInt ∧ k.toInt ≤ 4)
set_option maxRecDepth 100000 in
set_option maxHeartbeats 4000000 in
theorem mX10_land_n (d : Nat) (h : mm_H) (A : MD) (LQ : Nat → LD) (nl G : Nat) (S : stC A LQ nl h G) (r c p k : Int32) (hb : ¬ lndP A nl r c p k) : mm_M (d + 2) YX10_land [.ref 0, .int r, .int c, .int p, .int k] h (some (.int (-1))) h := by
  refine mm_M.of [some (.ref 0), some (.int r), some (.int c), some (.int p), some (.int k)] rfl rfl (Nat.le_of_ble_eq_true rfl) ?_
  refine mm_aload_n dX10_land_0 rfl rfl ?_
  refine mm_iload_n dX10_land_1 rfl rfl ?_
  refine mm_cV (Y1 := YX10_isLaw) dX10_land_2 lX10_274 vX10_isLaw (mX10_isLaw (d + 1) h nl S.2.2.1 S.2.2.2.1 r) sh_0 rfl rfl (by simp [Value.category]) ?_
  refine mm_if_eq 27 dX10_land_5 (by decide) (fun c_5 => ?_) (fun c_5 => ?_)
  · refine mm_iconst (x := (-1)) dX10_land_27 (by decide) ?_
    exact mm_iretE dX10_land_28 rfl rfl rfl
  · refine mm_aload_n dX10_land_8 rfl rfl ?_
    refine mm_iload_n dX10_land_9 rfl rfl ?_
    refine mm_cV (Y1 := YX10_isCounter) dX10_land_10 lX10_153 vX10_isCounter (mX10_isCounter (d + 1) h (mk A) S.2.1.2.1 S.1.2.1 c) sh_0 rfl rfl (by simp [Value.category]) ?_
    refine mm_if_eq 27 dX10_land_13 (by decide) (fun c_13 => ?_) (fun c_13 => ?_)
    · refine mm_iconst (x := (-1)) dX10_land_27 (by decide) ?_
      exact mm_iretE dX10_land_28 rfl rfl rfl
    · refine mm_iload_n dX10_land_16 rfl rfl ?_
      refine mm_if_lt 27 dX10_land_17 (by decide) (fun c_17 => ?_) (fun c_17 => ?_)
      · refine mm_iconst (x := (-1)) dX10_land_27 (by decide) ?_
        exact mm_iretE dX10_land_28 rfl rfl rfl
      · refine mm_iload_n dX10_land_20 rfl rfl ?_
        refine mm_sipush (x := 200) dX10_land_21 (by decide) ?_
        refine mm_icmp_le 29 dX10_land_24 (by decide) (fun c_24 => ?_) (fun c_24 => ?_)
        · refine mm_iload dX10_land_29 rfl ?_
          refine mm_iconst (x := 1) dX10_land_31 (by decide) ?_
          refine mm_icmp_lt 41 dX10_land_32 (by decide) (fun c_32 => ?_) (fun c_32 => ?_)
          · refine mm_iconst (x := (-1)) dX10_land_41 (by decide) ?_
            exact mm_iretE dX10_land_42 rfl rfl rfl
          · refine mm_iload dX10_land_35 rfl ?_
            refine mm_iconst (x := 4) dX10_land_37 (by decide) ?_
            refine mm_icmp_le 43 dX10_land_38 (by decide) (fun c_38 => ?_) (fun c_38 => ?_)
            · exact absurd ⟨⟨bI_n0.mp c_5, bI_n0.mp c_13⟩, ⟨by rw [Int32.lt_iff_toInt_lt, ti_0] at c_17; omega, by rw [Int32.le_iff_toInt_le, ti_200] at c_24; exact c_24⟩, by rw [Int32.lt_iff_toInt_lt, ti_1] at c_32; omega, by rw [Int32.le_iff_toInt_le, ti_4] at c_38; exact c_38⟩ hb
            · refine mm_iconst (x := (-1)) dX10_land_41 (by decide) ?_
              exact mm_iretE dX10_land_42 rfl rfl rfl
        · refine mm_iconst (x := (-1)) dX10_land_27 (by decide) ?_
          exact mm_iretE dX10_land_28 rfl rfl rfl
set_option maxRecDepth 100000 in
set_option maxHeartbeats 4000000 in
theorem mX10_land_y (d : Nat) (h : mm_H) (A : MD) (LQ : Nat → LD) (nl G : Nat) (S : stC A LQ nl h G) (hGb : G + 4096 < 2 ^ 31) (r c : Nat) (hr : r < nl) (hc : c < mk A) (p q : Nat) (hp2 : p ≤ 200) (hq : 1 ≤ q ∧ q ≤ 4) : ∃ x g, mm_M (d + 7) YX10_land [.ref 0, .int (nI r), .int (nI c), .int (nI p), .int (nI q)] h (some (.int x)) g ∧ ldR (goodL A (LQ r) c q p) (2 ^ mn A) x ∧ cfr h g ∧ ∃ G2, G2 ≤ G + 4096 ∧ stC A LQ nl g G2 := by
  have S0 := S
  obtain ⟨g1, M1, a1, a2, a3⟩ := aimC (d + 5) h A LQ nl G S r c hr hc
  have N1 := mX10_isLaw (d + 6) h nl S.2.2.1 S.2.2.2.1 (nI r)
  have N2 := mX10_isCounter (d + 6) h (mk A) S.2.1.2.1 S.1.2.1 (nI c)
  obtain ⟨hA, hV, h6, hn6, hL, -, hcG⟩ := S
  have h12 := hA.1
  have h4 := hA.2.1
  obtain ⟨x, g2, M2, b1, b2, ⟨G2, b3, b4⟩, b5⟩ := mX2_smallestLand d g1 A hA (LQ r) r (by omega) (hL r hr).1 c hc a1.1 G a2 hGb p q hp2 (by omega)
  refine ⟨x, g2, ?_, b1, a3.trans b5.cfr, G2, b3, S0.next (a3.trans b5.cfr) hr hc (b5.at a1 b2) b4⟩
  refine mm_M.of [some (.ref 0), some (.int (nI r)), some (.int (nI c)), some (.int (nI p)), some (.int (nI q))] rfl rfl (Nat.le_of_ble_eq_true rfl) ?_
  refine mm_aload_n dX10_land_0 rfl rfl ?_
  refine mm_iload_n dX10_land_1 rfl rfl ?_
  refine mm_cV (Y1 := YX10_isLaw) dX10_land_2 lX10_274 vX10_isLaw (N1) sh_0 rfl rfl (by simp [Value.category]) ?_
  refine mm_if_eq 27 dX10_land_5 (by decide) (fun c_5 => ?_) (fun c_5 => ?_)
  · exact absurd ⟨by rw [nI_toInt (by omega)]; omega, by rw [nI_toInt (by omega)]; omega⟩ (bI_e0.mp c_5)
  · refine mm_aload_n dX10_land_8 rfl rfl ?_
    refine mm_iload_n dX10_land_9 rfl rfl ?_
    refine mm_cV (Y1 := YX10_isCounter) dX10_land_10 lX10_153 vX10_isCounter (N2) sh_0 rfl rfl (by simp [Value.category]) ?_
    refine mm_if_eq 27 dX10_land_13 (by decide) (fun c_13 => ?_) (fun c_13 => ?_)
    · exact absurd ⟨by rw [nI_toInt (by omega)]; omega, by rw [nI_toInt (by omega)]; omega⟩ (bI_e0.mp c_13)
    · refine mm_iload_n dX10_land_16 rfl rfl ?_
      refine mm_if_lt 27 dX10_land_17 (by decide) (fun c_17 => ?_) (fun c_17 => ?_)
      · exact absurd c_17 (by rw [Int32.lt_iff_toInt_lt, ti_0, nI_toInt (by omega)]; omega)
      · refine mm_iload_n dX10_land_20 rfl rfl ?_
        refine mm_sipush (x := 200) dX10_land_21 (by decide) ?_
        refine mm_icmp_le 29 dX10_land_24 (by decide) (fun c_24 => ?_) (fun c_24 => ?_)
        · refine mm_iload dX10_land_29 rfl ?_
          refine mm_iconst (x := 1) dX10_land_31 (by decide) ?_
          refine mm_icmp_lt 41 dX10_land_32 (by decide) (fun c_32 => ?_) (fun c_32 => ?_)
          · exact absurd c_32 (by rw [Int32.lt_iff_toInt_lt, ti_1, nI_toInt (by omega)]; omega)
          · refine mm_iload dX10_land_35 rfl ?_
            refine mm_iconst (x := 4) dX10_land_37 (by decide) ?_
            refine mm_icmp_le 43 dX10_land_38 (by decide) (fun c_38 => ?_) (fun c_38 => ?_)
            · refine mm_aload_n dX10_land_43 rfl rfl ?_
              refine mm_getS dX10_land_44 fX10_69 sh_0 rfl gr_0_10 ?_
              refine mm_aload_n dX10_land_47 rfl rfl ?_
              refine mm_getS dX10_land_48 fX10_38 sh_0 rfl gr_0_5 ?_
              refine mm_iload_n dX10_land_51 rfl rfl ?_
              refine mm_aald (r) dX10_land_52 (Or.inl rfl) sh_2 rfl (by omega) (gr_2 (by omega)) ?_
              refine mm_iload_n dX10_land_53 rfl rfl ?_
              refine mm_cV (Y1 := YX0_aim) dX10_land_54 lX10_183 vX0_aim (M1) sh_135 rfl rfl (by simp [Value.category]) ?_
              refine mm_aload_n dX10_land_57 rfl rfl ?_
              refine mm_getS dX10_land_58 fX10_87 sh_0 rfl gr_0_12 ?_
              refine mm_iload_n dX10_land_61 rfl rfl ?_
              refine mm_iload dX10_land_62 rfl ?_
              refine mm_cV (Y1 := YX2_smallestLand) dX10_land_64 lX10_286 vX2_smallestLand (M2) sh_159 rfl rfl (by simp [Value.category]) ?_
              exact mm_iretE dX10_land_67 rfl rfl rfl
            · exact absurd (nI_le (b := 4) hq.2 (by omega)) c_38
        · exact absurd (nI_le (b := 200) hp2 (by omega)) c_24
