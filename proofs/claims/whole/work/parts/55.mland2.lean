/-! hasPrices, land of the reference. -/
theorem sp_bit_0 (i : Nat) : sp_bit 0 i = 0 := by unfold sp_bit; simp
theorem sp_worth_0 (fw : Nat → Int32) : ∀ n, sp_worth fw 0 n = 0 := by
  intro n
  induction n with
  | zero => rfl
  | succ n ih =>
    simp only [sp_worth]
    rw [ih, sp_bit_0]
    simp
theorem wtA_0 (A : MD) : wtA A 0 = 0 := sp_worth_0 _ _
set_option maxRecDepth 100000 in
set_option maxHeartbeats 4000000 in
theorem mX11_hasPrices (d : Nat) (h : mm_H) (A : MD) (hA : mdOK A) (hV : viewM h A) (W : Nat) (hWn : W < 2 ^ mn A) (p q : Nat) (hp2 : p ≤ 200) (hq2 : q ≤ 12) : ∃ g, mm_M (d + 2) YX11_hasPrices [.ref 165, .int (nI W), .int (nI p), .int (nI q)] h (some (.int (pI (cvd (wtA A) q p W)))) g ∧ frm (onep 210) h g := by
  suffices hE : mm_E (d + 2) YX11_hasPrices 0 [some (.ref 165), some (.int (nI W)), some (.int (nI p)), some (.int (nI q)), none, none] [] h (fun v g => v = some (.int (pI (cvd (wtA A) q p W))) ∧ frm (onep 210) h g) by
    obtain ⟨v, g, hR, rfl, h1⟩ := hE
    exact ⟨g, mm_M.of _ rfl rfl (Nat.le_of_ble_eq_true rfl) hR, h1⟩
  have h12 := hA.1
  have hp := p2_lt h12
  have hW4 : W < 4096 := by omega
  have hpc := pc_le hW4
  have hpp : 2 ^ pc W ≤ 4096 := p2_lt hpc
  have hp0 : 0 < 2 ^ pc W := Nat.pos_of_ne_zero (p2_ne _)
  have K83 : ∀ gg, frm (onep 210) h gg → (∀ x, x ≤ 200 → gg.1 210 x = pI ((fun x => ∃ i2, 0 < i2 ∧ i2 < 2 ^ pc W ∧ pc (sbs W i2) ≤ q ∧ wtA A (sbs W i2) = nI x) x)) → ∀ m j, j + m = p → mm_E (d + 2) YX11_hasPrices 83 [some (.ref 165), some (.int (nI W)), some (.int (nI p)), some (.int (nI q)), some (.int (pI (∀ x, 1 ≤ x → x ≤ j → (fun x => ∃ i2, 0 < i2 ∧ i2 < 2 ^ pc W ∧ pc (sbs W i2) ≤ q ∧ wtA A (sbs W i2) = nI x) x))), some (.int (nI (j + 1)))] [] gg (fun v g => v = some (.int (pI (cvd (wtA A) q p W))) ∧ frm (onep 210) h g) := by
    intro gg fg S m
    induction m with
    | zero =>
      intro j hj
      have hj : j = p := by omega
      subst hj
      have fin : (∀ x, 1 ≤ x → x ≤ j → (fun x => ∃ i2, 0 < i2 ∧ i2 < 2 ^ pc W ∧ pc (sbs W i2) ≤ q ∧ wtA A (sbs W i2) = nI x) x) ↔ cvd (wtA A) q j W := by
        constructor
        · intro z x h1 h2
          obtain ⟨i2, _, _, b3, b4⟩ := z x h1 h2
          exact ⟨_, ⟨sbs_sub W i2, b3⟩, b4⟩
        · intro z x h1 h2
          obtain ⟨t, t1, t2⟩ := z x h1 h2
          obtain ⟨y, y1, y2⟩ := sbs_onto hW4 t1.1
          refine ⟨y, Nat.pos_of_ne_zero (fun w => ?_), y1, by rw [y2]; exact t1.2, by rw [y2]; exact t2⟩
          rw [w, sbs_0] at y2
          rw [← y2, wtA_0] at t2
          have := (nI_eq (a := 0) (b := x) (by omega) (by omega)).mp t2
          omega
      refine mm_Es (fun _ _ => mm_iload dX11_hasPrices_83 rfl) ?_
      refine mm_Es (fun _ _ => mm_iload_n dX11_hasPrices_85 rfl rfl) ?_
      refine mm_Eb (fun _ _ => mm_icmp_gt 117 dX11_hasPrices_86 (by decide)) (fun c_86 => ?_) (fun c_86 => ?_)
      · refine mm_Es (fun _ _ => mm_iload dX11_hasPrices_117 rfl) ?_
        refine mm_Er (mm_zreturn dX11_hasPrices_119 rfl (pI_nar _)) ?_
        exact ⟨by rw [pI_iff fin], fg⟩
      · exact absurd (nI_lt (show j < j + 1 by omega) (by omega)) c_86
    | succ m ih =>
      intro j hj
      have K := ih (j + 1) (by omega)
      have hs : (∀ x, 1 ≤ x → x ≤ j + 1 → (fun x => ∃ i2, 0 < i2 ∧ i2 < 2 ^ pc W ∧ pc (sbs W i2) ≤ q ∧ wtA A (sbs W i2) = nI x) x) ↔ (∀ x, 1 ≤ x → x ≤ j → (fun x => ∃ i2, 0 < i2 ∧ i2 < 2 ^ pc W ∧ pc (sbs W i2) ≤ q ∧ wtA A (sbs W i2) = nI x) x) ∧ (fun x => ∃ i2, 0 < i2 ∧ i2 < 2 ^ pc W ∧ pc (sbs W i2) ≤ q ∧ wtA A (sbs W i2) = nI x) (j + 1) := by
        constructor
        · intro z; exact ⟨fun x h1 h2 => z x h1 (by omega), z (j + 1) (by omega) (Nat.le_refl _)⟩
        · rintro ⟨z1, z2⟩ x h1 h2
          by_cases e : x = j + 1
          · rw [e]; exact z2
          · exact z1 x h1 (by omega)
      have e1 := S (j + 1) (by omega)
      by_cases hn : ∀ x, 1 ≤ x → x ≤ j + 1 → (fun x => ∃ i2, 0 < i2 ∧ i2 < 2 ^ pc W ∧ pc (sbs W i2) ≤ q ∧ wtA A (sbs W i2) = nI x) x
      · rw [pI_1 hn] at K
        refine mm_Es (fun _ _ => mm_iload dX11_hasPrices_83 rfl) ?_
        refine mm_Es (fun _ _ => mm_iload_n dX11_hasPrices_85 rfl rfl) ?_
        refine mm_Eb (fun _ _ => mm_icmp_gt 117 dX11_hasPrices_86 (by decide)) (fun c_86 => ?_) (fun c_86 => ?_)
        · exact absurd c_86 (nI_nlt (by omega) (by omega))
        · refine mm_Es (fun _ _ => mm_iload dX11_hasPrices_89 rfl) ?_
          refine mm_Eb (fun _ _ => mm_if_eq 108 dX11_hasPrices_91 (by decide)) (fun c_91 => ?_) (fun c_91 => ?_)
          · exact absurd (hs.mp hn).1 (pI_e0.mp c_91)
          · refine mm_Es (fun _ _ => mm_aload_n dX11_hasPrices_94 rfl rfl) ?_
            refine mm_Es (fun _ _ => mm_getS dX11_hasPrices_95 fX11_150 sh_165 rfl gr_165_60) ?_
            refine mm_Es (fun _ _ => mm_iload dX11_hasPrices_98 rfl) ?_
            refine mm_Es (fun _ _ => mm_zald ((j + 1)) dX11_hasPrices_100 sh_210 rfl (by omega)) ?_
            refine mm_Eb (fun _ _ => mm_if_eq 108 dX11_hasPrices_101 (by decide)) (fun c_101 => ?_) (fun c_101 => ?_)
            · exact absurd (hs.mp hn).2 (pI_e0.mp (e1.symm.trans c_101))
            · refine mm_Es (fun _ _ => mm_iconst (x := 1) dX11_hasPrices_104 (by decide)) ?_
              refine mm_Es (fun _ _ => mm_goto 109 dX11_hasPrices_105 (by decide)) ?_
              refine mm_Es (fun _ _ => mm_istore dX11_hasPrices_109 (by decide) rfl) ?_
              refine mm_Es (fun _ _ => mm_iinc dX11_hasPrices_111 rfl (nI_inc (j + 1)) rfl) ?_
              refine mm_Es (fun _ _ => mm_goto 83 dX11_hasPrices_114 (by decide)) ?_
              exact K
      · rw [pI_0 hn] at K
        refine mm_Es (fun _ _ => mm_iload dX11_hasPrices_83 rfl) ?_
        refine mm_Es (fun _ _ => mm_iload_n dX11_hasPrices_85 rfl rfl) ?_
        refine mm_Eb (fun _ _ => mm_icmp_gt 117 dX11_hasPrices_86 (by decide)) (fun c_86 => ?_) (fun c_86 => ?_)
        · exact absurd c_86 (nI_nlt (by omega) (by omega))
        · refine mm_Es (fun _ _ => mm_iload dX11_hasPrices_89 rfl) ?_
          refine mm_Eb (fun _ _ => mm_if_eq 108 dX11_hasPrices_91 (by decide)) (fun c_91 => ?_) (fun c_91 => ?_)
          · refine mm_Es (fun _ _ => mm_iconst (x := 0) dX11_hasPrices_108 (by decide)) ?_
            refine mm_Es (fun _ _ => mm_istore dX11_hasPrices_109 (by decide) rfl) ?_
            refine mm_Es (fun _ _ => mm_iinc dX11_hasPrices_111 rfl (nI_inc (j + 1)) rfl) ?_
            refine mm_Es (fun _ _ => mm_goto 83 dX11_hasPrices_114 (by decide)) ?_
            exact K
          · refine mm_Es (fun _ _ => mm_aload_n dX11_hasPrices_94 rfl rfl) ?_
            refine mm_Es (fun _ _ => mm_getS dX11_hasPrices_95 fX11_150 sh_165 rfl gr_165_60) ?_
            refine mm_Es (fun _ _ => mm_iload dX11_hasPrices_98 rfl) ?_
            refine mm_Es (fun _ _ => mm_zald ((j + 1)) dX11_hasPrices_100 sh_210 rfl (by omega)) ?_
            refine mm_Eb (fun _ _ => mm_if_eq 108 dX11_hasPrices_101 (by decide)) (fun c_101 => ?_) (fun c_101 => ?_)
            · refine mm_Es (fun _ _ => mm_iconst (x := 0) dX11_hasPrices_108 (by decide)) ?_
              refine mm_Es (fun _ _ => mm_istore dX11_hasPrices_109 (by decide) rfl) ?_
              refine mm_Es (fun _ _ => mm_iinc dX11_hasPrices_111 rfl (nI_inc (j + 1)) rfl) ?_
              refine mm_Es (fun _ _ => mm_goto 83 dX11_hasPrices_114 (by decide)) ?_
              exact K
            · exact absurd (hs.mpr ⟨pI_n0.mp c_91, pI_n0.mp (fun z => c_101 (e1.trans z))⟩) hn
  have K28 : ∀ i, i < 2 ^ pc W → ∀ gg, frm (onep 210) h gg → (∀ x, x ≤ 200 → gg.1 210 x = pI ((fun x => ∃ i2, i < i2 ∧ i2 < 2 ^ pc W ∧ pc (sbs W i2) ≤ q ∧ wtA A (sbs W i2) = nI x) x)) → mm_E (d + 2) YX11_hasPrices 28 [some (.ref 165), some (.int (nI W)), some (.int (nI p)), some (.int (nI q)), some (.int (nI (sbs W i))), none] [] gg (fun v g => v = some (.int (pI (cvd (wtA A) q p W))) ∧ frm (onep 210) h g) := by
    intro i
    induction i with
    | zero =>
      intro hi gg fg S
      have K := K83 gg fg S p 0 (by omega)
      rw [pI_1 (fun x h1 h2 => by omega)] at K
      rw [sbs_0]
      refine mm_Es (fun _ _ => mm_iload dX11_hasPrices_28 rfl) ?_
      refine mm_Eb (fun _ _ => mm_if_le 77 dX11_hasPrices_30 (by decide)) (fun c_30 => ?_) (fun c_30 => ?_)
      · refine mm_Es (fun _ _ => mm_iconst (x := 1) dX11_hasPrices_77 (by decide)) ?_
        refine mm_Es (fun _ _ => mm_istore dX11_hasPrices_78 (by decide) rfl) ?_
        refine mm_Es (fun _ _ => mm_iconst (x := 1) dX11_hasPrices_80 (by decide)) ?_
        refine mm_Es (fun _ _ => mm_istore dX11_hasPrices_81 (by decide) rfl) ?_
        exact K
      · exact absurd (by decide) c_30
    | succ i ih =>
      intro hi gg fg S
      obtain ⟨t, et⟩ : ∃ t, t = sbs W (i + 1) := ⟨_, rfl⟩
      have ht : sub t W := by rw [et]; exact sbs_sub W _
      have htl := sub_le ht
      have hpt := pc_le (show t < 4096 by omega)
      have ht0 : 0 < t := by
        have := sbs_lt hW4 (show 0 < i + 1 by omega) hi
        rw [sbs_0, ← et] at this
        exact this
      have hnx : (nI t - 1) &&& nI W = nI (sbs W i) := by rw [et]; exact prv_sbs hW4 hi
      have hVg := viewM_f hV fg (fun c hc => by simp [onep]; omega)
      have wth : mm_M (d + 1) YX11_worthOf [.ref 165, .int (nI t)] gg (some (.int (wtA A t))) gg := by
        have M3 := mX11_worthOf d gg (mn A) hVg.1 h12 (nI t)
        rw [sp_wth_c (mn A) (fun c hc => (hVg.2.2.2.2.1 c hc).2.2.1)] at M3
        exact M3
      have wb := wtA_bd hA t
      have hst : ∀ x, (fun x => ∃ i2, i < i2 ∧ i2 < 2 ^ pc W ∧ pc (sbs W i2) ≤ q ∧ wtA A (sbs W i2) = nI x) x ↔ (fun x => ∃ i2, (i + 1) < i2 ∧ i2 < 2 ^ pc W ∧ pc (sbs W i2) ≤ q ∧ wtA A (sbs W i2) = nI x) x ∨ (pc t ≤ q ∧ wtA A t = nI x) := fun x => by
        constructor
        · rintro ⟨i2, b1, b2, b3, b4⟩
          by_cases z : i2 = i + 1
          · rw [z, ← et] at b3 b4; exact Or.inr ⟨b3, b4⟩
          · exact Or.inl ⟨i2, by omega, b2, b3, b4⟩
        · rintro (⟨i2, b1, b2, b3, b4⟩ | ⟨b3, b4⟩)
          · exact ⟨i2, by omega, b2, b3, b4⟩
          · exact ⟨i + 1, by omega, hi, by rw [← et]; exact b3, by rw [← et]; exact b4⟩
      by_cases hb : pc t ≤ q ∧ (wtA A t).toInt ≤ 200
      · obtain ⟨y, hy1, hy⟩ := nI_ex (x := wtA A t) (n := 201) ⟨wb.1, by omega⟩
        have K := ih (by omega) (mm_up gg.1 210 y 1, gg.2.1, gg.2.2) (fg.up (c := 210) rfl) (fun x hx => by
          dsimp only
          rw [pI_iff (hst x)]
          by_cases z : x = y
          · rw [z, mm_up_e, pI_1 (Or.inr ⟨hb.1, hy⟩)]
          · rw [mm_up_k z, S x hx]
            refine pI_iff ⟨Or.inl, fun w => w.resolve_right (fun v => z ?_)⟩
            have v2 := v.2
            rw [hy] at v2
            exact ((nI_eq (by omega) (by omega)).mp v2).symm)
        rw [← et]
        refine mm_Es (fun _ _ => mm_iload dX11_hasPrices_28 rfl) ?_
        refine mm_Eb (fun _ _ => mm_if_le 77 dX11_hasPrices_30 (by decide)) (fun c_30 => ?_) (fun c_30 => ?_)
        · exact absurd c_30 (by rw [Int32.le_iff_toInt_le, ti_0, nI_toInt (by omega)]; omega)
        · refine mm_Es (fun _ _ => mm_iload dX11_hasPrices_33 rfl) ?_
          refine mm_Es (fun _ _ => mm_cS (Y1 := YX11_bits) dX11_hasPrices_35 lX11_363 sX11_bits (mX11_bits (d + 1) gg t (by omega)) rfl rfl (by simp [Value.category])) ?_
          refine mm_Es (fun _ _ => mm_iload_n dX11_hasPrices_38 rfl rfl) ?_
          refine mm_Eb (fun _ _ => mm_icmp_gt 66 dX11_hasPrices_39 (by decide)) (fun c_39 => ?_) (fun c_39 => ?_)
          · exact absurd c_39 (nI_nlt hb.1 (by omega))
          · refine mm_Es (fun _ _ => mm_aload_n dX11_hasPrices_42 rfl rfl) ?_
            refine mm_Es (fun _ _ => mm_iload dX11_hasPrices_43 rfl) ?_
            refine mm_Es (fun _ _ => mm_cV (Y1 := YX11_worthOf) dX11_hasPrices_45 lX11_446 vX11_worthOf (wth) sh_165 rfl rfl (by simp [Value.category])) ?_
            refine mm_Es (fun _ _ => mm_sipush (x := 200) dX11_hasPrices_48 (by decide)) ?_
            refine mm_Eb (fun _ _ => mm_icmp_gt 66 dX11_hasPrices_51 (by decide)) (fun c_51 => ?_) (fun c_51 => ?_)
            · exfalso; rw [Int32.lt_iff_toInt_lt, ti_200] at c_51; omega
            · refine mm_Es (fun _ _ => mm_aload_n dX11_hasPrices_54 rfl rfl) ?_
              refine mm_Es (fun _ _ => mm_getS dX11_hasPrices_55 fX11_150 sh_165 rfl gr_165_60) ?_
              refine mm_Es (fun _ _ => mm_aload_n dX11_hasPrices_58 rfl rfl) ?_
              refine mm_Es (fun _ _ => mm_iload dX11_hasPrices_59 rfl) ?_
              refine mm_Es (fun _ _ => mm_cV (Y1 := YX11_worthOf) dX11_hasPrices_61 lX11_446 vX11_worthOf (wth) sh_165 rfl rfl (by simp [Value.category])) ?_
              refine mm_Es (fun _ _ => mm_iconst (x := 1) dX11_hasPrices_64 (by decide)) ?_
              refine mm_Es (fun _ _ => mm_zast (y) dX11_hasPrices_65 sh_210 hy (by omega) rfl) ?_
              refine mm_Es (fun _ _ => mm_iload dX11_hasPrices_66 rfl) ?_
              refine mm_Es (fun _ _ => mm_iconst (x := 1) dX11_hasPrices_68 (by decide)) ?_
              refine mm_Es (fun _ _ => mm_isub dX11_hasPrices_69) ?_
              refine mm_Es (fun _ _ => mm_iload_n dX11_hasPrices_70 rfl rfl) ?_
              refine mm_Es (fun _ _ => mm_iand dX11_hasPrices_71) ?_
              refine mm_Es (fun _ _ => mm_cast (st' := [.int (nI (sbs W i))]) rfl (by rw [hnx] <;> rfl) rfl) ?_
              refine mm_Es (fun _ _ => mm_istore dX11_hasPrices_72 (by decide) rfl) ?_
              refine mm_Es (fun _ _ => mm_goto 28 dX11_hasPrices_74 (by decide)) ?_
              exact K
      · have K := ih (by omega) gg fg (fun x hx => by
          rw [S x hx]
          refine pI_iff ⟨fun w => (hst x).mpr (Or.inl w), fun w => ((hst x).mp w).resolve_right (fun v => hb ⟨v.1, ?_⟩)⟩
          rw [v.2, nI_toInt (by omega)]; omega)
        rw [← et]
        refine mm_Es (fun _ _ => mm_iload dX11_hasPrices_28 rfl) ?_
        refine mm_Eb (fun _ _ => mm_if_le 77 dX11_hasPrices_30 (by decide)) (fun c_30 => ?_) (fun c_30 => ?_)
        · exact absurd c_30 (by rw [Int32.le_iff_toInt_le, ti_0, nI_toInt (by omega)]; omega)
        · refine mm_Es (fun _ _ => mm_iload dX11_hasPrices_33 rfl) ?_
          refine mm_Es (fun _ _ => mm_cS (Y1 := YX11_bits) dX11_hasPrices_35 lX11_363 sX11_bits (mX11_bits (d + 1) gg t (by omega)) rfl rfl (by simp [Value.category])) ?_
          refine mm_Es (fun _ _ => mm_iload_n dX11_hasPrices_38 rfl rfl) ?_
          refine mm_Eb (fun _ _ => mm_icmp_gt 66 dX11_hasPrices_39 (by decide)) (fun c_39 => ?_) (fun c_39 => ?_)
          · refine mm_Es (fun _ _ => mm_iload dX11_hasPrices_66 rfl) ?_
            refine mm_Es (fun _ _ => mm_iconst (x := 1) dX11_hasPrices_68 (by decide)) ?_
            refine mm_Es (fun _ _ => mm_isub dX11_hasPrices_69) ?_
            refine mm_Es (fun _ _ => mm_iload_n dX11_hasPrices_70 rfl rfl) ?_
            refine mm_Es (fun _ _ => mm_iand dX11_hasPrices_71) ?_
            refine mm_Es (fun _ _ => mm_cast (st' := [.int (nI (sbs W i))]) rfl (by rw [hnx] <;> rfl) rfl) ?_
            refine mm_Es (fun _ _ => mm_istore dX11_hasPrices_72 (by decide) rfl) ?_
            refine mm_Es (fun _ _ => mm_goto 28 dX11_hasPrices_74 (by decide)) ?_
            exact K
          · refine mm_Es (fun _ _ => mm_aload_n dX11_hasPrices_42 rfl rfl) ?_
            refine mm_Es (fun _ _ => mm_iload dX11_hasPrices_43 rfl) ?_
            refine mm_Es (fun _ _ => mm_cV (Y1 := YX11_worthOf) dX11_hasPrices_45 lX11_446 vX11_worthOf (wth) sh_165 rfl rfl (by simp [Value.category])) ?_
            refine mm_Es (fun _ _ => mm_sipush (x := 200) dX11_hasPrices_48 (by decide)) ?_
            refine mm_Eb (fun _ _ => mm_icmp_gt 66 dX11_hasPrices_51 (by decide)) (fun c_51 => ?_) (fun c_51 => ?_)
            · refine mm_Es (fun _ _ => mm_iload dX11_hasPrices_66 rfl) ?_
              refine mm_Es (fun _ _ => mm_iconst (x := 1) dX11_hasPrices_68 (by decide)) ?_
              refine mm_Es (fun _ _ => mm_isub dX11_hasPrices_69) ?_
              refine mm_Es (fun _ _ => mm_iload_n dX11_hasPrices_70 rfl rfl) ?_
              refine mm_Es (fun _ _ => mm_iand dX11_hasPrices_71) ?_
              refine mm_Es (fun _ _ => mm_cast (st' := [.int (nI (sbs W i))]) rfl (by rw [hnx] <;> rfl) rfl) ?_
              refine mm_Es (fun _ _ => mm_istore dX11_hasPrices_72 (by decide) rfl) ?_
              refine mm_Es (fun _ _ => mm_goto 28 dX11_hasPrices_74 (by decide)) ?_
              exact K
            · exact absurd ⟨Nat.le_of_not_lt (fun z => c_39 (nI_lt z (by omega))), by rw [Int32.lt_iff_toInt_lt, ti_200] at c_51; omega⟩ hb
  have K3 : ∀ m i, i + m = 201 → ∀ gg, frm (onep 210) h gg → (∀ x, x < i → gg.1 210 x = 0) → mm_E (d + 2) YX11_hasPrices 3 [some (.ref 165), some (.int (nI W)), some (.int (nI p)), some (.int (nI q)), some (.int (nI i)), none] [] gg (fun v g => v = some (.int (pI (cvd (wtA A) q p W))) ∧ frm (onep 210) h g) := by
    intro m
    induction m with
    | zero =>
      intro i hi gg fg S
      have hi : i = 201 := by omega
      subst hi
      have K := K28 (2 ^ pc W - 1) (by omega) gg fg (fun x hx => by rw [pI_0 (fun ⟨i2, b1, b2, _⟩ => by omega)]; exact S x (by omega))
      rw [sbs_top hW4] at K
      refine mm_Es (fun _ _ => mm_iload dX11_hasPrices_3 rfl) ?_
      refine mm_Es (fun _ _ => mm_sipush (x := 200) dX11_hasPrices_5 (by decide)) ?_
      refine mm_Eb (fun _ _ => mm_icmp_gt 25 dX11_hasPrices_8 (by decide)) (fun c_8 => ?_) (fun c_8 => ?_)
      · refine mm_Es (fun _ _ => mm_iload_n dX11_hasPrices_25 rfl rfl) ?_
        refine mm_Es (fun _ _ => mm_istore dX11_hasPrices_26 (by decide) rfl) ?_
        exact K
      · exact absurd (by decide) c_8
    | succ m ih =>
      intro i hi gg fg S
      have K := ih (i + 1) (by omega) (mm_up gg.1 210 i 0, gg.2.1, gg.2.2) (fg.up (c := 210) rfl) (fun x hx => by
        dsimp only
        by_cases z : x = i
        · subst z; rw [mm_up_e]
        · rw [mm_up_k z]; exact S x (by omega))
      refine mm_Es (fun _ _ => mm_iload dX11_hasPrices_3 rfl) ?_
      refine mm_Es (fun _ _ => mm_sipush (x := 200) dX11_hasPrices_5 (by decide)) ?_
      refine mm_Eb (fun _ _ => mm_icmp_gt 25 dX11_hasPrices_8 (by decide)) (fun c_8 => ?_) (fun c_8 => ?_)
      · exact absurd c_8 (nI_nlt (a := 200) (by omega) (by omega))
      · refine mm_Es (fun _ _ => mm_aload_n dX11_hasPrices_11 rfl rfl) ?_
        refine mm_Es (fun _ _ => mm_getS dX11_hasPrices_12 fX11_150 sh_165 rfl gr_165_60) ?_
        refine mm_Es (fun _ _ => mm_iload dX11_hasPrices_15 rfl) ?_
        refine mm_Es (fun _ _ => mm_iconst (x := 0) dX11_hasPrices_17 (by decide)) ?_
        refine mm_Es (fun _ _ => mm_zast (i) dX11_hasPrices_18 sh_210 rfl (by omega) rfl) ?_
        refine mm_Es (fun _ _ => mm_iinc dX11_hasPrices_19 rfl (nI_inc i) rfl) ?_
        refine mm_Es (fun _ _ => mm_goto 3 dX11_hasPrices_22 (by decide)) ?_
        exact K
  have K := K3 201 0 rfl h (frm.refl _ _) (fun x hx => by omega)
  refine mm_Es (fun _ _ => mm_iconst (x := 0) dX11_hasPrices_0 (by decide)) ?_
  refine mm_Es (fun _ _ => mm_istore dX11_hasPrices_1 (by decide) rfl) ?_
  exact K
set_option maxRecDepth 100000 in
set_option maxHeartbeats 4000000 in
theorem mX11_land_n (d : Nat) (h : mm_H) (A : MD) (LQ : Nat → LD) (nl : Nat) (S : stM A LQ nl h) (r c p k : Int32) (hb : ¬ lndP A nl r c p k) : mm_M (d + 2) YX11_land [.ref 165, .int r, .int c, .int p, .int k] h (some (.int (-1))) h := by
  refine mm_M.of [some (.ref 165), some (.int r), some (.int c), some (.int p), some (.int k), none, none, none] rfl rfl (Nat.le_of_ble_eq_true rfl) ?_
  refine mm_aload_n dX11_land_0 rfl rfl ?_
  refine mm_iload_n dX11_land_1 rfl rfl ?_
  refine mm_cV (Y1 := YX11_isLaw) dX11_land_2 lX11_405 vX11_isLaw (mX11_isLaw d h nl S.2.2.1 (by have := S.2.2.2.1; omega) r) sh_165 rfl rfl (by simp [Value.category]) ?_
  refine mm_if_eq 41 dX11_land_5 (by decide) (fun c_5 => ?_) (fun c_5 => ?_)
  · refine mm_iconst (x := (-1)) dX11_land_41 (by decide) ?_
    exact mm_iretE dX11_land_42 rfl rfl rfl
  · refine mm_aload_n dX11_land_8 rfl rfl ?_
    refine mm_iload_n dX11_land_9 rfl rfl ?_
    refine mm_cV (Y1 := YX11_isCounter) dX11_land_10 lX11_388 vX11_isCounter (mX11_isCounter d h (mk A) S.2.1.2.1 (by have := S.1.2.1; omega) c) sh_165 rfl rfl (by simp [Value.category]) ?_
    refine mm_if_eq 41 dX11_land_13 (by decide) (fun c_13 => ?_) (fun c_13 => ?_)
    · refine mm_iconst (x := (-1)) dX11_land_41 (by decide) ?_
      exact mm_iretE dX11_land_42 rfl rfl rfl
    · refine mm_iload_n dX11_land_16 rfl rfl ?_
      refine mm_i2l dX11_land_17 rfl ?_
      refine mm_lconst (x := 0) dX11_land_18 (by decide) ?_
      refine mm_ldc2 dX11_land_19 kX11_492 ?_
      refine mm_cS (Y1 := YX11_in) dX11_land_22 lX11_171 sX11_in (mX11_in (d + 1) h _ _ _) rfl rfl (by simp [Value.category]) ?_
      refine mm_if_eq 41 dX11_land_25 (by decide) (fun c_25 => ?_) (fun c_25 => ?_)
      · refine mm_iconst (x := (-1)) dX11_land_41 (by decide) ?_
        exact mm_iretE dX11_land_42 rfl rfl rfl
      · refine mm_iload dX11_land_28 rfl ?_
        refine mm_i2l dX11_land_30 rfl ?_
        refine mm_lconst (x := 1) dX11_land_31 (by decide) ?_
        refine mm_ldc2 dX11_land_32 kX11_441 ?_
        refine mm_cS (Y1 := YX11_in) dX11_land_35 lX11_171 sX11_in (mX11_in (d + 1) h _ _ _) rfl rfl (by simp [Value.category]) ?_
        refine mm_if_ne 43 dX11_land_38 (by decide) (fun c_38 => ?_) (fun c_38 => ?_)
        · exact absurd ⟨⟨bI_n0.mp c_5, bI_n0.mp c_13⟩, by have q := bI_n0.mp c_25; rw [i64_toInt, li_0, li_200] at q; exact q, by have q := bI_n0.mp c_38; rw [i64_toInt, li_1, li_4] at q; exact q⟩ hb
        · refine mm_iconst (x := (-1)) dX11_land_41 (by decide) ?_
          exact mm_iretE dX11_land_42 rfl rfl rfl
set_option maxRecDepth 100000 in
set_option maxHeartbeats 4000000 in
theorem mX11_land_y (d : Nat) (h : mm_H) (A : MD) (LQ : Nat → LD) (nl : Nat) (S : stM A LQ nl h) (r c : Nat) (hr : r < nl) (hc : c < mk A) (p q : Nat) (hp2 : p ≤ 200) (hq : 1 ≤ q ∧ q ≤ 4) : ∃ x g, mm_M (d + 9) YX11_land [.ref 165, .int (nI r), .int (nI c), .int (nI p), .int (nI q)] h (some (.int x)) g ∧ ldR (goodL A (LQ r) c q p) (2 ^ mn A) x ∧ mfr h g := by
  suffices hE : mm_E (d + 9) YX11_land 0 [some (.ref 165), some (.int (nI r)), some (.int (nI c)), some (.int (nI p)), some (.int (nI q)), none, none, none] [] h (fun v g => ∃ x, v = some (.int x) ∧ ldR (goodL A (LQ r) c q p) (2 ^ mn A) x ∧ mfr h g) by
    obtain ⟨v, g, hR, x, rfl, h1⟩ := hE
    exact ⟨x, g, mm_M.of _ rfl rfl (Nat.le_of_ble_eq_true rfl) hR, h1⟩
  have N1 := mX11_isLaw (d + 7) h nl S.2.2.1 (by have := S.2.2.2.1; omega) (nI r)
  have N2 := mX11_isCounter (d + 7) h (mk A) S.2.1.2.1 (by have := S.1.2.1; omega) (nI c)
  obtain ⟨hA, hV, h6, hn6, hL⟩ := S
  have h12 := hA.1
  have h4 := hA.2.1
  have hp := p2_lt h12
  have hp0 : 0 < (2 ^ mn A) := Nat.pos_of_ne_zero (p2_ne _)
  have e166 : h.1 166 0 = nI (mn A) := hV.1
  obtain ⟨g1, M1, f1, k1, -⟩ := mX11_keepsAll d h A hA hV (LQ r) r (by omega) (hL r hr).1 (hL r hr).2 c hc (2 ^ mn A - 1) (by omega) q (by omega)
  have hV1 := viewM_f hV f1.1 (fun c hc => pKp_f (by omega) (by omega))
  have hall : ∀ t, t < (2 ^ mn A) → sub t (2 ^ mn A - 1) := fun t ht => by
    rw [sub_iff]; intro i hi
    rw [Nat.testBit_two_pow_sub_one]
    refine decide_eq_true (Nat.lt_of_not_le (fun z => ?_))
    rw [Nat.testBit_lt_two_pow (Nat.lt_of_lt_of_le ht (Nat.pow_le_pow_right (by decide) z))] at hi
    cases hi
  obtain ⟨g2, M2, f2, b2⟩ := mX11_findsBad (d + 6) g1 A hA hV1 (LQ r) c q (by omega) (fun t h1 h2 => k1 t (hall t h1) h2)
  have fr2 : mfr h g2 := f1.mfr.trans ⟨f2.mono (fun c hc => by have := pMs_g hc; simp only [onep, beq_eq_false_iff_ne]; omega), fun j _ => by rw [f2.i rfl]⟩
  have vw : ∀ gg, frm (onep 210) g2 gg → viewM gg A ∧ mfr h gg ∧ gg.1 209 = g2.1 209 := fun gg fg => by
    have fr : mfr h gg := fr2.trans ⟨fg.mono (fun c hc => by have := pMs_g hc; simp only [onep, beq_eq_false_iff_ne]; omega), fun j _ => by rw [fg.i rfl]⟩
    exact ⟨viewM_f hV fr.1 (fun c hc => pMs_f (by omega) (by omega)), fr, fg.i rfl⟩
  have K76 : ∀ m b, b + m = mn A + 1 → ∀ gg, frm (onep 210) g2 gg → (∀ t, t < (2 ^ mn A) → (goodL A (LQ r) c q p) t → b ≤ pc t) → ∀ x7, mm_E (d + 9) YX11_land 76 [some (.ref 165), some (.int (nI r)), some (.int (nI c)), some (.int (nI p)), some (.int (nI q)), some (.int (nI (2 ^ mn A - 1))), some (.int (nI b)), x7] [] gg (fun v g => ∃ x, v = some (.int x) ∧ ldR (goodL A (LQ r) c q p) (2 ^ mn A) x ∧ mfr h g) := by
    intro m
    induction m with
    | zero =>
      intro b hb gg fg hno x7
      have hb : b = mn A + 1 := by omega
      subst hb
      obtain ⟨v1, v2, v3⟩ := vw gg fg
      have e1 := v1.1
      refine mm_Es (fun _ _ => mm_iload dX11_land_76 rfl) ?_
      refine mm_Es (fun _ _ => mm_aload_n dX11_land_78 rfl rfl) ?_
      refine mm_Es (fun _ _ => mm_getS dX11_land_79 fX11_9 sh_165 rfl gr_165_1) ?_
      refine mm_Es (fun _ _ => mm_iconst (x := 0) dX11_land_82 (by decide)) ?_
      refine mm_Es (fun _ _ => mm_iald (0) dX11_land_83 sh_166 rfl (by decide)) ?_
      refine mm_Eb (fun _ _ => mm_icmp_gt 144 dX11_land_84 (by decide)) (fun c_84 => ?_) (fun c_84 => ?_)
      · refine mm_Es (fun _ _ => mm_bipush (x := (-2)) dX11_land_144 (by decide)) ?_
        refine mm_Er (mm_ireturn dX11_land_146 rfl) ?_
        exact ⟨-2, rfl, Or.inl ⟨rfl, fun t ht hg => by have := hno t ht hg; have := pc_n h12 ht; omega⟩, v2⟩
      · exact absurd (by rw [e1]; exact nI_lt (show mn A < mn A + 1 by omega) (by omega)) c_84
    | succ m ih =>
      intro b hb gg fg hno x7
      have e1 := (vw gg fg).1.1
      have K90 : ∀ m s, s + m = (2 ^ mn A) → ∀ gg, frm (onep 210) g2 gg → (∀ t, t < s → (goodL A (LQ r) c q p) t → b < pc t) → mm_E (d + 9) YX11_land 90 [some (.ref 165), some (.int (nI r)), some (.int (nI c)), some (.int (nI p)), some (.int (nI q)), some (.int (nI (2 ^ mn A - 1))), some (.int (nI b)), some (.int (nI s))] [] gg (fun v g => ∃ x, v = some (.int x) ∧ ldR (goodL A (LQ r) c q p) (2 ^ mn A) x ∧ mfr h g) := by
        intro m
        induction m with
        | zero =>
          intro s hs gg fg hno2
          have hs : s = (2 ^ mn A) := by omega
          subst hs
          have K := ih (b + 1) (by omega) gg fg (fun t ht hg => hno2 t ht hg)
          refine mm_Es (fun _ _ => mm_iload dX11_land_90 rfl) ?_
          refine mm_Es (fun _ _ => mm_iload dX11_land_92 rfl) ?_
          refine mm_Eb (fun _ _ => mm_icmp_gt 138 dX11_land_94 (by decide)) (fun c_94 => ?_) (fun c_94 => ?_)
          · refine mm_Es (fun _ _ => mm_iinc dX11_land_138 rfl (nI_inc b) rfl) ?_
            refine mm_Es (fun _ _ => mm_goto 76 dX11_land_141 (by decide)) ?_
            exact K _
          · exact absurd (nI_lt (show (2 ^ mn A - 1) < (2 ^ mn A) by omega) (by omega)) c_94
        | succ m ihm =>
          intro s hs gg fg hno2
          have hsn : s < (2 ^ mn A) := by omega
          have hps := pc_n h12 hsn
          obtain ⟨v1, v2, v3⟩ := vw gg fg
          have e209 : gg.1 209 s = pI (unS (chd A (LQ r) c) (wtA A) q s) := by rw [v3]; exact b2 s hsn
          have nxt : ∀ g3, frm (onep 210) g2 g3 → ¬ (pc s = b ∧ (goodL A (LQ r) c q p) s) → mm_E (d + 9) YX11_land 90 [some (.ref 165), some (.int (nI r)), some (.int (nI c)), some (.int (nI p)), some (.int (nI q)), some (.int (nI (2 ^ mn A - 1))), some (.int (nI b)), some (.int (nI (s + 1)))] [] g3 (fun v g => ∃ x, v = some (.int x) ∧ ldR (goodL A (LQ r) c q p) (2 ^ mn A) x ∧ mfr h g) := fun g3 f3 hng => ihm (s + 1) (by omega) g3 f3 (fun t ht hg => by
            by_cases z : t = s
            · rw [z] at hg ⊢
              have := hno s hsn hg
              have : ¬ pc s = b := fun w => hng ⟨w, hg⟩
              omega
            · exact hno2 t (by omega) hg)
          by_cases hb2 : pc s = b
          · by_cases hun : unS (chd A (LQ r) c) (wtA A) q s
            · have K := nxt gg fg (fun z => z.2.1 hun)
              refine mm_Es (fun _ _ => mm_iload dX11_land_90 rfl) ?_
              refine mm_Es (fun _ _ => mm_iload dX11_land_92 rfl) ?_
              refine mm_Eb (fun _ _ => mm_icmp_gt 138 dX11_land_94 (by decide)) (fun c_94 => ?_) (fun c_94 => ?_)
              · exact absurd c_94 (nI_nlt (by omega) (by omega))
              · refine mm_Es (fun _ _ => mm_iload dX11_land_97 rfl) ?_
                refine mm_Es (fun _ _ => mm_cS (Y1 := YX11_bits) dX11_land_99 lX11_363 sX11_bits (mX11_bits (d + 8) gg s (by omega)) rfl rfl (by simp [Value.category])) ?_
                refine mm_Es (fun _ _ => mm_iload dX11_land_102 rfl) ?_
                refine mm_Ebn (fun _ _ => mm_icmp_ne 132 dX11_land_104 (by decide)) (fun c_104 => ?_) (fun c_104 => ?_)
                · exact absurd (by rw [hb2]) c_104
                · refine mm_Es (fun _ _ => mm_aload_n dX11_land_107 rfl rfl) ?_
                  refine mm_Es (fun _ _ => mm_getS dX11_land_108 fX11_147 sh_165 rfl gr_165_59) ?_
                  refine mm_Es (fun _ _ => mm_iload dX11_land_111 rfl) ?_
                  refine mm_Es (fun _ _ => mm_zald (s) dX11_land_113 sh_209 rfl (by omega)) ?_
                  refine mm_Ebn (fun _ _ => mm_if_ne 132 dX11_land_114 (by decide)) (fun c_114 => ?_) (fun c_114 => ?_)
                  · refine mm_Es (fun _ _ => mm_iinc dX11_land_132 rfl (nI_inc s) rfl) ?_
                    refine mm_Es (fun _ _ => mm_goto 90 dX11_land_135 (by decide)) ?_
                    exact K
                  · exact absurd hun (pI_e0.mp (e209.symm.trans c_114))
            · obtain ⟨g3, M3, f3⟩ := mX11_hasPrices (d + 6) gg A hA v1 s hsn p q hp2 (by omega)
              have fg3 := fg.trans f3
              have B114 := e209.trans (pI_0 hun)
              by_cases hcv : cvd (wtA A) q p s
              · have fin : ldR (goodL A (LQ r) c q p) (2 ^ mn A) (nI s) := Or.inr ⟨s, hsn, rfl, ⟨hun, hcv⟩, fun t ht hg => by
                  have z1 := hno t ht hg
                  by_cases z : t < s
                  · have := hno2 t z hg; left; omega
                  · rcases (show pc s < pc t ∨ pc s = pc t by omega) with w | w
                    · exact Or.inl w
                    · exact Or.inr ⟨w, by omega⟩⟩
                refine mm_Es (fun _ _ => mm_iload dX11_land_90 rfl) ?_
                refine mm_Es (fun _ _ => mm_iload dX11_land_92 rfl) ?_
                refine mm_Eb (fun _ _ => mm_icmp_gt 138 dX11_land_94 (by decide)) (fun c_94 => ?_) (fun c_94 => ?_)
                · exact absurd c_94 (nI_nlt (by omega) (by omega))
                · refine mm_Es (fun _ _ => mm_iload dX11_land_97 rfl) ?_
                  refine mm_Es (fun _ _ => mm_cS (Y1 := YX11_bits) dX11_land_99 lX11_363 sX11_bits (mX11_bits (d + 8) gg s (by omega)) rfl rfl (by simp [Value.category])) ?_
                  refine mm_Es (fun _ _ => mm_iload dX11_land_102 rfl) ?_
                  refine mm_Ebn (fun _ _ => mm_icmp_ne 132 dX11_land_104 (by decide)) (fun c_104 => ?_) (fun c_104 => ?_)
                  · exact absurd (by rw [hb2]) c_104
                  · refine mm_Es (fun _ _ => mm_aload_n dX11_land_107 rfl rfl) ?_
                    refine mm_Es (fun _ _ => mm_getS dX11_land_108 fX11_147 sh_165 rfl gr_165_59) ?_
                    refine mm_Es (fun _ _ => mm_iload dX11_land_111 rfl) ?_
                    refine mm_Es (fun _ _ => mm_zald (s) dX11_land_113 sh_209 rfl (by omega)) ?_
                    refine mm_Ebn (fun _ _ => mm_if_ne 132 dX11_land_114 (by decide)) (fun c_114 => ?_) (fun c_114 => ?_)
                    · exact absurd B114 c_114
                    · refine mm_Es (fun _ _ => mm_aload_n dX11_land_117 rfl rfl) ?_
                      refine mm_Es (fun _ _ => mm_iload dX11_land_118 rfl) ?_
                      refine mm_Es (fun _ _ => mm_iload_n dX11_land_120 rfl rfl) ?_
                      refine mm_Es (fun _ _ => mm_iload dX11_land_121 rfl) ?_
                      refine mm_Es (fun _ _ => mm_cV (Y1 := YX11_hasPrices) dX11_land_123 lX11_497 vX11_hasPrices (M3) sh_165 rfl rfl (by simp [Value.category])) ?_
                      refine mm_Eb (fun _ _ => mm_if_eq 132 dX11_land_126 (by decide)) (fun c_126 => ?_) (fun c_126 => ?_)
                      · exact absurd hcv (pI_e0.mp c_126)
                      · refine mm_Es (fun _ _ => mm_iload dX11_land_129 rfl) ?_
                        refine mm_Er (mm_ireturn dX11_land_131 rfl) ?_
                        exact ⟨nI s, rfl, fin, (vw g3 fg3).2.1⟩
              · have K := nxt g3 fg3 (fun z => hcv z.2.2)
                refine mm_Es (fun _ _ => mm_iload dX11_land_90 rfl) ?_
                refine mm_Es (fun _ _ => mm_iload dX11_land_92 rfl) ?_
                refine mm_Eb (fun _ _ => mm_icmp_gt 138 dX11_land_94 (by decide)) (fun c_94 => ?_) (fun c_94 => ?_)
                · exact absurd c_94 (nI_nlt (by omega) (by omega))
                · refine mm_Es (fun _ _ => mm_iload dX11_land_97 rfl) ?_
                  refine mm_Es (fun _ _ => mm_cS (Y1 := YX11_bits) dX11_land_99 lX11_363 sX11_bits (mX11_bits (d + 8) gg s (by omega)) rfl rfl (by simp [Value.category])) ?_
                  refine mm_Es (fun _ _ => mm_iload dX11_land_102 rfl) ?_
                  refine mm_Ebn (fun _ _ => mm_icmp_ne 132 dX11_land_104 (by decide)) (fun c_104 => ?_) (fun c_104 => ?_)
                  · exact absurd (by rw [hb2]) c_104
                  · refine mm_Es (fun _ _ => mm_aload_n dX11_land_107 rfl rfl) ?_
                    refine mm_Es (fun _ _ => mm_getS dX11_land_108 fX11_147 sh_165 rfl gr_165_59) ?_
                    refine mm_Es (fun _ _ => mm_iload dX11_land_111 rfl) ?_
                    refine mm_Es (fun _ _ => mm_zald (s) dX11_land_113 sh_209 rfl (by omega)) ?_
                    refine mm_Ebn (fun _ _ => mm_if_ne 132 dX11_land_114 (by decide)) (fun c_114 => ?_) (fun c_114 => ?_)
                    · exact absurd B114 c_114
                    · refine mm_Es (fun _ _ => mm_aload_n dX11_land_117 rfl rfl) ?_
                      refine mm_Es (fun _ _ => mm_iload dX11_land_118 rfl) ?_
                      refine mm_Es (fun _ _ => mm_iload_n dX11_land_120 rfl rfl) ?_
                      refine mm_Es (fun _ _ => mm_iload dX11_land_121 rfl) ?_
                      refine mm_Es (fun _ _ => mm_cV (Y1 := YX11_hasPrices) dX11_land_123 lX11_497 vX11_hasPrices (M3) sh_165 rfl rfl (by simp [Value.category])) ?_
                      refine mm_Eb (fun _ _ => mm_if_eq 132 dX11_land_126 (by decide)) (fun c_126 => ?_) (fun c_126 => ?_)
                      · refine mm_Es (fun _ _ => mm_iinc dX11_land_132 rfl (nI_inc s) rfl) ?_
                        refine mm_Es (fun _ _ => mm_goto 90 dX11_land_135 (by decide)) ?_
                        exact K
                      · exact absurd (pI_n0.mp c_126) hcv
          · have K := nxt gg fg (fun z => hb2 z.1)
            refine mm_Es (fun _ _ => mm_iload dX11_land_90 rfl) ?_
            refine mm_Es (fun _ _ => mm_iload dX11_land_92 rfl) ?_
            refine mm_Eb (fun _ _ => mm_icmp_gt 138 dX11_land_94 (by decide)) (fun c_94 => ?_) (fun c_94 => ?_)
            · exact absurd c_94 (nI_nlt (by omega) (by omega))
            · refine mm_Es (fun _ _ => mm_iload dX11_land_97 rfl) ?_
              refine mm_Es (fun _ _ => mm_cS (Y1 := YX11_bits) dX11_land_99 lX11_363 sX11_bits (mX11_bits (d + 8) gg s (by omega)) rfl rfl (by simp [Value.category])) ?_
              refine mm_Es (fun _ _ => mm_iload dX11_land_102 rfl) ?_
              refine mm_Ebn (fun _ _ => mm_icmp_ne 132 dX11_land_104 (by decide)) (fun c_104 => ?_) (fun c_104 => ?_)
              · refine mm_Es (fun _ _ => mm_iinc dX11_land_132 rfl (nI_inc s) rfl) ?_
                refine mm_Es (fun _ _ => mm_goto 90 dX11_land_135 (by decide)) ?_
                exact K
              · exact absurd ((nI_eq (by omega) (by omega)).mp c_104) hb2
      have K := K90 (2 ^ mn A) 0 (by omega) gg fg (fun t ht => by omega)
      refine mm_Es (fun _ _ => mm_iload dX11_land_76 rfl) ?_
      refine mm_Es (fun _ _ => mm_aload_n dX11_land_78 rfl rfl) ?_
      refine mm_Es (fun _ _ => mm_getS dX11_land_79 fX11_9 sh_165 rfl gr_165_1) ?_
      refine mm_Es (fun _ _ => mm_iconst (x := 0) dX11_land_82 (by decide)) ?_
      refine mm_Es (fun _ _ => mm_iald (0) dX11_land_83 sh_166 rfl (by decide)) ?_
      refine mm_Eb (fun _ _ => mm_icmp_gt 144 dX11_land_84 (by decide)) (fun c_84 => ?_) (fun c_84 => ?_)
      · exact absurd (by rw [e1] at c_84; exact c_84) (nI_nlt (by omega) (by omega))
      · refine mm_Es (fun _ _ => mm_iconst (x := 0) dX11_land_87 (by decide)) ?_
        refine mm_Es (fun _ _ => mm_istore dX11_land_88 (by decide) rfl) ?_
        exact K
  have K := K76 (mn A + 1) 0 (by omega) g2 (frm.refl _ _) (fun t _ _ => Nat.zero_le _) none
  refine mm_Es (fun _ _ => mm_aload_n dX11_land_0 rfl rfl) ?_
  refine mm_Es (fun _ _ => mm_iload_n dX11_land_1 rfl rfl) ?_
  refine mm_Es (fun _ _ => mm_cV (Y1 := YX11_isLaw) dX11_land_2 lX11_405 vX11_isLaw (N1) sh_165 rfl rfl (by simp [Value.category])) ?_
  refine mm_Eb (fun _ _ => mm_if_eq 41 dX11_land_5 (by decide)) (fun c_5 => ?_) (fun c_5 => ?_)
  · exact absurd ⟨by rw [nI_toInt (by omega)]; omega, by rw [nI_toInt (by omega)]; omega⟩ (bI_e0.mp c_5)
  · refine mm_Es (fun _ _ => mm_aload_n dX11_land_8 rfl rfl) ?_
    refine mm_Es (fun _ _ => mm_iload_n dX11_land_9 rfl rfl) ?_
    refine mm_Es (fun _ _ => mm_cV (Y1 := YX11_isCounter) dX11_land_10 lX11_388 vX11_isCounter (N2) sh_165 rfl rfl (by simp [Value.category])) ?_
    refine mm_Eb (fun _ _ => mm_if_eq 41 dX11_land_13 (by decide)) (fun c_13 => ?_) (fun c_13 => ?_)
    · exact absurd ⟨by rw [nI_toInt (by omega)]; omega, by rw [nI_toInt (by omega)]; omega⟩ (bI_e0.mp c_13)
    · refine mm_Es (fun _ _ => mm_iload_n dX11_land_16 rfl rfl) ?_
      refine mm_Es (fun _ _ => mm_i2l dX11_land_17 rfl) ?_
      refine mm_Es (fun _ _ => mm_lconst (x := 0) dX11_land_18 (by decide)) ?_
      refine mm_Es (fun _ _ => mm_ldc2 dX11_land_19 kX11_492) ?_
      refine mm_Es (fun _ _ => mm_cS (Y1 := YX11_in) dX11_land_22 lX11_171 sX11_in (mX11_in (d + 8) h _ _ _) rfl rfl (by simp [Value.category])) ?_
      refine mm_Eb (fun _ _ => mm_if_eq 41 dX11_land_25 (by decide)) (fun c_25 => ?_) (fun c_25 => ?_)
      · exact absurd (by rw [i64_toInt, li_0, li_200, nI_toInt (by omega)]; omega) (bI_e0.mp c_25)
      · refine mm_Es (fun _ _ => mm_iload dX11_land_28 rfl) ?_
        refine mm_Es (fun _ _ => mm_i2l dX11_land_30 rfl) ?_
        refine mm_Es (fun _ _ => mm_lconst (x := 1) dX11_land_31 (by decide)) ?_
        refine mm_Es (fun _ _ => mm_ldc2 dX11_land_32 kX11_441) ?_
        refine mm_Es (fun _ _ => mm_cS (Y1 := YX11_in) dX11_land_35 lX11_171 sX11_in (mX11_in (d + 8) h _ _ _) rfl rfl (by simp [Value.category])) ?_
        refine mm_Ebn (fun _ _ => mm_if_ne 43 dX11_land_38 (by decide)) (fun c_38 => ?_) (fun c_38 => ?_)
        · refine mm_Es (fun _ _ => mm_iconst (x := 1) dX11_land_43 (by decide)) ?_
          refine mm_Es (fun _ _ => mm_aload_n dX11_land_44 rfl rfl) ?_
          refine mm_Es (fun _ _ => mm_getS dX11_land_45 fX11_9 sh_165 rfl gr_165_1) ?_
          refine mm_Es (fun _ _ => mm_iconst (x := 0) dX11_land_48 (by decide)) ?_
          refine mm_Es (fun _ _ => mm_iald (0) dX11_land_49 sh_166 rfl (by decide)) ?_
          refine mm_Es (fun _ _ => mm_ishl dX11_land_50) ?_
          refine mm_Es (fun _ _ => mm_iconst (x := 1) dX11_land_51 (by decide)) ?_
          refine mm_Es (fun _ _ => mm_isub dX11_land_52) ?_
          refine mm_Es (fun _ _ => mm_cast (st' := [.int (nI (2 ^ mn A - 1))]) rfl (by rw [e166, sh1 h12, p2m1 h12] <;> rfl) rfl) ?_
          refine mm_Es (fun _ _ => mm_istore dX11_land_53 (by decide) rfl) ?_
          refine mm_Es (fun _ _ => mm_aload_n dX11_land_55 rfl rfl) ?_
          refine mm_Es (fun _ _ => mm_iload_n dX11_land_56 rfl rfl) ?_
          refine mm_Es (fun _ _ => mm_iload_n dX11_land_57 rfl rfl) ?_
          refine mm_Es (fun _ _ => mm_iload dX11_land_58 rfl) ?_
          refine mm_Es (fun _ _ => mm_iload dX11_land_60 rfl) ?_
          refine mm_Es (fun _ _ => mm_cV (Y1 := YX11_keepsAll) dX11_land_62 lX11_451 vX11_keepsAll (M1) sh_165 rfl rfl (by simp [Value.category])) ?_
          refine mm_Es (fun _ _ => mm_aload_n dX11_land_65 rfl rfl) ?_
          refine mm_Es (fun _ _ => mm_iload dX11_land_66 rfl) ?_
          refine mm_Es (fun _ _ => mm_iload dX11_land_68 rfl) ?_
          refine mm_Es (fun _ _ => mm_cV (Y1 := YX11_findsBad) dX11_land_70 lX11_494 vX11_findsBad (M2) sh_165 rfl rfl (by simp [Value.category])) ?_
          refine mm_Es (fun _ _ => mm_iconst (x := 0) dX11_land_73 (by decide)) ?_
          refine mm_Es (fun _ _ => mm_istore dX11_land_74 (by decide) rfl) ?_
          exact K
        · exact absurd (by rw [i64_toInt, li_1, li_4, nI_toInt (by omega)]; omega) (bI_e0.mp c_38)
