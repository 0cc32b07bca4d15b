/-! prices, bestCounter: of both. -/
set_option maxRecDepth 100000 in
set_option maxHeartbeats 4000000 in
theorem mX10_prices_n (d : Nat) (h : mm_H) (A : MD) (LQ : Nat → LD) (nl G : Nat) (S : stC A LQ nl h G) (r k a b p : Int32) (hb : ¬ (dealP A nl r k a b ∧ (0 ≤ p.toInt ∧ p.toInt ≤ 999))) : mm_M (d + 2) YX10_prices [.ref 0, .int r, .int k, .int a, .int b, .int p] h (some (.int (-1))) h := by
  refine mm_M.of [some (.ref 0), some (.int r), some (.int k), some (.int a), some (.int b), some (.int p)] rfl rfl (Nat.le_of_ble_eq_true rfl) ?_
  refine mm_aload_n dX10_prices_0 rfl rfl ?_
  refine mm_iload_n dX10_prices_1 rfl rfl ?_
  refine mm_iload_n dX10_prices_2 rfl rfl ?_
  refine mm_iload dX10_prices_3 rfl ?_
  refine mm_cV (Y1 := YX10_canDeal) dX10_prices_5 lX10_237 vX10_canDeal (mX10_canDeal d h nl S.2.2.1 S.2.2.2.1 r a b) sh_0 rfl rfl (by simp [Value.category]) ?_
  refine mm_if_eq 32 dX10_prices_8 (by decide) (fun c_8 => ?_) (fun c_8 => ?_)
  · refine mm_iconst (x := (-1)) dX10_prices_32 (by decide) ?_
    exact mm_iretE dX10_prices_33 rfl rfl rfl
  · refine mm_aload_n dX10_prices_11 rfl rfl ?_
    refine mm_iload_n dX10_prices_12 rfl rfl ?_
    refine mm_cV (Y1 := YX10_isCounter) dX10_prices_13 lX10_153 vX10_isCounter (mX10_isCounter (d + 1) h (mk A) S.2.1.2.1 S.1.2.1 k) sh_0 rfl rfl (by simp [Value.category]) ?_
    refine mm_if_eq 32 dX10_prices_16 (by decide) (fun c_16 => ?_) (fun c_16 => ?_)
    · refine mm_iconst (x := (-1)) dX10_prices_32 (by decide) ?_
      exact mm_iretE dX10_prices_33 rfl rfl rfl
    · refine mm_iload dX10_prices_19 rfl ?_
      refine mm_if_lt 32 dX10_prices_21 (by decide) (fun c_21 => ?_) (fun c_21 => ?_)
      · refine mm_iconst (x := (-1)) dX10_prices_32 (by decide) ?_
        exact mm_iretE dX10_prices_33 rfl rfl rfl
      · refine mm_iload dX10_prices_24 rfl ?_
        refine mm_sipush (x := 999) dX10_prices_26 (by decide) ?_
        refine mm_icmp_le 34 dX10_prices_29 (by decide) (fun c_29 => ?_) (fun c_29 => ?_)
        · exact absurd (by have q := bI_n0.mp c_8; exact ⟨⟨q.1, bI_n0.mp c_16, q.2⟩, by rw [Int32.lt_iff_toInt_lt, ti_0] at c_21; omega, by rw [Int32.le_iff_toInt_le, ti_999] at c_29; exact c_29⟩) hb
        · refine mm_iconst (x := (-1)) dX10_prices_32 (by decide) ?_
          exact mm_iretE dX10_prices_33 rfl rfl rfl
set_option maxRecDepth 100000 in
set_option maxHeartbeats 4000000 in
theorem mX10_prices_y (d : Nat) (h : mm_H) (A : MD) (LQ : Nat → LD) (nl G : Nat) (S : stC A LQ nl h G) (hGb : G + 2 < 2 ^ 31) (r k : Nat) (hr : r < nl) (hk : k < mk A) (one other : Int32) (hd : dealN one other) (p : Nat) (hp9 : p ≤ 999) : ∃ g, mm_M (d + 7) YX10_prices [.ref 0, .int (nI r), .int (nI k), .int one, .int other, .int (nI p)] h (some (.int (nI (prc_n A (LQ r) k one other p)))) g ∧ cfr h g ∧ stC A LQ nl g (G + 2) := by
  have S0 := S
  obtain ⟨g1, M1, a1, a2, a3⟩ := aimC (d + 5) h A LQ nl G S r k hr hk
  have N1 := mX10_canDeal (d + 5) h nl S.2.2.1 S.2.2.2.1 (nI r) one other
  have N2 := mX10_isCounter (d + 6) h (mk A) S.2.1.2.1 S.1.2.1 (nI k)
  obtain ⟨hA, hV, h6, hn6, hL, -, hcG⟩ := S
  have h12 := hA.1
  have h4 := hA.2.1
  have hp := p2_lt h12
  obtain ⟨g2, M2, b1, b2, b3⟩ := mX9_payablePrices d g1 A hA (LQ r) r (by omega) (hL r hr).1 k hk a1.1 G a2 hGb one other p hp9
  refine ⟨g2, ?_, a3.trans b3.cfr, S0.next (a3.trans b3.cfr) hr hk (b3.at a1 b1) b2⟩
  refine mm_M.of [some (.ref 0), some (.int (nI r)), some (.int (nI k)), some (.int one), some (.int other), some (.int (nI p))] rfl rfl (Nat.le_of_ble_eq_true rfl) ?_
  refine mm_aload_n dX10_prices_0 rfl rfl ?_
  refine mm_iload_n dX10_prices_1 rfl rfl ?_
  refine mm_iload_n dX10_prices_2 rfl rfl ?_
  refine mm_iload dX10_prices_3 rfl ?_
  refine mm_cV (Y1 := YX10_canDeal) dX10_prices_5 lX10_237 vX10_canDeal (N1) sh_0 rfl rfl (by simp [Value.category]) ?_
  refine mm_if_eq 32 dX10_prices_8 (by decide) (fun c_8 => ?_) (fun c_8 => ?_)
  · exact absurd (by exact ⟨⟨by rw [nI_toInt (by omega)]; omega, by rw [nI_toInt (by omega)]; omega⟩, hd⟩) (bI_e0.mp c_8)
  · refine mm_aload_n dX10_prices_11 rfl rfl ?_
    refine mm_iload_n dX10_prices_12 rfl rfl ?_
    refine mm_cV (Y1 := YX10_isCounter) dX10_prices_13 lX10_153 vX10_isCounter (N2) sh_0 rfl rfl (by simp [Value.category]) ?_
    refine mm_if_eq 32 dX10_prices_16 (by decide) (fun c_16 => ?_) (fun c_16 => ?_)
    · exact absurd ⟨by rw [nI_toInt (by omega)]; omega, by rw [nI_toInt (by omega)]; omega⟩ (bI_e0.mp c_16)
    · refine mm_iload dX10_prices_19 rfl ?_
      refine mm_if_lt 32 dX10_prices_21 (by decide) (fun c_21 => ?_) (fun c_21 => ?_)
      · exact absurd c_21 (by rw [Int32.lt_iff_toInt_lt, ti_0, nI_toInt (by omega)]; omega)
      · refine mm_iload dX10_prices_24 rfl ?_
        refine mm_sipush (x := 999) dX10_prices_26 (by decide) ?_
        refine mm_icmp_le 34 dX10_prices_29 (by decide) (fun c_29 => ?_) (fun c_29 => ?_)
        · refine mm_aload_n dX10_prices_34 rfl rfl ?_
          refine mm_getS dX10_prices_35 fX10_69 sh_0 rfl gr_0_10 ?_
          refine mm_aload_n dX10_prices_38 rfl rfl ?_
          refine mm_getS dX10_prices_39 fX10_38 sh_0 rfl gr_0_5 ?_
          refine mm_iload_n dX10_prices_42 rfl rfl ?_
          refine mm_aald (r) dX10_prices_43 (Or.inl rfl) sh_2 rfl (by omega) (gr_2 (by omega)) ?_
          refine mm_iload_n dX10_prices_44 rfl rfl ?_
          refine mm_cV (Y1 := YX0_aim) dX10_prices_45 lX10_183 vX0_aim (M1) sh_135 rfl rfl (by simp [Value.category]) ?_
          refine mm_aload_n dX10_prices_48 rfl rfl ?_
          refine mm_getS dX10_prices_49 fX10_78 sh_0 rfl gr_0_11 ?_
          refine mm_iload_n dX10_prices_52 rfl rfl ?_
          refine mm_iload dX10_prices_53 rfl ?_
          refine mm_iload dX10_prices_55 rfl ?_
          refine mm_cV (Y1 := YX9_payablePrices) dX10_prices_57 lX10_259 vX9_payablePrices (M2) sh_155 rfl rfl (by simp [Value.category]) ?_
          exact mm_iretE dX10_prices_60 rfl rfl rfl
        · exact absurd (nI_le (b := 999) hp9 (by omega)) c_29
/-- the best so far, and how many prices it has -/
def bcV (z : Int32) (cnt : Nat → Nat) : Nat → Int32 × Int32
  | 0 => (z, -1)
  | i + 1 => if nI (cnt i) ≤ (bcV z cnt i).2 then bcV z cnt i else (nI i, nI (cnt i))
theorem bcV_n {z : Int32} {cnt : Nat → Nat} {i : Nat} (h : nI (cnt i) ≤ (bcV z cnt i).2) : bcV z cnt (i + 1) = bcV z cnt i := by simp only [bcV]; rw [if_pos h]
theorem bcV_y {z : Int32} {cnt : Nat → Nat} {i : Nat} (h : ¬ nI (cnt i) ≤ (bcV z cnt i).2) : bcV z cnt (i + 1) = (nI i, nI (cnt i)) := by simp only [bcV]; rw [if_neg h]
theorem bcV_z {z y : Int32} {cnt : Nat → Nat} (h : cnt 0 < 2 ^ 31) : ∀ n, bcV z cnt (n + 1) = bcV y cnt (n + 1) := by
  intro n
  induction n with
  | zero =>
    have q : ¬ nI (cnt 0) ≤ -1 := by rw [Int32.le_iff_toInt_le, nI_toInt h, ti_m1]; omega
    rw [bcV_y (z := z) q, bcV_y (z := y) q]
  | succ n ih =>
    by_cases q : nI (cnt (n + 1)) ≤ (bcV z cnt (n + 1)).2
    · exact (bcV_n q).trans (ih.trans (bcV_n (z := y) (by rw [← ih]; exact q)).symm)
    · rw [bcV_y q, bcV_y (by rw [← ih]; exact q)]
set_option maxRecDepth 100000 in
set_option maxHeartbeats 4000000 in
theorem mX10_bestCounter_n (d : Nat) (h : mm_H) (A : MD) (LQ : Nat → LD) (nl G : Nat) (S : stC A LQ nl h G) (r a b p : Int32) (hb : ¬ (((0 ≤ r.toInt ∧ r.toInt < nl) ∧ dealN a b) ∧ (0 ≤ p.toInt ∧ p.toInt ≤ 999))) : mm_M (d + 2) YX10_bestCounter [.ref 0, .int r, .int a, .int b, .int p] h (some (.int (-1))) h := by
  refine mm_M.of [some (.ref 0), some (.int r), some (.int a), some (.int b), some (.int p), none, none, none, none] rfl rfl (Nat.le_of_ble_eq_true rfl) ?_
  refine mm_aload_n dX10_bestCounter_0 rfl rfl ?_
  refine mm_iload_n dX10_bestCounter_1 rfl rfl ?_
  refine mm_iload_n dX10_bestCounter_2 rfl rfl ?_
  refine mm_iload_n dX10_bestCounter_3 rfl rfl ?_
  refine mm_cV (Y1 := YX10_canDeal) dX10_bestCounter_4 lX10_237 vX10_canDeal (mX10_canDeal d h nl S.2.2.1 S.2.2.2.1 r a b) sh_0 rfl rfl (by simp [Value.category]) ?_
  refine mm_if_eq 23 dX10_bestCounter_7 (by decide) (fun c_7 => ?_) (fun c_7 => ?_)
  · refine mm_iconst (x := (-1)) dX10_bestCounter_23 (by decide) ?_
    exact mm_iretE dX10_bestCounter_24 rfl rfl rfl
  · refine mm_iload dX10_bestCounter_10 rfl ?_
    refine mm_if_lt 23 dX10_bestCounter_12 (by decide) (fun c_12 => ?_) (fun c_12 => ?_)
    · refine mm_iconst (x := (-1)) dX10_bestCounter_23 (by decide) ?_
      exact mm_iretE dX10_bestCounter_24 rfl rfl rfl
    · refine mm_iload dX10_bestCounter_15 rfl ?_
      refine mm_sipush (x := 999) dX10_bestCounter_17 (by decide) ?_
      refine mm_icmp_le 25 dX10_bestCounter_20 (by decide) (fun c_20 => ?_) (fun c_20 => ?_)
      · exact absurd (by have q := bI_n0.mp c_7; exact ⟨q, by rw [Int32.lt_iff_toInt_lt, ti_0] at c_12; omega, by rw [Int32.le_iff_toInt_le, ti_999] at c_20; exact c_20⟩) hb
      · refine mm_iconst (x := (-1)) dX10_bestCounter_23 (by decide) ?_
        exact mm_iretE dX10_bestCounter_24 rfl rfl rfl
set_option maxRecDepth 100000 in
set_option maxHeartbeats 4000000 in
theorem mX10_bestCounter_y (d : Nat) (h : mm_H) (A : MD) (LQ : Nat → LD) (nl G : Nat) (S : stC A LQ nl h G) (hGb : G + 8 < 2 ^ 31) (r : Nat) (hr : r < nl) (one other : Int32) (hd : dealN one other) (p : Nat) (hp9 : p ≤ 999) : ∃ g, mm_M (d + 7) YX10_bestCounter [.ref 0, .int (nI r), .int one, .int other, .int (nI p)] h (some (.int (bcV (-1) (fun c => prc_n A (LQ r) c one other p) (mk A)).1)) g ∧ cfr h g ∧ stC A LQ nl g (G + 2 * mk A) := by
  suffices hE : mm_E (d + 7) YX10_bestCounter 0 [some (.ref 0), some (.int (nI r)), some (.int one), some (.int other), some (.int (nI p)), none, none, none, none] [] h (fun v g => v = some (.int (bcV (-1) (fun c => prc_n A (LQ r) c one other p) (mk A)).1) ∧ cfr h g ∧ stC A LQ nl g (G + 2 * mk A)) by
    obtain ⟨v, g, hR, rfl, h1⟩ := hE
    exact ⟨g, mm_M.of _ rfl rfl (Nat.le_of_ble_eq_true rfl) hR, h1⟩
  have S0 := S
  have N1 := mX10_canDeal (d + 5) h nl S.2.2.1 S.2.2.2.1 (nI r) one other
  obtain ⟨hA, hV, h6, hn6, hL, -, hcG⟩ := S
  have h12 := hA.1
  have h4 := hA.2.1
  have hp := p2_lt h12
  have K34 : ∀ m i, i + m = mk A → ∀ gg, cfr h gg → stC A LQ nl gg (G + 2 * i) → ∀ x8, mm_E (d + 7) YX10_bestCounter 34 [some (.ref 0), some (.int (nI r)), some (.int one), some (.int other), some (.int (nI p)), some (.int (bcV (-1) (fun c => prc_n A (LQ r) c one other p) i).1), some (.int (bcV (-1) (fun c => prc_n A (LQ r) c one other p) i).2), some (.int (nI i)), x8] [] gg (fun v g => v = some (.int (bcV (-1) (fun c => prc_n A (LQ r) c one other p) (mk A)).1) ∧ cfr h g ∧ stC A LQ nl g (G + 2 * mk A)) := by
    intro m
    induction m with
    | zero =>
      intro i hi gg cf Sg x8
      have hi : i = mk A := by omega
      subst hi
      have e65 : gg.1 65 7 = nI (mk A) := Sg.2.1.2.1
      refine mm_Es (fun _ _ => mm_iload dX10_bestCounter_34 rfl) ?_
      refine mm_Es (fun _ _ => mm_aload_n dX10_bestCounter_36 rfl rfl) ?_
      refine mm_Es (fun _ _ => mm_getS dX10_bestCounter_37 fX10_45 sh_0 rfl gr_0_7) ?_
      refine mm_Es (fun _ _ => mm_getS dX10_bestCounter_40 fX10_63 sh_61 rfl gr_61_0) ?_
      refine mm_Es (fun _ _ => mm_getI dX10_bestCounter_43 fX10_262 sh_65 rfl) ?_
      refine mm_Eb (fun _ _ => mm_icmp_ge 98 dX10_bestCounter_46 (by decide)) (fun c_46 => ?_) (fun c_46 => ?_)
      · refine mm_Es (fun _ _ => mm_iload dX10_bestCounter_98 rfl) ?_
        refine mm_Er (mm_ireturn dX10_bestCounter_100 rfl) ?_
        exact ⟨rfl, cf, Sg⟩
      · exact absurd (by rw [e65]; exact Int32.le_refl _) c_46
    | succ m ih =>
      intro i hi gg cf Sg x8
      have hin : i < mk A := by omega
      have e65 : gg.1 65 7 = nI (mk A) := Sg.2.1.2.1
      obtain ⟨g1, M1, a1, a2, a3⟩ := aimC (d + 5) gg A LQ nl (G + 2 * i) Sg r i hr hin
      obtain ⟨g2, M2, b1, b2, b3⟩ := mX9_payablePrices d g1 A hA (LQ r) r (by omega) (hL r hr).1 i hin a1.1 (G + 2 * i) a2 (by omega) one other p hp9
      have Sg2 := Sg.next (a3.trans b3.cfr) hr hin (b3.at a1 b1) b2
      rw [show G + 2 * i + 2 = G + 2 * (i + 1) by omega] at Sg2
      have K := ih (i + 1) (by omega) g2 (cf.trans (a3.trans b3.cfr)) Sg2
      refine mm_Es (fun _ _ => mm_iload dX10_bestCounter_34 rfl) ?_
      refine mm_Es (fun _ _ => mm_aload_n dX10_bestCounter_36 rfl rfl) ?_
      refine mm_Es (fun _ _ => mm_getS dX10_bestCounter_37 fX10_45 sh_0 rfl gr_0_7) ?_
      refine mm_Es (fun _ _ => mm_getS dX10_bestCounter_40 fX10_63 sh_61 rfl gr_61_0) ?_
      refine mm_Es (fun _ _ => mm_getI dX10_bestCounter_43 fX10_262 sh_65 rfl) ?_
      refine mm_Eb (fun _ _ => mm_icmp_ge 98 dX10_bestCounter_46 (by decide)) (fun c_46 => ?_) (fun c_46 => ?_)
      · exact absurd (by rw [e65] at c_46; exact c_46) (nI_ge hin (by omega))
      · refine mm_Es (fun _ _ => mm_aload_n dX10_bestCounter_49 rfl rfl) ?_
        refine mm_Es (fun _ _ => mm_getS dX10_bestCounter_50 fX10_69 sh_0 rfl gr_0_10) ?_
        refine mm_Es (fun _ _ => mm_aload_n dX10_bestCounter_53 rfl rfl) ?_
        refine mm_Es (fun _ _ => mm_getS dX10_bestCounter_54 fX10_38 sh_0 rfl gr_0_5) ?_
        refine mm_Es (fun _ _ => mm_iload_n dX10_bestCounter_57 rfl rfl) ?_
        refine mm_Es (fun _ _ => mm_aald (r) dX10_bestCounter_58 (Or.inl rfl) sh_2 rfl (by omega) (gr_2 (by omega))) ?_
        refine mm_Es (fun _ _ => mm_iload dX10_bestCounter_59 rfl) ?_
        refine mm_Es (fun _ _ => mm_cV (Y1 := YX0_aim) dX10_bestCounter_61 lX10_183 vX0_aim (M1) sh_135 rfl rfl (by simp [Value.category])) ?_
        refine mm_Es (fun _ _ => mm_aload_n dX10_bestCounter_64 rfl rfl) ?_
        refine mm_Es (fun _ _ => mm_getS dX10_bestCounter_65 fX10_78 sh_0 rfl gr_0_11) ?_
        refine mm_Es (fun _ _ => mm_iload_n dX10_bestCounter_68 rfl rfl) ?_
        refine mm_Es (fun _ _ => mm_iload_n dX10_bestCounter_69 rfl rfl) ?_
        refine mm_Es (fun _ _ => mm_iload dX10_bestCounter_70 rfl) ?_
        refine mm_Es (fun _ _ => mm_cV (Y1 := YX9_payablePrices) dX10_bestCounter_72 lX10_259 vX9_payablePrices (M2) sh_155 rfl rfl (by simp [Value.category])) ?_
        refine mm_Es (fun _ _ => mm_istore dX10_bestCounter_75 (by decide) rfl) ?_
        refine mm_Es (fun _ _ => mm_iload dX10_bestCounter_77 rfl) ?_
        refine mm_Es (fun _ _ => mm_iload dX10_bestCounter_79 rfl) ?_
        refine mm_Eb (fun _ _ => mm_icmp_le 92 dX10_bestCounter_81 (by decide)) (fun c_81 => ?_) (fun c_81 => ?_)
        · rw [bcV_n c_81] at K
          refine mm_Es (fun _ _ => mm_iinc dX10_bestCounter_92 rfl (nI_inc i) rfl) ?_
          refine mm_Es (fun _ _ => mm_goto 34 dX10_bestCounter_95 (by decide)) ?_
          exact K _
        · rw [bcV_y c_81] at K
          refine mm_Es (fun _ _ => mm_iload dX10_bestCounter_84 rfl) ?_
          refine mm_Es (fun _ _ => mm_istore dX10_bestCounter_86 (by decide) rfl) ?_
          refine mm_Es (fun _ _ => mm_iload dX10_bestCounter_88 rfl) ?_
          refine mm_Es (fun _ _ => mm_istore dX10_bestCounter_90 (by decide) rfl) ?_
          refine mm_Es (fun _ _ => mm_iinc dX10_bestCounter_92 rfl (nI_inc i) rfl) ?_
          refine mm_Es (fun _ _ => mm_goto 34 dX10_bestCounter_95 (by decide)) ?_
          exact K _
  have K := K34 (mk A) 0 (by omega) h (cfr.refl h) S0 none
  refine mm_Es (fun _ _ => mm_aload_n dX10_bestCounter_0 rfl rfl) ?_
  refine mm_Es (fun _ _ => mm_iload_n dX10_bestCounter_1 rfl rfl) ?_
  refine mm_Es (fun _ _ => mm_iload_n dX10_bestCounter_2 rfl rfl) ?_
  refine mm_Es (fun _ _ => mm_iload_n dX10_bestCounter_3 rfl rfl) ?_
  refine mm_Es (fun _ _ => mm_cV (Y1 := YX10_canDeal) dX10_bestCounter_4 lX10_237 vX10_canDeal (N1) sh_0 rfl rfl (by simp [Value.category])) ?_
  refine mm_Eb (fun _ _ => mm_if_eq 23 dX10_bestCounter_7 (by decide)) (fun c_7 => ?_) (fun c_7 => ?_)
  · exact absurd (by exact ⟨⟨by rw [nI_toInt (by omega)]; omega, by rw [nI_toInt (by omega)]; omega⟩, hd⟩) (bI_e0.mp c_7)
  · refine mm_Es (fun _ _ => mm_iload dX10_bestCounter_10 rfl) ?_
    refine mm_Eb (fun _ _ => mm_if_lt 23 dX10_bestCounter_12 (by decide)) (fun c_12 => ?_) (fun c_12 => ?_)
    · exact absurd c_12 (by rw [Int32.lt_iff_toInt_lt, ti_0, nI_toInt (by omega)]; omega)
    · refine mm_Es (fun _ _ => mm_iload dX10_bestCounter_15 rfl) ?_
      refine mm_Es (fun _ _ => mm_sipush (x := 999) dX10_bestCounter_17 (by decide)) ?_
      refine mm_Eb (fun _ _ => mm_icmp_le 25 dX10_bestCounter_20 (by decide)) (fun c_20 => ?_) (fun c_20 => ?_)
      · refine mm_Es (fun _ _ => mm_iconst (x := (-1)) dX10_bestCounter_25 (by decide)) ?_
        refine mm_Es (fun _ _ => mm_istore dX10_bestCounter_26 (by decide) rfl) ?_
        refine mm_Es (fun _ _ => mm_iconst (x := (-1)) dX10_bestCounter_28 (by decide)) ?_
        refine mm_Es (fun _ _ => mm_istore dX10_bestCounter_29 (by decide) rfl) ?_
        refine mm_Es (fun _ _ => mm_iconst (x := 0) dX10_bestCounter_31 (by decide)) ?_
        refine mm_Es (fun _ _ => mm_istore dX10_bestCounter_32 (by decide) rfl) ?_
        exact K
      · exact absurd (nI_le (b := 999) hp9 (by omega)) c_20
set_option maxRecDepth 100000 in
set_option maxHeartbeats 4000000 in
theorem mX11_manyPrices (d : Nat) (h : mm_H) (A : MD) (hA : mdOK A) (hV : viewM h A) (Q : LD) (r : Nat) (hr : r < 6) (hQ : lawOK Q) (hM : lawM h.1 r Q) (k : Nat) (hk : k < mk A) (one other : Int32) (hne : ¬ one = other) (p : Nat) (hp9 : p ≤ 999) : ∃ g, mm_M (d + 10) YX11_manyPrices [.ref 165, .int (nI r), .int (nI k), .int one, .int other, .int (nI p)] h (some (.int (nI (prc_n A Q k one other p)))) g ∧ mfr h g := by
  suffices hE : mm_E (d + 10) YX11_manyPrices 0 [some (.ref 165), some (.int (nI r)), some (.int (nI k)), some (.int one), some (.int other), some (.int (nI p)), none, none] [] h (fun v g => v = some (.int (nI (prc_n A Q k one other p))) ∧ mfr h g) by
    obtain ⟨v, g, hR, rfl, h1⟩ := hE
    exact ⟨g, mm_M.of _ rfl rfl (Nat.le_of_ble_eq_true rfl) hR, h1⟩
  have K42 : ∀ g, mfr h g → (∀ x, x < 12000 → (prA A Q k one other x → g.1 206 x = 1) ∧ (¬ prA A Q k one other x → g.1 206 x = 0)) → ∀ m i, i + m = p → ∀ N, N = cnP (prA A Q k one other) i → mm_E (d + 10) YX11_manyPrices 42 [some (.ref 165), some (.int (nI r)), some (.int (nI k)), some (.int one), some (.int other), some (.int (nI p)), some (.int (nI N)), some (.int (nI (i + 1)))] [] g (fun v g => v = some (.int (nI (prc_n A Q k one other p))) ∧ mfr h g) := by
    intro g fg hg m
    induction m with
    | zero =>
      intro i hi N hN
      have hi : i = p := by omega
      subst hi
      refine mm_Es (fun _ _ => mm_iload dX11_manyPrices_42 rfl) ?_
      refine mm_Es (fun _ _ => mm_iload dX11_manyPrices_44 rfl) ?_
      refine mm_Eb (fun _ _ => mm_icmp_gt 75 dX11_manyPrices_46 (by decide)) (fun c_46 => ?_) (fun c_46 => ?_)
      · refine mm_Es (fun _ _ => mm_iload dX11_manyPrices_75 rfl) ?_
        refine mm_Er (mm_ireturn dX11_manyPrices_77 rfl) ?_
        exact ⟨by rw [hN]; rfl, fg⟩
      · exact absurd (nI_lt (by omega) (by omega)) c_46
    | succ m ih =>
      intro i hi N hN
      by_cases hq : prA A Q k one other (i + 1)
      · have e1 : g.1 206 (i + 1) = 1 := (hg (i + 1) (by omega)).1 hq
        have K := ih (i + 1) (by omega) (N + 1) (by rw [cnP_y hq, hN])
        refine mm_Es (fun _ _ => mm_iload dX11_manyPrices_42 rfl) ?_
        refine mm_Es (fun _ _ => mm_iload dX11_manyPrices_44 rfl) ?_
        refine mm_Eb (fun _ _ => mm_icmp_gt 75 dX11_manyPrices_46 (by decide)) (fun c_46 => ?_) (fun c_46 => ?_)
        · exact absurd c_46 (nI_nlt (by omega) (by omega))
        · refine mm_Es (fun _ _ => mm_iload dX11_manyPrices_49 rfl) ?_
          refine mm_Es (fun _ _ => mm_aload_n dX11_manyPrices_51 rfl rfl) ?_
          refine mm_Es (fun _ _ => mm_getS dX11_manyPrices_52 fX11_138 sh_165 rfl gr_165_54) ?_
          refine mm_Es (fun _ _ => mm_iload dX11_manyPrices_55 rfl) ?_
          refine mm_Es (fun _ _ => mm_zald ((i + 1)) dX11_manyPrices_57 sh_206 rfl (by omega)) ?_
          refine mm_Eb (fun _ _ => mm_if_eq 65 dX11_manyPrices_58 (by decide)) (fun c_58 => ?_) (fun c_58 => ?_)
          · exact absurd (e1.symm.trans c_58) (by decide)
          · refine mm_Es (fun _ _ => mm_iconst (x := 1) dX11_manyPrices_61 (by decide)) ?_
            refine mm_Es (fun _ _ => mm_goto 66 dX11_manyPrices_62 (by decide)) ?_
            refine mm_Es (fun _ _ => mm_iadd dX11_manyPrices_66) ?_
            refine mm_Es (fun _ _ => mm_cast (st' := [.int (nI (N + 1))]) rfl (by rw [nI_succ]) rfl) ?_
            refine mm_Es (fun _ _ => mm_istore dX11_manyPrices_67 (by decide) rfl) ?_
            refine mm_Es (fun _ _ => mm_iinc dX11_manyPrices_69 rfl (nI_inc (i + 1)) rfl) ?_
            refine mm_Es (fun _ _ => mm_goto 42 dX11_manyPrices_72 (by decide)) ?_
            exact K
      · have e1 : g.1 206 (i + 1) = 0 := (hg (i + 1) (by omega)).2 hq
        have K := ih (i + 1) (by omega) N (by rw [cnP_n hq, hN])
        refine mm_Es (fun _ _ => mm_iload dX11_manyPrices_42 rfl) ?_
        refine mm_Es (fun _ _ => mm_iload dX11_manyPrices_44 rfl) ?_
        refine mm_Eb (fun _ _ => mm_icmp_gt 75 dX11_manyPrices_46 (by decide)) (fun c_46 => ?_) (fun c_46 => ?_)
        · exact absurd c_46 (nI_nlt (by omega) (by omega))
        · refine mm_Es (fun _ _ => mm_iload dX11_manyPrices_49 rfl) ?_
          refine mm_Es (fun _ _ => mm_aload_n dX11_manyPrices_51 rfl rfl) ?_
          refine mm_Es (fun _ _ => mm_getS dX11_manyPrices_52 fX11_138 sh_165 rfl gr_165_54) ?_
          refine mm_Es (fun _ _ => mm_iload dX11_manyPrices_55 rfl) ?_
          refine mm_Es (fun _ _ => mm_zald ((i + 1)) dX11_manyPrices_57 sh_206 rfl (by omega)) ?_
          refine mm_Eb (fun _ _ => mm_if_eq 65 dX11_manyPrices_58 (by decide)) (fun c_58 => ?_) (fun c_58 => ?_)
          · refine mm_Es (fun _ _ => mm_iconst (x := 0) dX11_manyPrices_65 (by decide)) ?_
            refine mm_Es (fun _ _ => mm_iadd dX11_manyPrices_66) ?_
            refine mm_Es (fun _ _ => mm_cast (st' := [.int (nI N)]) rfl (by rw [add0]) rfl) ?_
            refine mm_Es (fun _ _ => mm_istore dX11_manyPrices_67 (by decide) rfl) ?_
            refine mm_Es (fun _ _ => mm_iinc dX11_manyPrices_69 rfl (nI_inc (i + 1)) rfl) ?_
            refine mm_Es (fun _ _ => mm_goto 42 dX11_manyPrices_72 (by decide)) ?_
            exact K
          · exact absurd e1 c_58
  have K3 : ∀ m i, i + m = 12000 → ∀ gg, frm (onep 206) h gg → (∀ x, x < i → gg.1 206 x = 0) → mm_E (d + 10) YX11_manyPrices 3 [some (.ref 165), some (.int (nI r)), some (.int (nI k)), some (.int one), some (.int other), some (.int (nI p)), some (.int (nI i)), none] [] gg (fun v g => v = some (.int (nI (prc_n A Q k one other p))) ∧ mfr h g) := by
    intro m
    induction m with
    | zero =>
      intro i hi gg fg S
      have hi : i = 12000 := by omega
      subst hi
      have f1 : mfr h gg := ⟨fg.mono (fun c hc => by have := pMs_g hc; simp only [onep, beq_eq_false_iff_ne]; omega), fun j _ => by rw [fg.i rfl]⟩
      have hV2 := viewM_f hV f1.1 (fun c hc => pMs_f (by omega) (by omega))
      obtain ⟨g, M2, b1, b2, b3, b4⟩ := mX11_pays d gg A hA hV2 Q r hr hQ (lawM_f hM f1.1 (fun c h1 h2 => pMs_f (by omega) (by omega))) k hk one other (-1) hne
      have K := K42 g (f1.trans b1) (fun x hx => ⟨fun z => (b4 x hx).1 z, fun z => by rw [(b4 x hx).2 z]; exact S x hx⟩) p 0 (by omega) 0 rfl
      refine mm_Es (fun _ _ => mm_iload dX11_manyPrices_3 rfl) ?_
      refine mm_Es (fun _ _ => mm_sipush (x := 12000) dX11_manyPrices_5 (by decide)) ?_
      refine mm_Eb (fun _ _ => mm_icmp_ge 25 dX11_manyPrices_8 (by decide)) (fun c_8 => ?_) (fun c_8 => ?_)
      · refine mm_Es (fun _ _ => mm_aload_n dX11_manyPrices_25 rfl rfl) ?_
        refine mm_Es (fun _ _ => mm_iload_n dX11_manyPrices_26 rfl rfl) ?_
        refine mm_Es (fun _ _ => mm_iload_n dX11_manyPrices_27 rfl rfl) ?_
        refine mm_Es (fun _ _ => mm_iload_n dX11_manyPrices_28 rfl rfl) ?_
        refine mm_Es (fun _ _ => mm_iload dX11_manyPrices_29 rfl) ?_
        refine mm_Es (fun _ _ => mm_iconst (x := (-1)) dX11_manyPrices_31 (by decide)) ?_
        refine mm_Es (fun _ _ => mm_cV (Y1 := YX11_pays) dX11_manyPrices_32 lX11_477 vX11_pays (M2) sh_165 rfl rfl (by simp [Value.category])) ?_
        refine mm_Es (fun _ _ => mm_pop dX11_manyPrices_35 rfl) ?_
        refine mm_Es (fun _ _ => mm_iconst (x := 0) dX11_manyPrices_36 (by decide)) ?_
        refine mm_Es (fun _ _ => mm_istore dX11_manyPrices_37 (by decide) rfl) ?_
        refine mm_Es (fun _ _ => mm_iconst (x := 1) dX11_manyPrices_39 (by decide)) ?_
        refine mm_Es (fun _ _ => mm_istore dX11_manyPrices_40 (by decide) rfl) ?_
        exact K
      · exact absurd (by decide) c_8
    | succ m ih =>
      intro i hi gg fg S
      have K := ih (i + 1) (by omega) (mm_up gg.1 206 i 0, gg.2.1, gg.2.2) (fg.up (c := 206) rfl) (fun x hx => by
        dsimp only
        by_cases z : x = i
        · subst z; rw [mm_up_e]
        · rw [mm_up_k z]; exact S x (by omega))
      refine mm_Es (fun _ _ => mm_iload dX11_manyPrices_3 rfl) ?_
      refine mm_Es (fun _ _ => mm_sipush (x := 12000) dX11_manyPrices_5 (by decide)) ?_
      refine mm_Eb (fun _ _ => mm_icmp_ge 25 dX11_manyPrices_8 (by decide)) (fun c_8 => ?_) (fun c_8 => ?_)
      · exact absurd c_8 (nI_ge (b := 12000) (by omega) (by omega))
      · refine mm_Es (fun _ _ => mm_aload_n dX11_manyPrices_11 rfl rfl) ?_
        refine mm_Es (fun _ _ => mm_getS dX11_manyPrices_12 fX11_138 sh_165 rfl gr_165_54) ?_
        refine mm_Es (fun _ _ => mm_iload dX11_manyPrices_15 rfl) ?_
        refine mm_Es (fun _ _ => mm_iconst (x := 0) dX11_manyPrices_17 (by decide)) ?_
        refine mm_Es (fun _ _ => mm_zast (i) dX11_manyPrices_18 sh_206 rfl (by omega) rfl) ?_
        refine mm_Es (fun _ _ => mm_iinc dX11_manyPrices_19 rfl (nI_inc i) rfl) ?_
        refine mm_Es (fun _ _ => mm_goto 3 dX11_manyPrices_22 (by decide)) ?_
        exact K
  have K := K3 12000 0 rfl h (frm.refl _ _) (fun x hx => by omega)
  refine mm_Es (fun _ _ => mm_iconst (x := 0) dX11_manyPrices_0 (by decide)) ?_
  refine mm_Es (fun _ _ => mm_istore dX11_manyPrices_1 (by decide) rfl) ?_
  exact K
set_option maxRecDepth 100000 in
set_option maxHeartbeats 4000000 in
theorem mX11_prices_n (d : Nat) (h : mm_H) (A : MD) (LQ : Nat → LD) (nl : Nat) (S : stM A LQ nl h) (r k a b p : Int32) (hb : ¬ (dealP A nl r k a b ∧ (0 ≤ p.toInt ∧ p.toInt ≤ 999))) : mm_M (d + 3) YX11_prices [.ref 165, .int r, .int k, .int a, .int b, .int p] h (some (.int (-1))) h := by
  refine mm_M.of [some (.ref 165), some (.int r), some (.int k), some (.int a), some (.int b), some (.int p)] rfl rfl (Nat.le_of_ble_eq_true rfl) ?_
  refine mm_aload_n dX11_prices_0 rfl rfl ?_
  refine mm_iload_n dX11_prices_1 rfl rfl ?_
  refine mm_iload_n dX11_prices_2 rfl rfl ?_
  refine mm_iload_n dX11_prices_3 rfl rfl ?_
  refine mm_iload dX11_prices_4 rfl ?_
  refine mm_cV (Y1 := YX11_isPay) dX11_prices_6 lX11_473 vX11_isPay (mX11_isPay d h nl (mk A) S.2.2.1 S.2.2.2.1 S.2.1.2.1 S.1.2.1 r k a b) sh_165 rfl rfl (by simp [Value.category]) ?_
  refine mm_if_eq 25 dX11_prices_9 (by decide) (fun c_9 => ?_) (fun c_9 => ?_)
  · refine mm_iconst (x := (-1)) dX11_prices_25 (by decide) ?_
    refine mm_goto 40 dX11_prices_26 (by decide) ?_
    exact mm_iretE dX11_prices_40 rfl rfl rfl
  · refine mm_iload dX11_prices_12 rfl ?_
    refine mm_i2l dX11_prices_14 rfl ?_
    refine mm_lconst (x := 0) dX11_prices_15 (by decide) ?_
    refine mm_ldc2 dX11_prices_16 kX11_481 ?_
    refine mm_cS (Y1 := YX11_in) dX11_prices_19 lX11_171 sX11_in (mX11_in (d + 2) h _ _ _) rfl rfl (by simp [Value.category]) ?_
    refine mm_if_ne 29 dX11_prices_22 (by decide) (fun c_22 => ?_) (fun c_22 => ?_)
    · exact absurd ⟨bI_n0.mp c_9, by have q := bI_n0.mp c_22; rw [i64_toInt, li_0, li_999] at q; exact q⟩ hb
    · refine mm_iconst (x := (-1)) dX11_prices_25 (by decide) ?_
      refine mm_goto 40 dX11_prices_26 (by decide) ?_
      exact mm_iretE dX11_prices_40 rfl rfl rfl
set_option maxRecDepth 100000 in
set_option maxHeartbeats 4000000 in
theorem mX11_prices_y (d : Nat) (h : mm_H) (A : MD) (LQ : Nat → LD) (nl : Nat) (S : stM A LQ nl h) (r k : Nat) (hr : r < nl) (hk : k < mk A) (one other : Int32) (hd : dealN one other) (p : Nat) (hp9 : p ≤ 999) : ∃ g, mm_M (d + 11) YX11_prices [.ref 165, .int (nI r), .int (nI k), .int one, .int other, .int (nI p)] h (some (.int (nI (prc_n A (LQ r) k one other p)))) g ∧ mfr h g := by
  have N1 := mX11_isPay (d + 8) h nl (mk A) S.2.2.1 S.2.2.2.1 S.2.1.2.1 S.1.2.1 (nI r) (nI k) one other
  obtain ⟨hA, hV, h6, hn6, hL⟩ := S
  have h12 := hA.1
  have h4 := hA.2.1
  have hp := p2_lt h12
  obtain ⟨g2, M2, b1⟩ := mX11_manyPrices d h A hA hV (LQ r) r (by omega) (hL r hr).1 (hL r hr).2 k hk one other hd.2.2 p hp9
  refine ⟨g2, ?_, b1⟩
  refine mm_M.of [some (.ref 165), some (.int (nI r)), some (.int (nI k)), some (.int one), some (.int other), some (.int (nI p))] rfl rfl (Nat.le_of_ble_eq_true rfl) ?_
  refine mm_aload_n dX11_prices_0 rfl rfl ?_
  refine mm_iload_n dX11_prices_1 rfl rfl ?_
  refine mm_iload_n dX11_prices_2 rfl rfl ?_
  refine mm_iload_n dX11_prices_3 rfl rfl ?_
  refine mm_iload dX11_prices_4 rfl ?_
  refine mm_cV (Y1 := YX11_isPay) dX11_prices_6 lX11_473 vX11_isPay (N1) sh_165 rfl rfl (by simp [Value.category]) ?_
  refine mm_if_eq 25 dX11_prices_9 (by decide) (fun c_9 => ?_) (fun c_9 => ?_)
  · exact absurd ⟨⟨by rw [nI_toInt (by omega)]; omega, by rw [nI_toInt (by omega)]; omega⟩, ⟨by rw [nI_toInt (by omega)]; omega, by rw [nI_toInt (by omega)]; omega⟩, hd⟩ (bI_e0.mp c_9)
  · refine mm_iload dX11_prices_12 rfl ?_
    refine mm_i2l dX11_prices_14 rfl ?_
    refine mm_lconst (x := 0) dX11_prices_15 (by decide) ?_
    refine mm_ldc2 dX11_prices_16 kX11_481 ?_
    refine mm_cS (Y1 := YX11_in) dX11_prices_19 lX11_171 sX11_in (mX11_in (d + 10) h _ _ _) rfl rfl (by simp [Value.category]) ?_
    refine mm_if_ne 29 dX11_prices_22 (by decide) (fun c_22 => ?_) (fun c_22 => ?_)
    · refine mm_aload_n dX11_prices_29 rfl rfl ?_
      refine mm_iload_n dX11_prices_30 rfl rfl ?_
      refine mm_iload_n dX11_prices_31 rfl rfl ?_
      refine mm_iload_n dX11_prices_32 rfl rfl ?_
      refine mm_iload dX11_prices_33 rfl ?_
      refine mm_iload dX11_prices_35 rfl ?_
      refine mm_cV (Y1 := YX11_manyPrices) dX11_prices_37 lX11_483 vX11_manyPrices (M2) sh_165 rfl rfl (by simp [Value.category]) ?_
      exact mm_iretE dX11_prices_40 rfl rfl rfl
    · exact absurd (by rw [i64_toInt, li_0, li_999, nI_toInt (by omega)]; omega) (bI_e0.mp c_22)
set_option maxRecDepth 100000 in
set_option maxHeartbeats 4000000 in
theorem mX11_bestCounter_n (d : Nat) (h : mm_H) (A : MD) (LQ : Nat → LD) (nl : Nat) (S : stM A LQ nl h) (r a b p : Int32) (hb : ¬ ((((0 ≤ r.toInt ∧ r.toInt < nl) ∧ 0 < mk A) ∧ dealN a b) ∧ (0 ≤ p.toInt ∧ p.toInt ≤ 999))) : mm_M (d + 3) YX11_bestCounter [.ref 165, .int r, .int a, .int b, .int p] h (some (.int (-1))) h := by
  refine mm_M.of [some (.ref 165), some (.int r), some (.int a), some (.int b), some (.int p), none, none, none, none] rfl rfl (Nat.le_of_ble_eq_true rfl) ?_
  refine mm_aload_n dX11_bestCounter_0 rfl rfl ?_
  refine mm_iload_n dX11_bestCounter_1 rfl rfl ?_
  refine mm_iconst (x := 0) dX11_bestCounter_2 (by decide) ?_
  refine mm_iload_n dX11_bestCounter_3 rfl rfl ?_
  refine mm_iload_n dX11_bestCounter_4 rfl rfl ?_
  refine mm_cV (Y1 := YX11_isPay) dX11_bestCounter_5 lX11_473 vX11_isPay (mX11_isPay d h nl (mk A) S.2.2.1 S.2.2.2.1 S.2.1.2.1 S.1.2.1 r 0 a b) sh_165 rfl rfl (by simp [Value.category]) ?_
  refine mm_if_eq 24 dX11_bestCounter_8 (by decide) (fun c_8 => ?_) (fun c_8 => ?_)
  · refine mm_iconst (x := (-1)) dX11_bestCounter_24 (by decide) ?_
    exact mm_iretE dX11_bestCounter_25 rfl rfl rfl
  · refine mm_iload dX11_bestCounter_11 rfl ?_
    refine mm_i2l dX11_bestCounter_13 rfl ?_
    refine mm_lconst (x := 0) dX11_bestCounter_14 (by decide) ?_
    refine mm_ldc2 dX11_bestCounter_15 kX11_481 ?_
    refine mm_cS (Y1 := YX11_in) dX11_bestCounter_18 lX11_171 sX11_in (mX11_in (d + 2) h _ _ _) rfl rfl (by simp [Value.category]) ?_
    refine mm_if_ne 26 dX11_bestCounter_21 (by decide) (fun c_21 => ?_) (fun c_21 => ?_)
    · exact absurd (by have q1 := bI_n0.mp c_8; have q := bI_n0.mp c_21; rw [i64_toInt, li_0, li_999] at q; have q3 := q1.2.1; rw [ti_0] at q3; exact ⟨⟨⟨q1.1, by omega⟩, q1.2.2⟩, q⟩) hb
    · refine mm_iconst (x := (-1)) dX11_bestCounter_24 (by decide) ?_
      exact mm_iretE dX11_bestCounter_25 rfl rfl rfl
set_option maxRecDepth 100000 in
set_option maxHeartbeats 4000000 in
theorem mX11_bestCounter_y (d : Nat) (h : mm_H) (A : MD) (LQ : Nat → LD) (nl : Nat) (S : stM A LQ nl h) (h0 : 0 < mk A) (r : Nat) (hr : r < nl) (one other : Int32) (hd : dealN one other) (p : Nat) (hp9 : p ≤ 999) : ∃ g, mm_M (d + 11) YX11_bestCounter [.ref 165, .int (nI r), .int one, .int other, .int (nI p)] h (some (.int (bcV 0 (fun c => prc_n A (LQ r) c one other p) (mk A)).1)) g ∧ mfr h g := by
  suffices hE : mm_E (d + 11) YX11_bestCounter 0 [some (.ref 165), some (.int (nI r)), some (.int one), some (.int other), some (.int (nI p)), none, none, none, none] [] h (fun v g => v = some (.int (bcV 0 (fun c => prc_n A (LQ r) c one other p) (mk A)).1) ∧ mfr h g) by
    obtain ⟨v, g, hR, rfl, h1⟩ := hE
    exact ⟨g, mm_M.of _ rfl rfl (Nat.le_of_ble_eq_true rfl) hR, h1⟩
  have S0 := S
  have N1 := mX11_isPay (d + 8) h nl (mk A) S.2.2.1 S.2.2.2.1 S.2.1.2.1 S.1.2.1 (nI r) 0 one other
  obtain ⟨hA, hV, h6, hn6, hL⟩ := S
  have h12 := hA.1
  have h4 := hA.2.1
  have hp := p2_lt h12
  have K35 : ∀ m i, i + m = mk A → ∀ gg, mfr h gg → ∀ x8, mm_E (d + 11) YX11_bestCounter 35 [some (.ref 165), some (.int (nI r)), some (.int one), some (.int other), some (.int (nI p)), some (.int (bcV 0 (fun c => prc_n A (LQ r) c one other p) i).1), some (.int (bcV 0 (fun c => prc_n A (LQ r) c one other p) i).2), some (.int (nI i)), x8] [] gg (fun v g => v = some (.int (bcV 0 (fun c => prc_n A (LQ r) c one other p) (mk A)).1) ∧ mfr h g) := by
    intro m
    induction m with
    | zero =>
      intro i hi gg cf x8
      have hi : i = mk A := by omega
      subst hi
      have e166 : gg.1 166 1 = nI (mk A) := (S0.next cf).2.1.2.1
      refine mm_Es (fun _ _ => mm_iload dX11_bestCounter_35 rfl) ?_
      refine mm_Es (fun _ _ => mm_aload_n dX11_bestCounter_37 rfl rfl) ?_
      refine mm_Es (fun _ _ => mm_getS dX11_bestCounter_38 fX11_9 sh_165 rfl gr_165_1) ?_
      refine mm_Es (fun _ _ => mm_iconst (x := 1) dX11_bestCounter_41 (by decide)) ?_
      refine mm_Es (fun _ _ => mm_iald (1) dX11_bestCounter_42 sh_166 rfl (by decide)) ?_
      refine mm_Eb (fun _ _ => mm_icmp_ge 97 dX11_bestCounter_43 (by decide)) (fun c_43 => ?_) (fun c_43 => ?_)
      · refine mm_Es (fun _ _ => mm_iload dX11_bestCounter_97 rfl) ?_
        refine mm_Er (mm_ireturn dX11_bestCounter_99 rfl) ?_
        exact ⟨rfl, cf⟩
      · exact absurd (by rw [e166]; exact Int32.le_refl _) c_43
    | succ m ih =>
      intro i hi gg cf x8
      have hin : i < mk A := by omega
      have Sg := S0.next cf
      have e166 : gg.1 166 1 = nI (mk A) := Sg.2.1.2.1
      obtain ⟨g2, M2, b1⟩ := mX11_manyPrices d gg A hA Sg.2.1 (LQ r) r (by omega) (hL r hr).1 (Sg.2.2.2.2 r hr).2 i hin one other hd.2.2 p hp9
      have K := ih (i + 1) (by omega) g2 (cf.trans b1)
      refine mm_Es (fun _ _ => mm_iload dX11_bestCounter_35 rfl) ?_
      refine mm_Es (fun _ _ => mm_aload_n dX11_bestCounter_37 rfl rfl) ?_
      refine mm_Es (fun _ _ => mm_getS dX11_bestCounter_38 fX11_9 sh_165 rfl gr_165_1) ?_
      refine mm_Es (fun _ _ => mm_iconst (x := 1) dX11_bestCounter_41 (by decide)) ?_
      refine mm_Es (fun _ _ => mm_iald (1) dX11_bestCounter_42 sh_166 rfl (by decide)) ?_
      refine mm_Eb (fun _ _ => mm_icmp_ge 97 dX11_bestCounter_43 (by decide)) (fun c_43 => ?_) (fun c_43 => ?_)
      · exact absurd (by rw [e166] at c_43; exact c_43) (nI_ge hin (by omega))
      · refine mm_Es (fun _ _ => mm_aload_n dX11_bestCounter_46 rfl rfl) ?_
        refine mm_Es (fun _ _ => mm_iload_n dX11_bestCounter_47 rfl rfl) ?_
        refine mm_Es (fun _ _ => mm_iload dX11_bestCounter_48 rfl) ?_
        refine mm_Es (fun _ _ => mm_iload_n dX11_bestCounter_50 rfl rfl) ?_
        refine mm_Es (fun _ _ => mm_iload_n dX11_bestCounter_51 rfl rfl) ?_
        refine mm_Es (fun _ _ => mm_iload dX11_bestCounter_52 rfl) ?_
        refine mm_Es (fun _ _ => mm_cV (Y1 := YX11_manyPrices) dX11_bestCounter_54 lX11_483 vX11_manyPrices (M2) sh_165 rfl rfl (by simp [Value.category])) ?_
        refine mm_Es (fun _ _ => mm_istore dX11_bestCounter_57 (by decide) rfl) ?_
        refine mm_Es (fun _ _ => mm_iload dX11_bestCounter_59 rfl) ?_
        refine mm_Es (fun _ _ => mm_iload dX11_bestCounter_61 rfl) ?_
        refine mm_Eb (fun _ _ => mm_icmp_le 71 dX11_bestCounter_63 (by decide)) (fun c_63 => ?_) (fun c_63 => ?_)
        · rw [bcV_n c_63] at K
          refine mm_Es (fun _ _ => mm_iload dX11_bestCounter_71 rfl) ?_
          refine mm_Es (fun _ _ => mm_istore dX11_bestCounter_73 (by decide) rfl) ?_
          refine mm_Es (fun _ _ => mm_iload dX11_bestCounter_75 rfl) ?_
          refine mm_Es (fun _ _ => mm_iload dX11_bestCounter_77 rfl) ?_
          refine mm_Eb (fun _ _ => mm_icmp_le 87 dX11_bestCounter_79 (by decide)) (fun c_79 => ?_) (fun c_79 => ?_)
          · first | skip | exact absurd c_79 c_63
            refine mm_Es (fun _ _ => mm_iload dX11_bestCounter_87 rfl) ?_
            refine mm_Es (fun _ _ => mm_istore dX11_bestCounter_89 (by decide) rfl) ?_
            refine mm_Es (fun _ _ => mm_iinc dX11_bestCounter_91 rfl (nI_inc i) rfl) ?_
            refine mm_Es (fun _ _ => mm_goto 35 dX11_bestCounter_94 (by decide)) ?_
            first | exact K _ | exact absurd c_79 c_63 | exact absurd c_63 c_79
          · first | skip | exact absurd c_63 c_79
            refine mm_Es (fun _ _ => mm_iload dX11_bestCounter_82 rfl) ?_
            refine mm_Es (fun _ _ => mm_goto 89 dX11_bestCounter_84 (by decide)) ?_
            refine mm_Es (fun _ _ => mm_istore dX11_bestCounter_89 (by decide) rfl) ?_
            refine mm_Es (fun _ _ => mm_iinc dX11_bestCounter_91 rfl (nI_inc i) rfl) ?_
            refine mm_Es (fun _ _ => mm_goto 35 dX11_bestCounter_94 (by decide)) ?_
            first | exact K _ | exact absurd c_79 c_63 | exact absurd c_63 c_79
        · rw [bcV_y c_63] at K
          refine mm_Es (fun _ _ => mm_iload dX11_bestCounter_66 rfl) ?_
          refine mm_Es (fun _ _ => mm_goto 73 dX11_bestCounter_68 (by decide)) ?_
          refine mm_Es (fun _ _ => mm_istore dX11_bestCounter_73 (by decide) rfl) ?_
          refine mm_Es (fun _ _ => mm_iload dX11_bestCounter_75 rfl) ?_
          refine mm_Es (fun _ _ => mm_iload dX11_bestCounter_77 rfl) ?_
          refine mm_Eb (fun _ _ => mm_icmp_le 87 dX11_bestCounter_79 (by decide)) (fun c_79 => ?_) (fun c_79 => ?_)
          · first | skip | exact absurd c_79 c_63
            refine mm_Es (fun _ _ => mm_iload dX11_bestCounter_87 rfl) ?_
            refine mm_Es (fun _ _ => mm_istore dX11_bestCounter_89 (by decide) rfl) ?_
            refine mm_Es (fun _ _ => mm_iinc dX11_bestCounter_91 rfl (nI_inc i) rfl) ?_
            refine mm_Es (fun _ _ => mm_goto 35 dX11_bestCounter_94 (by decide)) ?_
            first | exact K _ | exact absurd c_79 c_63 | exact absurd c_63 c_79
          · first | skip | exact absurd c_63 c_79
            refine mm_Es (fun _ _ => mm_iload dX11_bestCounter_82 rfl) ?_
            refine mm_Es (fun _ _ => mm_goto 89 dX11_bestCounter_84 (by decide)) ?_
            refine mm_Es (fun _ _ => mm_istore dX11_bestCounter_89 (by decide) rfl) ?_
            refine mm_Es (fun _ _ => mm_iinc dX11_bestCounter_91 rfl (nI_inc i) rfl) ?_
            refine mm_Es (fun _ _ => mm_goto 35 dX11_bestCounter_94 (by decide)) ?_
            first | exact K _ | exact absurd c_79 c_63 | exact absurd c_63 c_79
  have K := K35 (mk A) 0 (by omega) h (mfr.refl h) none
  refine mm_Es (fun _ _ => mm_aload_n dX11_bestCounter_0 rfl rfl) ?_
  refine mm_Es (fun _ _ => mm_iload_n dX11_bestCounter_1 rfl rfl) ?_
  refine mm_Es (fun _ _ => mm_iconst (x := 0) dX11_bestCounter_2 (by decide)) ?_
  refine mm_Es (fun _ _ => mm_iload_n dX11_bestCounter_3 rfl rfl) ?_
  refine mm_Es (fun _ _ => mm_iload_n dX11_bestCounter_4 rfl rfl) ?_
  refine mm_Es (fun _ _ => mm_cV (Y1 := YX11_isPay) dX11_bestCounter_5 lX11_473 vX11_isPay (N1) sh_165 rfl rfl (by simp [Value.category])) ?_
  refine mm_Eb (fun _ _ => mm_if_eq 24 dX11_bestCounter_8 (by decide)) (fun c_8 => ?_) (fun c_8 => ?_)
  · exact absurd ⟨⟨by rw [nI_toInt (by omega)]; omega, by rw [nI_toInt (by omega)]; omega⟩, by rw [ti_0]; omega, hd⟩ (bI_e0.mp c_8)
  · refine mm_Es (fun _ _ => mm_iload dX11_bestCounter_11 rfl) ?_
    refine mm_Es (fun _ _ => mm_i2l dX11_bestCounter_13 rfl) ?_
    refine mm_Es (fun _ _ => mm_lconst (x := 0) dX11_bestCounter_14 (by decide)) ?_
    refine mm_Es (fun _ _ => mm_ldc2 dX11_bestCounter_15 kX11_481) ?_
    refine mm_Es (fun _ _ => mm_cS (Y1 := YX11_in) dX11_bestCounter_18 lX11_171 sX11_in (mX11_in (d + 10) h _ _ _) rfl rfl (by simp [Value.category])) ?_
    refine mm_Ebn (fun _ _ => mm_if_ne 26 dX11_bestCounter_21 (by decide)) (fun c_21 => ?_) (fun c_21 => ?_)
    · refine mm_Es (fun _ _ => mm_iconst (x := 0) dX11_bestCounter_26 (by decide)) ?_
      refine mm_Es (fun _ _ => mm_istore dX11_bestCounter_27 (by decide) rfl) ?_
      refine mm_Es (fun _ _ => mm_iconst (x := (-1)) dX11_bestCounter_29 (by decide)) ?_
      refine mm_Es (fun _ _ => mm_istore dX11_bestCounter_30 (by decide) rfl) ?_
      refine mm_Es (fun _ _ => mm_iconst (x := 0) dX11_bestCounter_32 (by decide)) ?_
      refine mm_Es (fun _ _ => mm_istore dX11_bestCounter_33 (by decide) rfl) ?_
      exact K
    · exact absurd (by rw [i64_toInt, li_0, li_999, nI_toInt (by omega)]; omega) (bI_e0.mp c_21)
