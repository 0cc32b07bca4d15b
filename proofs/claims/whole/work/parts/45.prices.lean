/-! Prices that can be paid: the class. -/
/-- how many numbers from 1 to n have P -/
noncomputable def cnP (P : Nat → Prop) : Nat → Nat
  | 0 => 0
  | n + 1 => by
    classical
    exact cnP P n + (if P (n + 1) then 1 else 0)
theorem cnP_y {P : Nat → Prop} {n : Nat} (h : P (n + 1)) : cnP P (n + 1) = cnP P n + 1 := by
  simp only [cnP]; rw [if_pos h]
theorem cnP_n {P : Nat → Prop} {n : Nat} (h : ¬ P (n + 1)) : cnP P (n + 1) = cnP P n := by
  simp only [cnP]; rw [if_neg h]; rfl
theorem cnP_le {P : Nat → Prop} : ∀ n, cnP P n ≤ n := by
  intro n
  induction n with
  | zero => exact Nat.le_refl _
  | succ n ih =>
    by_cases h : P (n + 1)
    · rw [cnP_y h]; omega
    · rw [cnP_n h]; omega
theorem cnP_c {P Q : Nat → Prop} : ∀ n, (∀ x, 1 ≤ x → x ≤ n → (P x ↔ Q x)) → cnP P n = cnP Q n := by
  intro n
  induction n with
  | zero => intro _; rfl
  | succ n ih =>
    intro h
    have e := ih (fun x h1 h2 => h x h1 (by omega))
    have q := h (n + 1) (by omega) (Nat.le_refl _)
    by_cases c : P (n + 1)
    · rw [cnP_y c, cnP_y (q.mp c), e]
    · rw [cnP_n c, cnP_n (fun z => c (q.mpr z)), e]
theorem cnP_add {P Q : Nat → Prop} {y : Nat} : ∀ n, 1 ≤ y → y ≤ n → ¬ P y → (∀ x, 1 ≤ x → x ≤ n → (Q x ↔ P x ∨ x = y)) → cnP Q n = cnP P n + 1 := by
  intro n
  induction n with
  | zero => intro h1 h2; omega
  | succ n ih =>
    intro h1 h2 h3 h
    by_cases e : y = n + 1
    · subst e
      rw [cnP_y ((h _ h1 (Nat.le_refl _)).mpr (Or.inr rfl)), cnP_n h3, cnP_c n (fun x a b => (h x a (by omega)).trans ⟨fun z => z.elim id (fun q => by omega), Or.inl⟩)]
    · have q := ih h1 (by omega) h3 (fun x a b => h x a (by omega))
      have g := h (n + 1) (by omega) (Nat.le_refl _)
      by_cases c : P (n + 1)
      · rw [cnP_y c, cnP_y (g.mpr (Or.inl c)), q]
      · rw [cnP_n c, cnP_n (fun z => (g.mp z).elim c (fun w => e w.symm)), q]
/-- a price that one of the pairs so far comes to -/
def plx (wt : Nat → Int32) (La Lb : List Nat) (i j x : Nat) : Prop := ∃ i2 j2, i2 < La.length ∧ j2 < Lb.length ∧ (i2 < i ∨ (i2 = i ∧ j2 < j)) ∧ wt (La.getD i2 0) - wt (Lb.getD j2 0) = nI x
theorem plx_0 {wt : Nat → Int32} {La Lb : List Nat} {x : Nat} : ¬ plx wt La Lb 0 0 x := by
  rintro ⟨i2, j2, -, -, h | ⟨-, h⟩, -⟩ <;> omega
theorem plx_s {wt : Nat → Int32} {La Lb : List Nat} {i j x : Nat} (hi : i < La.length) (hj : j < Lb.length) : plx wt La Lb i (j + 1) x ↔ plx wt La Lb i j x ∨ wt (La.getD i 0) - wt (Lb.getD j 0) = nI x := by
  constructor
  · rintro ⟨i2, j2, a, b, c, e⟩
    by_cases z : i2 = i ∧ j2 = j
    · obtain ⟨rfl, rfl⟩ := z; exact Or.inr e
    · exact Or.inl ⟨i2, j2, a, b, by omega, e⟩
  · rintro (⟨i2, j2, a, b, c, e⟩ | e)
    · exact ⟨i2, j2, a, b, by omega, e⟩
    · exact ⟨i, j, hi, hj, by omega, e⟩
theorem plx_r {wt : Nat → Int32} {La Lb : List Nat} {i x : Nat} : plx wt La Lb i Lb.length x ↔ plx wt La Lb (i + 1) 0 x := by
  constructor
  · rintro ⟨i2, j2, a, b, c, e⟩; exact ⟨i2, j2, a, b, by omega, e⟩
  · rintro ⟨i2, j2, a, b, c, e⟩; exact ⟨i2, j2, a, b, by omega, e⟩
theorem plx_all {ch : Nat → List Int32} {wt : Nat → Int32} {W1 W2 : Nat} (h1 : W1 < 4096) (h2 : W2 < 4096) (x : Nat) : plx wt (safL ch wt W1) (safL ch wt W2) (safL ch wt W1).length 0 x ↔ prP wt (fun a b => safe ch wt W1 a ∧ safe ch wt W2 b) x := by
  constructor
  · rintro ⟨i, j, a, b, -, e⟩
    exact ⟨_, _, ⟨(safL_mem h1).2 _ (getD_mem a), (safL_mem h2).2 _ (getD_mem b)⟩, e⟩
  · rintro ⟨a, b, ⟨sa, sb⟩, e⟩
    obtain ⟨i, hi, ei⟩ := List.getElem_of_mem (safL_all sa)
    obtain ⟨j, hj, ej⟩ := List.getElem_of_mem (safL_all sb)
    refine ⟨i, j, hi, hj, Or.inl hi, ?_⟩
    rw [List.getD_eq_getElem?_getD, List.getD_eq_getElem?_getD, List.getElem?_eq_getElem hi, List.getElem?_eq_getElem hj, ei, ej]
    exact e
/-- the prices that can be paid -/
def prA (A : MD) (Q : LD) (k : Nat) (one other : Int32) : Nat → Prop := prP (wtA A) (fun a b => safe (chd A Q k) (wtA A) (hN (mr A 4) one (mn A)) a ∧ safe (chd A Q k) (wtA A) (hN (mr A 4) other (mn A)) b)
noncomputable def prc_n (A : MD) (Q : LD) (k : Nat) (one other : Int32) (p : Nat) : Nat := cnP (prA A Q k one other) p
theorem cnP_F : ∀ n, cnP (fun _ => False) n = 0 := by
  intro n
  induction n with
  | zero => rfl
  | succ n ih => rw [cnP_n (fun z => z)]; exact ih
set_option maxRecDepth 100000 in
set_option maxHeartbeats 4000000 in
theorem mX9_payablePrices (d : Nat) (h : mm_H) (A : MD) (hA : mdOK A) (Q : LD) (r : Nat) (hr : r < 6) (hQ : lawOK Q) (k : Nat) (hk : k < mk A) (hW : aimed A Q r k h) (G : Nat) (hG : gcn h G) (hGb : G + 2 < 2 ^ 31) (one other : Int32) (p : Nat) (hp9 : p ≤ 999) : ∃ g, mm_M (d + 6) YX9_payablePrices [.ref 155, .int one, .int other, .int (nI p)] h (some (.int (nI (prc_n A Q k one other p)))) g ∧ aimed A Q r k g ∧ gcn g (G + 2) ∧ tl_fr h g := by
  suffices hE : mm_E (d + 6) YX9_payablePrices 0 [some (.ref 155), some (.int one), some (.int other), some (.int (nI p)), none, none, none, none, none, none] [] h (fun v g => v = some (.int (nI (prc_n A Q k one other p))) ∧ aimed A Q r k g ∧ gcn g (G + 2) ∧ tl_fr h g) by
    obtain ⟨v, g, hR, rfl, h1⟩ := hE
    exact ⟨g, mm_M.of _ rfl rfl (Nat.le_of_ble_eq_true rfl) hR, h1⟩
  have h12 := hA.1
  have hp := p2_lt h12
  have ho := hN_lt (mr A 4) one (mn A)
  have ht := hN_lt (mr A 4) other (mn A)
  obtain ⟨g1, g2, g3, g, ⟨M1, M2, M3, M4⟩, MH, d1, d2, d3, d4, d5, lo, lt⟩ := collected d h A hA Q r hr hQ k hk hW G hG hGb one other
  obtain ⟨F, eF⟩ : ∃ F, F = prc_n A Q k one other p := ⟨_, rfl⟩
  have hPL : cnP (plx (wtA A) (safL (chd A Q k) (wtA A) (hN (mr A 4) one (mn A))) (safL (chd A Q k) (wtA A) (hN (mr A 4) other (mn A))) (safL (chd A Q k) (wtA A) (hN (mr A 4) one (mn A))).length 0) p = F := by rw [eF]; exact cnP_c p (fun x _ _ => plx_all (by omega) (by omega) x)
  rw [← eF]
  obtain ⟨WO, eWo⟩ : ∃ W, W = (hN (mr A 4) one (mn A)) := ⟨_, rfl⟩
  obtain ⟨WT, eWt⟩ : ∃ W, W = (hN (mr A 4) other (mn A)) := ⟨_, rfl⟩
  obtain ⟨La, eLa⟩ : ∃ l, l = (safL (chd A Q k) (wtA A) (hN (mr A 4) one (mn A))) := ⟨_, rfl⟩
  obtain ⟨Lb, eLb⟩ : ∃ l, l = (safL (chd A Q k) (wtA A) (hN (mr A 4) other (mn A))) := ⟨_, rfl⟩
  have hla : La.length ≤ 4096 ∧ ∀ i, i < La.length → sub (La.getD i 0) WO ∧ La.getD i 0 < 4096 := by
    rw [eLa, eWo]; exact ⟨(safL_mem (by omega)).1, fun i hi => saf_lt (n := 0) (by omega) hi⟩
  have hlb : Lb.length ≤ 4096 ∧ ∀ i, i < Lb.length → sub (Lb.getD i 0) WT ∧ Lb.getD i 0 < 4096 := by
    rw [eLb, eWt]; exact ⟨(safL_mem (by omega)).1, fun i hi => saf_lt (n := 0) (by omega) hi⟩
  rw [← eLa] at d4
  rw [← eLb] at d5
  rw [← eLa, ← eLb] at hPL
  rw [← eWo] at lo
  rw [← eWt] at lt
  have hn : ∀ t, sub t WO → t < 2 ^ mn A := fun t hs => by have := sub_le hs; omega
  have hn2 : ∀ t, sub t WT → t < 2 ^ mn A := fun t hs => by have := sub_le hs; omega
  have K101 : ∀ m i, i + m = La.length → ∀ gg, (frm (onep 158) g gg ∧ ∀ x, x < 1000 → ((1 ≤ x ∧ x ≤ p ∧ plx (wtA A) La Lb i 0 x) → gg.1 158 x = 1) ∧ (¬ (1 ≤ x ∧ x ≤ p ∧ plx (wtA A) La Lb i 0 x) → gg.1 158 x = 0)) → ∀ N, N = cnP (plx (wtA A) La Lb i 0) p → ∀ x8 x9, mm_E (d + 6) YX9_payablePrices 101 [some (.ref 155), some (.int one), some (.int other), some (.int (nI p)), some (.int (nI La.length)), some (.int (nI Lb.length)), some (.int (nI N)), some (.int (nI i)), x8, x9] [] gg (fun v g => v = some (.int (nI (F))) ∧ aimed A Q r k g ∧ gcn g (G + 2) ∧ tl_fr h g) := by
    intro m
    induction m with
    | zero =>
      intro i hi gg S N hN x8 x9
      have hi : i = La.length := by omega
      subst hi
      rw [hPL] at hN
      subst hN
      obtain ⟨fg, -⟩ := S
      have hpost : aimed A Q r k gg ∧ gcn gg (G + 2) ∧ tl_fr h gg := by
        refine ⟨aimed_o hr d1 fg (fun c hc => by simp [onep]; omega), gcn_c d2 (by rw [fg.i rfl]) (fg.i rfl) (fg.i rfl), d3.trans ⟨fg.mono (fun c hc => ?_), fun j _ _ => by rw [fg.i rfl]⟩⟩
        simp only [rg, decide_eq_false_iff_not] at hc
        simp [onep]; omega
      refine mm_Es (fun _ _ => mm_iload dX9_payablePrices_101 rfl) ?_
      refine mm_Es (fun _ _ => mm_iload dX9_payablePrices_103 rfl) ?_
      refine mm_Eb (fun _ _ => mm_icmp_ge 202 dX9_payablePrices_105 (by decide)) (fun c_105 => ?_) (fun c_105 => ?_)
      · refine mm_Es (fun _ _ => mm_iload dX9_payablePrices_202 rfl) ?_
        refine mm_Er (mm_ireturn dX9_payablePrices_204 rfl) ?_
        exact ⟨rfl, hpost⟩
      · exact absurd (Int32.le_refl _) c_105
    | succ m ih =>
      intro i hi gg S N hN x8 x9
      have hin : i < La.length := by omega
      obtain ⟨a, ea⟩ : ∃ a, a = La.getD i 0 := ⟨_, rfl⟩
      obtain ⟨ha1, ha2⟩ := hla.2 i hin
      rw [← ea] at ha1 ha2
      have e156 : g.1 156 i = nI a := by rw [ea]; exact d4 i hin
      have wa := d1.wt (hn a ha1) (lo a ha1)
      have K111 : ∀ m j, j + m = Lb.length → ∀ gg, (frm (onep 158) g gg ∧ ∀ x, x < 1000 → ((1 ≤ x ∧ x ≤ p ∧ plx (wtA A) La Lb i j x) → gg.1 158 x = 1) ∧ (¬ (1 ≤ x ∧ x ≤ p ∧ plx (wtA A) La Lb i j x) → gg.1 158 x = 0)) → ∀ N, N = cnP (plx (wtA A) La Lb i j) p → ∀ x9, mm_E (d + 6) YX9_payablePrices 111 [some (.ref 155), some (.int one), some (.int other), some (.int (nI p)), some (.int (nI La.length)), some (.int (nI Lb.length)), some (.int (nI N)), some (.int (nI i)), some (.int (nI j)), x9] [] gg (fun v g => v = some (.int (nI (F))) ∧ aimed A Q r k g ∧ gcn g (G + 2) ∧ tl_fr h g) := by
        intro m
        induction m with
        | zero =>
          intro j hj gg S N hN x9
          have hj : j = Lb.length := by omega
          subst hj
          have K := ih (i + 1) (by omega) gg ⟨S.1, fun x hx => by rw [← plx_r]; exact S.2 x hx⟩ N (by rw [hN]; exact cnP_c p (fun x _ _ => plx_r))
          refine mm_Es (fun _ _ => mm_iload dX9_payablePrices_111 rfl) ?_
          refine mm_Es (fun _ _ => mm_iload dX9_payablePrices_113 rfl) ?_
          refine mm_Eb (fun _ _ => mm_icmp_ge 196 dX9_payablePrices_115 (by decide)) (fun c_115 => ?_) (fun c_115 => ?_)
          · refine mm_Es (fun _ _ => mm_iinc dX9_payablePrices_196 rfl (nI_inc i) rfl) ?_
            refine mm_Es (fun _ _ => mm_goto 101 dX9_payablePrices_199 (by decide)) ?_
            exact K _ _
          · exact absurd (Int32.le_refl _) c_115
        | succ m ihm =>
          intro j hj gg S N hN x9
          have hjn : j < Lb.length := by omega
          obtain ⟨b, eb⟩ : ∃ b, b = Lb.getD j 0 := ⟨_, rfl⟩
          obtain ⟨hb1, hb2⟩ := hlb.2 j hjn
          rw [← eb] at hb1 hb2
          have e157 : g.1 157 j = nI b := by rw [eb]; exact d5 j hjn
          have wb := d1.wt (hn2 b hb1) (lt b hb1)
          obtain ⟨fg, s1⟩ := S
          have eg : ∀ c, c ≠ 158 → gg.1 c = g.1 c := fun c hc => fg.i (by simp [onep, hc])
          have hs : ∀ x, plx (wtA A) La Lb i (j + 1) x ↔ plx (wtA A) La Lb i j x ∨ wtA A a - wtA A b = nI x := fun x => by rw [ea, eb]; exact plx_s hin hjn
          by_cases hx : 1 ≤ (wtA A a - wtA A b).toInt ∧ (wtA A a - wtA A b).toInt ≤ p
          · obtain ⟨y, hy1, hy⟩ := nI_ex (x := wtA A a - wtA A b) (n := p + 1) ⟨by omega, by omega⟩
            have hy2 : 1 ≤ y := by rw [hy, nI_toInt (by omega)] at hx; omega
            have hxy : ∀ x, x < 1000 → (wtA A a - wtA A b = nI x ↔ x = y) := fun x h1 => by rw [hy, nI_eq (by omega) (by omega)]; exact eq_comm
            by_cases hq : plx (wtA A) La Lb i j y
            · have e1 : gg.1 158 y = 1 := (s1 y (by omega)).1 ⟨hy2, by omega, hq⟩
              have hs2 : ∀ x, x < 1000 → (plx (wtA A) La Lb i (j + 1) x ↔ plx (wtA A) La Lb i j x) := fun x h1 => by
                rw [hs x, hxy x h1]
                exact ⟨fun z => z.elim id (fun w => by rw [w]; exact hq), Or.inl⟩
              have K := ihm (j + 1) (by omega) gg ⟨fg, fun x h1 => by rw [hs2 x h1]; exact s1 x h1⟩ N (by rw [hN]; exact cnP_c p (fun x _ h1 => (hs2 x (by omega)).symm))
              refine mm_Es (fun _ _ => mm_iload dX9_payablePrices_111 rfl) ?_
              refine mm_Es (fun _ _ => mm_iload dX9_payablePrices_113 rfl) ?_
              refine mm_Eb (fun _ _ => mm_icmp_ge 196 dX9_payablePrices_115 (by decide)) (fun c_115 => ?_) (fun c_115 => ?_)
              · exact absurd c_115 (nI_ge hjn (by omega))
              · refine mm_Es (fun _ _ => mm_aload_n dX9_payablePrices_118 rfl rfl) ?_
                refine mm_Es (fun _ _ => mm_getS dX9_payablePrices_119 fX9_26 sh_155 rfl gr_155_1) ?_
                refine mm_Es (fun _ _ => mm_aload_n dX9_payablePrices_122 rfl rfl) ?_
                refine mm_Es (fun _ _ => mm_getS dX9_payablePrices_123 fX9_9 sh_155 rfl gr_155_2) ?_
                refine mm_Es (fun _ _ => mm_iload dX9_payablePrices_126 rfl) ?_
                refine mm_Es (fun _ _ => mm_iald (i) dX9_payablePrices_128 sh_156 rfl (by omega)) ?_
                refine mm_Es (fun _ _ => mm_cast (st' := [.int (nI a), .ref 135]) rfl (by rw [eg 156 (by decide), e156]) rfl) ?_
                refine mm_Es (fun _ _ => mm_cV (Y1 := YX0_worthOf) dX9_payablePrices_129 lX9_58 vX0_worthOf (mX0_worthOf (d + 5) gg a ha2) sh_135 rfl rfl (by simp [Value.category])) ?_
                refine mm_Es (fun _ _ => mm_aload_n dX9_payablePrices_132 rfl rfl) ?_
                refine mm_Es (fun _ _ => mm_getS dX9_payablePrices_133 fX9_26 sh_155 rfl gr_155_1) ?_
                refine mm_Es (fun _ _ => mm_aload_n dX9_payablePrices_136 rfl rfl) ?_
                refine mm_Es (fun _ _ => mm_getS dX9_payablePrices_137 fX9_15 sh_155 rfl gr_155_3) ?_
                refine mm_Es (fun _ _ => mm_iload dX9_payablePrices_140 rfl) ?_
                refine mm_Es (fun _ _ => mm_iald (j) dX9_payablePrices_142 sh_157 rfl (by omega)) ?_
                refine mm_Es (fun _ _ => mm_cast (st' := [.int (nI b), .ref 135, .int (wtA A a)]) rfl (by rw [eg 157 (by decide), e157, eg 137 (by decide), wa]; rfl) rfl) ?_
                refine mm_Es (fun _ _ => mm_cV (Y1 := YX0_worthOf) dX9_payablePrices_143 lX9_58 vX0_worthOf (mX0_worthOf (d + 5) gg b hb2) sh_135 rfl rfl (by simp [Value.category])) ?_
                refine mm_Es (fun _ _ => mm_isub dX9_payablePrices_146) ?_
                refine mm_Es (fun _ _ => mm_cast (st' := [.int (wtA A a - wtA A b)]) rfl (by rw [eg 137 (by decide), wb]) rfl) ?_
                refine mm_Es (fun _ _ => mm_istore dX9_payablePrices_147 (by decide) rfl) ?_
                refine mm_Es (fun _ _ => mm_iload dX9_payablePrices_149 rfl) ?_
                refine mm_Es (fun _ _ => mm_iconst (x := 1) dX9_payablePrices_151 (by decide)) ?_
                refine mm_Eb (fun _ _ => mm_icmp_lt 190 dX9_payablePrices_152 (by decide)) (fun c_152 => ?_) (fun c_152 => ?_)
                · exfalso; rw [hy, Int32.lt_iff_toInt_lt, nI_toInt (by omega), ti_1] at c_152; omega
                · refine mm_Es (fun _ _ => mm_iload dX9_payablePrices_155 rfl) ?_
                  refine mm_Es (fun _ _ => mm_iload_n dX9_payablePrices_157 rfl rfl) ?_
                  refine mm_Eb (fun _ _ => mm_icmp_gt 190 dX9_payablePrices_158 (by decide)) (fun c_158 => ?_) (fun c_158 => ?_)
                  · exfalso; rw [hy] at c_158; exact absurd c_158 (nI_nlt (by omega) (by omega))
                  · refine mm_Es (fun _ _ => mm_iload dX9_payablePrices_161 rfl) ?_
                    refine mm_Es (fun _ _ => mm_sipush (x := 999) dX9_payablePrices_163 (by decide)) ?_
                    refine mm_Eb (fun _ _ => mm_icmp_gt 190 dX9_payablePrices_166 (by decide)) (fun c_166 => ?_) (fun c_166 => ?_)
                    · exfalso; rw [hy] at c_166; exact absurd c_166 (nI_nlt (a := 999) (by omega) (by omega))
                    · refine mm_Es (fun _ _ => mm_aload_n dX9_payablePrices_169 rfl rfl) ?_
                      refine mm_Es (fun _ _ => mm_getS dX9_payablePrices_170 fX9_18 sh_155 rfl gr_155_4) ?_
                      refine mm_Es (fun _ _ => mm_iload dX9_payablePrices_173 rfl) ?_
                      refine mm_Es (fun _ _ => mm_zald (y) dX9_payablePrices_175 sh_158 hy (by omega)) ?_
                      refine mm_Ebn (fun _ _ => mm_if_ne 190 dX9_payablePrices_176 (by decide)) (fun c_176 => ?_) (fun c_176 => ?_)
                      · refine mm_Es (fun _ _ => mm_iinc dX9_payablePrices_190 rfl (nI_inc j) rfl) ?_
                        refine mm_Es (fun _ _ => mm_goto 111 dX9_payablePrices_193 (by decide)) ?_
                        exact K _
                      · exact absurd (e1.symm.trans c_176) (by decide)
            · have e1 : gg.1 158 y = 0 := (s1 y (by omega)).2 (fun z => hq z.2.2)
              have K := ihm (j + 1) (by omega) (mm_up gg.1 158 y 1, gg.2.1, gg.2.2) ⟨fg.up (c := 158) rfl, fun x h1 => by
                dsimp only
                rw [hs x, hxy x h1]
                by_cases z : x = y
                · subst z
                  rw [mm_up_e]
                  exact ⟨fun _ => rfl, fun w => absurd ⟨hy2, by omega, Or.inr rfl⟩ w⟩
                · rw [mm_up_k z]
                  exact ⟨fun w => (s1 x h1).1 ⟨w.1, w.2.1, w.2.2.resolve_right z⟩, fun w => (s1 x h1).2 (fun u => w ⟨u.1, u.2.1, Or.inl u.2.2⟩)⟩⟩ (N + 1) (by rw [hN]; exact (cnP_add p hy2 (by omega) hq (fun x _ h1 => (hs x).trans (by rw [hxy x (by omega)]))).symm)
              refine mm_Es (fun _ _ => mm_iload dX9_payablePrices_111 rfl) ?_
              refine mm_Es (fun _ _ => mm_iload dX9_payablePrices_113 rfl) ?_
              refine mm_Eb (fun _ _ => mm_icmp_ge 196 dX9_payablePrices_115 (by decide)) (fun c_115 => ?_) (fun c_115 => ?_)
              · exact absurd c_115 (nI_ge hjn (by omega))
              · refine mm_Es (fun _ _ => mm_aload_n dX9_payablePrices_118 rfl rfl) ?_
                refine mm_Es (fun _ _ => mm_getS dX9_payablePrices_119 fX9_26 sh_155 rfl gr_155_1) ?_
                refine mm_Es (fun _ _ => mm_aload_n dX9_payablePrices_122 rfl rfl) ?_
                refine mm_Es (fun _ _ => mm_getS dX9_payablePrices_123 fX9_9 sh_155 rfl gr_155_2) ?_
                refine mm_Es (fun _ _ => mm_iload dX9_payablePrices_126 rfl) ?_
                refine mm_Es (fun _ _ => mm_iald (i) dX9_payablePrices_128 sh_156 rfl (by omega)) ?_
                refine mm_Es (fun _ _ => mm_cast (st' := [.int (nI a), .ref 135]) rfl (by rw [eg 156 (by decide), e156]) rfl) ?_
                refine mm_Es (fun _ _ => mm_cV (Y1 := YX0_worthOf) dX9_payablePrices_129 lX9_58 vX0_worthOf (mX0_worthOf (d + 5) gg a ha2) sh_135 rfl rfl (by simp [Value.category])) ?_
                refine mm_Es (fun _ _ => mm_aload_n dX9_payablePrices_132 rfl rfl) ?_
                refine mm_Es (fun _ _ => mm_getS dX9_payablePrices_133 fX9_26 sh_155 rfl gr_155_1) ?_
                refine mm_Es (fun _ _ => mm_aload_n dX9_payablePrices_136 rfl rfl) ?_
                refine mm_Es (fun _ _ => mm_getS dX9_payablePrices_137 fX9_15 sh_155 rfl gr_155_3) ?_
                refine mm_Es (fun _ _ => mm_iload dX9_payablePrices_140 rfl) ?_
                refine mm_Es (fun _ _ => mm_iald (j) dX9_payablePrices_142 sh_157 rfl (by omega)) ?_
                refine mm_Es (fun _ _ => mm_cast (st' := [.int (nI b), .ref 135, .int (wtA A a)]) rfl (by rw [eg 157 (by decide), e157, eg 137 (by decide), wa]; rfl) rfl) ?_
                refine mm_Es (fun _ _ => mm_cV (Y1 := YX0_worthOf) dX9_payablePrices_143 lX9_58 vX0_worthOf (mX0_worthOf (d + 5) gg b hb2) sh_135 rfl rfl (by simp [Value.category])) ?_
                refine mm_Es (fun _ _ => mm_isub dX9_payablePrices_146) ?_
                refine mm_Es (fun _ _ => mm_cast (st' := [.int (wtA A a - wtA A b)]) rfl (by rw [eg 137 (by decide), wb]) rfl) ?_
                refine mm_Es (fun _ _ => mm_istore dX9_payablePrices_147 (by decide) rfl) ?_
                refine mm_Es (fun _ _ => mm_iload dX9_payablePrices_149 rfl) ?_
                refine mm_Es (fun _ _ => mm_iconst (x := 1) dX9_payablePrices_151 (by decide)) ?_
                refine mm_Eb (fun _ _ => mm_icmp_lt 190 dX9_payablePrices_152 (by decide)) (fun c_152 => ?_) (fun c_152 => ?_)
                · exfalso; rw [hy, Int32.lt_iff_toInt_lt, nI_toInt (by omega), ti_1] at c_152; omega
                · refine mm_Es (fun _ _ => mm_iload dX9_payablePrices_155 rfl) ?_
                  refine mm_Es (fun _ _ => mm_iload_n dX9_payablePrices_157 rfl rfl) ?_
                  refine mm_Eb (fun _ _ => mm_icmp_gt 190 dX9_payablePrices_158 (by decide)) (fun c_158 => ?_) (fun c_158 => ?_)
                  · exfalso; rw [hy] at c_158; exact absurd c_158 (nI_nlt (by omega) (by omega))
                  · refine mm_Es (fun _ _ => mm_iload dX9_payablePrices_161 rfl) ?_
                    refine mm_Es (fun _ _ => mm_sipush (x := 999) dX9_payablePrices_163 (by decide)) ?_
                    refine mm_Eb (fun _ _ => mm_icmp_gt 190 dX9_payablePrices_166 (by decide)) (fun c_166 => ?_) (fun c_166 => ?_)
                    · exfalso; rw [hy] at c_166; exact absurd c_166 (nI_nlt (a := 999) (by omega) (by omega))
                    · refine mm_Es (fun _ _ => mm_aload_n dX9_payablePrices_169 rfl rfl) ?_
                      refine mm_Es (fun _ _ => mm_getS dX9_payablePrices_170 fX9_18 sh_155 rfl gr_155_4) ?_
                      refine mm_Es (fun _ _ => mm_iload dX9_payablePrices_173 rfl) ?_
                      refine mm_Es (fun _ _ => mm_zald (y) dX9_payablePrices_175 sh_158 hy (by omega)) ?_
                      refine mm_Ebn (fun _ _ => mm_if_ne 190 dX9_payablePrices_176 (by decide)) (fun c_176 => ?_) (fun c_176 => ?_)
                      · exact absurd e1 c_176
                      · refine mm_Es (fun _ _ => mm_aload_n dX9_payablePrices_179 rfl rfl) ?_
                        refine mm_Es (fun _ _ => mm_getS dX9_payablePrices_180 fX9_18 sh_155 rfl gr_155_4) ?_
                        refine mm_Es (fun _ _ => mm_iload dX9_payablePrices_183 rfl) ?_
                        refine mm_Es (fun _ _ => mm_iconst (x := 1) dX9_payablePrices_185 (by decide)) ?_
                        refine mm_Es (fun _ _ => mm_zast (y) dX9_payablePrices_186 sh_158 hy (by omega) rfl) ?_
                        refine mm_Es (fun _ _ => mm_iinc dX9_payablePrices_187 rfl (nI_inc N) rfl) ?_
                        refine mm_Es (fun _ _ => mm_iinc dX9_payablePrices_190 rfl (nI_inc j) rfl) ?_
                        refine mm_Es (fun _ _ => mm_goto 111 dX9_payablePrices_193 (by decide)) ?_
                        exact K _
          · have hxy : ∀ x, 1 ≤ x → x ≤ p → ¬ wtA A a - wtA A b = nI x := fun x h1 h2 z => by
              rw [z, nI_toInt (by omega)] at hx; omega
            have hs2 : ∀ x, 1 ≤ x → x ≤ p → (plx (wtA A) La Lb i (j + 1) x ↔ plx (wtA A) La Lb i j x) := fun x h1 h2 => by
              rw [hs x]
              exact ⟨fun z => z.elim id (fun w => absurd w (hxy x h1 h2)), Or.inl⟩
            have K := ihm (j + 1) (by omega) gg ⟨fg, fun x h1 => ⟨fun w => (s1 x h1).1 ⟨w.1, w.2.1, (hs2 x w.1 w.2.1).mp w.2.2⟩, fun w => (s1 x h1).2 (fun u => w ⟨u.1, u.2.1, (hs2 x u.1 u.2.1).mpr u.2.2⟩)⟩⟩ N (by rw [hN]; exact cnP_c p (fun x h0 h1 => (hs2 x h0 h1).symm))
            refine mm_Es (fun _ _ => mm_iload dX9_payablePrices_111 rfl) ?_
            refine mm_Es (fun _ _ => mm_iload dX9_payablePrices_113 rfl) ?_
            refine mm_Eb (fun _ _ => mm_icmp_ge 196 dX9_payablePrices_115 (by decide)) (fun c_115 => ?_) (fun c_115 => ?_)
            · exact absurd c_115 (nI_ge hjn (by omega))
            · refine mm_Es (fun _ _ => mm_aload_n dX9_payablePrices_118 rfl rfl) ?_
              refine mm_Es (fun _ _ => mm_getS dX9_payablePrices_119 fX9_26 sh_155 rfl gr_155_1) ?_
              refine mm_Es (fun _ _ => mm_aload_n dX9_payablePrices_122 rfl rfl) ?_
              refine mm_Es (fun _ _ => mm_getS dX9_payablePrices_123 fX9_9 sh_155 rfl gr_155_2) ?_
              refine mm_Es (fun _ _ => mm_iload dX9_payablePrices_126 rfl) ?_
              refine mm_Es (fun _ _ => mm_iald (i) dX9_payablePrices_128 sh_156 rfl (by omega)) ?_
              refine mm_Es (fun _ _ => mm_cast (st' := [.int (nI a), .ref 135]) rfl (by rw [eg 156 (by decide), e156]) rfl) ?_
              refine mm_Es (fun _ _ => mm_cV (Y1 := YX0_worthOf) dX9_payablePrices_129 lX9_58 vX0_worthOf (mX0_worthOf (d + 5) gg a ha2) sh_135 rfl rfl (by simp [Value.category])) ?_
              refine mm_Es (fun _ _ => mm_aload_n dX9_payablePrices_132 rfl rfl) ?_
              refine mm_Es (fun _ _ => mm_getS dX9_payablePrices_133 fX9_26 sh_155 rfl gr_155_1) ?_
              refine mm_Es (fun _ _ => mm_aload_n dX9_payablePrices_136 rfl rfl) ?_
              refine mm_Es (fun _ _ => mm_getS dX9_payablePrices_137 fX9_15 sh_155 rfl gr_155_3) ?_
              refine mm_Es (fun _ _ => mm_iload dX9_payablePrices_140 rfl) ?_
              refine mm_Es (fun _ _ => mm_iald (j) dX9_payablePrices_142 sh_157 rfl (by omega)) ?_
              refine mm_Es (fun _ _ => mm_cast (st' := [.int (nI b), .ref 135, .int (wtA A a)]) rfl (by rw [eg 157 (by decide), e157, eg 137 (by decide), wa]; rfl) rfl) ?_
              refine mm_Es (fun _ _ => mm_cV (Y1 := YX0_worthOf) dX9_payablePrices_143 lX9_58 vX0_worthOf (mX0_worthOf (d + 5) gg b hb2) sh_135 rfl rfl (by simp [Value.category])) ?_
              refine mm_Es (fun _ _ => mm_isub dX9_payablePrices_146) ?_
              refine mm_Es (fun _ _ => mm_cast (st' := [.int (wtA A a - wtA A b)]) rfl (by rw [eg 137 (by decide), wb]) rfl) ?_
              refine mm_Es (fun _ _ => mm_istore dX9_payablePrices_147 (by decide) rfl) ?_
              refine mm_Es (fun _ _ => mm_iload dX9_payablePrices_149 rfl) ?_
              refine mm_Es (fun _ _ => mm_iconst (x := 1) dX9_payablePrices_151 (by decide)) ?_
              refine mm_Eb (fun _ _ => mm_icmp_lt 190 dX9_payablePrices_152 (by decide)) (fun c_152 => ?_) (fun c_152 => ?_)
              · refine mm_Es (fun _ _ => mm_iinc dX9_payablePrices_190 rfl (nI_inc j) rfl) ?_
                refine mm_Es (fun _ _ => mm_goto 111 dX9_payablePrices_193 (by decide)) ?_
                exact K _
              · refine mm_Es (fun _ _ => mm_iload dX9_payablePrices_155 rfl) ?_
                refine mm_Es (fun _ _ => mm_iload_n dX9_payablePrices_157 rfl rfl) ?_
                refine mm_Eb (fun _ _ => mm_icmp_gt 190 dX9_payablePrices_158 (by decide)) (fun c_158 => ?_) (fun c_158 => ?_)
                · refine mm_Es (fun _ _ => mm_iinc dX9_payablePrices_190 rfl (nI_inc j) rfl) ?_
                  refine mm_Es (fun _ _ => mm_goto 111 dX9_payablePrices_193 (by decide)) ?_
                  exact K _
                · exfalso; rw [Int32.lt_iff_toInt_lt, ti_1] at c_152; rw [Int32.lt_iff_toInt_lt, nI_toInt (by omega)] at c_158; omega
      have K := K111 Lb.length 0 (by omega) gg S N hN
      refine mm_Es (fun _ _ => mm_iload dX9_payablePrices_101 rfl) ?_
      refine mm_Es (fun _ _ => mm_iload dX9_payablePrices_103 rfl) ?_
      refine mm_Eb (fun _ _ => mm_icmp_ge 202 dX9_payablePrices_105 (by decide)) (fun c_105 => ?_) (fun c_105 => ?_)
      · exact absurd c_105 (nI_ge hin (by omega))
      · refine mm_Es (fun _ _ => mm_iconst (x := 0) dX9_payablePrices_108 (by decide)) ?_
        refine mm_Es (fun _ _ => mm_istore dX9_payablePrices_109 (by decide) rfl) ?_
        exact K _
  have K73 : ∀ m i, i + m = 1000 → ∀ gg, frm (onep 158) g gg → (∀ x, x < i → gg.1 158 x = 0) → mm_E (d + 6) YX9_payablePrices 73 [some (.ref 155), some (.int one), some (.int other), some (.int (nI p)), some (.int (nI La.length)), some (.int (nI Lb.length)), some (.int (nI i)), none, none, none] [] gg (fun v g => v = some (.int (nI (F))) ∧ aimed A Q r k g ∧ gcn g (G + 2) ∧ tl_fr h g) := by
    intro m
    induction m with
    | zero =>
      intro i hi gg fg S
      have hi : i = 1000 := by omega
      subst hi
      have K := K101 La.length 0 (by omega) gg ⟨fg, fun x hx => ⟨fun z => absurd z.2.2 plx_0, fun _ => S x hx⟩⟩ 0 (by rw [show cnP (plx (wtA A) La Lb 0 0) p = cnP (fun _ => False) p from cnP_c p (fun x _ _ => ⟨fun z => plx_0 z, False.elim⟩)]; exact (cnP_F p).symm)
      refine mm_Es (fun _ _ => mm_iload dX9_payablePrices_73 rfl) ?_
      refine mm_Es (fun _ _ => mm_sipush (x := 999) dX9_payablePrices_75 (by decide)) ?_
      refine mm_Eb (fun _ _ => mm_icmp_gt 95 dX9_payablePrices_78 (by decide)) (fun c_78 => ?_) (fun c_78 => ?_)
      · refine mm_Es (fun _ _ => mm_iconst (x := 0) dX9_payablePrices_95 (by decide)) ?_
        refine mm_Es (fun _ _ => mm_istore dX9_payablePrices_96 (by decide) rfl) ?_
        refine mm_Es (fun _ _ => mm_iconst (x := 0) dX9_payablePrices_98 (by decide)) ?_
        refine mm_Es (fun _ _ => mm_istore dX9_payablePrices_99 (by decide) rfl) ?_
        exact K _ _
      · exact absurd (by decide) c_78
    | succ m ih =>
      intro i hi gg fg S
      have K := ih (i + 1) (by omega) (mm_up gg.1 158 i 0, gg.2.1, gg.2.2) (fg.up (c := 158) rfl) (fun x hx => by
        dsimp only
        by_cases z : x = i
        · subst z; rw [mm_up_e]
        · rw [mm_up_k z]; exact S x (by omega))
      refine mm_Es (fun _ _ => mm_iload dX9_payablePrices_73 rfl) ?_
      refine mm_Es (fun _ _ => mm_sipush (x := 999) dX9_payablePrices_75 (by decide)) ?_
      refine mm_Eb (fun _ _ => mm_icmp_gt 95 dX9_payablePrices_78 (by decide)) (fun c_78 => ?_) (fun c_78 => ?_)
      · exact absurd c_78 (nI_nlt (a := 999) (by omega) (by omega))
      · refine mm_Es (fun _ _ => mm_aload_n dX9_payablePrices_81 rfl rfl) ?_
        refine mm_Es (fun _ _ => mm_getS dX9_payablePrices_82 fX9_18 sh_155 rfl gr_155_4) ?_
        refine mm_Es (fun _ _ => mm_iload dX9_payablePrices_85 rfl) ?_
        refine mm_Es (fun _ _ => mm_iconst (x := 0) dX9_payablePrices_87 (by decide)) ?_
        refine mm_Es (fun _ _ => mm_zast (i) dX9_payablePrices_88 sh_158 rfl (by omega) rfl) ?_
        refine mm_Es (fun _ _ => mm_iinc dX9_payablePrices_89 rfl (nI_inc i) rfl) ?_
        refine mm_Es (fun _ _ => mm_goto 73 dX9_payablePrices_92 (by decide)) ?_
        exact K
  have K := K73 1000 0 rfl g (frm.refl _ _) (fun x hx => by omega)
  rw [eLa, eLb] at K
  refine mm_Es (fun _ _ => mm_aload_n dX9_payablePrices_0 rfl rfl) ?_
  refine mm_Es (fun _ _ => mm_getS dX9_payablePrices_1 fX9_26 sh_155 rfl gr_155_1) ?_
  refine mm_Es (fun _ _ => mm_aload_n dX9_payablePrices_4 rfl rfl) ?_
  refine mm_Es (fun _ _ => mm_getS dX9_payablePrices_5 fX9_22 sh_155 rfl gr_155_0) ?_
  refine mm_Es (fun _ _ => mm_iload_n dX9_payablePrices_8 rfl rfl) ?_
  refine mm_Es (fun _ _ => mm_cV (Y1 := YX5_heldBy) dX9_payablePrices_9 lX9_43 vX5_heldBy (MH h (Or.inl rfl) one) sh_65 rfl rfl (by simp [Value.category])) ?_
  refine mm_Es (fun _ _ => mm_bipush (x := 12) dX9_payablePrices_12 (by decide)) ?_
  refine mm_Es (fun _ _ => mm_cV (Y1 := YX0_learnWithin) dX9_payablePrices_14 lX9_48 vX0_learnWithin (M1) sh_135 rfl rfl (by simp [Value.category])) ?_
  refine mm_Es (fun _ _ => mm_aload_n dX9_payablePrices_17 rfl rfl) ?_
  refine mm_Es (fun _ _ => mm_getS dX9_payablePrices_18 fX9_26 sh_155 rfl gr_155_1) ?_
  refine mm_Es (fun _ _ => mm_aload_n dX9_payablePrices_21 rfl rfl) ?_
  refine mm_Es (fun _ _ => mm_getS dX9_payablePrices_22 fX9_22 sh_155 rfl gr_155_0) ?_
  refine mm_Es (fun _ _ => mm_iload_n dX9_payablePrices_25 rfl rfl) ?_
  refine mm_Es (fun _ _ => mm_cV (Y1 := YX5_heldBy) dX9_payablePrices_26 lX9_43 vX5_heldBy (MH g1 (Or.inr (Or.inl rfl)) other) sh_65 rfl rfl (by simp [Value.category])) ?_
  refine mm_Es (fun _ _ => mm_bipush (x := 12) dX9_payablePrices_29 (by decide)) ?_
  refine mm_Es (fun _ _ => mm_cV (Y1 := YX0_learnWithin) dX9_payablePrices_31 lX9_48 vX0_learnWithin (M2) sh_135 rfl rfl (by simp [Value.category])) ?_
  refine mm_Es (fun _ _ => mm_aload_n dX9_payablePrices_34 rfl rfl) ?_
  refine mm_Es (fun _ _ => mm_aload_n dX9_payablePrices_35 rfl rfl) ?_
  refine mm_Es (fun _ _ => mm_getS dX9_payablePrices_36 fX9_22 sh_155 rfl gr_155_0) ?_
  refine mm_Es (fun _ _ => mm_iload_n dX9_payablePrices_39 rfl rfl) ?_
  refine mm_Es (fun _ _ => mm_cV (Y1 := YX5_heldBy) dX9_payablePrices_40 lX9_43 vX5_heldBy (MH g2 (Or.inr (Or.inr (Or.inl rfl))) one) sh_65 rfl rfl (by simp [Value.category])) ?_
  refine mm_Es (fun _ _ => mm_aload_n dX9_payablePrices_43 rfl rfl) ?_
  refine mm_Es (fun _ _ => mm_getS dX9_payablePrices_44 fX9_9 sh_155 rfl gr_155_2) ?_
  refine mm_Es (fun _ _ => mm_cV (Y1 := YX9_collectSafe) dX9_payablePrices_47 lX9_54 vX9_collectSafe (M3) sh_155 rfl rfl (by simp [Value.category])) ?_
  refine mm_Es (fun _ _ => mm_istore dX9_payablePrices_50 (by decide) rfl) ?_
  refine mm_Es (fun _ _ => mm_aload_n dX9_payablePrices_52 rfl rfl) ?_
  refine mm_Es (fun _ _ => mm_aload_n dX9_payablePrices_53 rfl rfl) ?_
  refine mm_Es (fun _ _ => mm_getS dX9_payablePrices_54 fX9_22 sh_155 rfl gr_155_0) ?_
  refine mm_Es (fun _ _ => mm_iload_n dX9_payablePrices_57 rfl rfl) ?_
  refine mm_Es (fun _ _ => mm_cV (Y1 := YX5_heldBy) dX9_payablePrices_58 lX9_43 vX5_heldBy (MH g3 (Or.inr (Or.inr (Or.inr rfl))) other) sh_65 rfl rfl (by simp [Value.category])) ?_
  refine mm_Es (fun _ _ => mm_aload_n dX9_payablePrices_61 rfl rfl) ?_
  refine mm_Es (fun _ _ => mm_getS dX9_payablePrices_62 fX9_15 sh_155 rfl gr_155_3) ?_
  refine mm_Es (fun _ _ => mm_cV (Y1 := YX9_collectSafe) dX9_payablePrices_65 lX9_54 vX9_collectSafe (M4) sh_155 rfl rfl (by simp [Value.category])) ?_
  refine mm_Es (fun _ _ => mm_istore dX9_payablePrices_68 (by decide) rfl) ?_
  refine mm_Es (fun _ _ => mm_iconst (x := 0) dX9_payablePrices_70 (by decide)) ?_
  refine mm_Es (fun _ _ => mm_istore dX9_payablePrices_71 (by decide) rfl) ?_
  exact K
