/-! The fewest coins for a land: the class. -/
/-- some two of the small sets in W are alike and not worth alike -/
def unS (ch : Nat → List Int32) (wt : Nat → Int32) (q W : Nat) : Prop := ∃ a b, dom W q a ∧ dom W q b ∧ ch a = ch b ∧ ¬ wt a = wt b
/-- each price is some small set's worth -/
def cvd (wt : Nat → Int32) (q p W : Nat) : Prop := ∀ x, 1 ≤ x → x ≤ p → ∃ t, dom W q t ∧ wt t = nI x
def goodL (A : MD) (Q : LD) (k q p W : Nat) : Prop := ¬ unS (chd A Q k) (wtA A) q W ∧ cvd (wtA A) q p W
theorem unS_mono {ch : Nat → List Int32} {wt : Nat → Int32} {q V W : Nat} (h : sub V W) (u : unS ch wt q V) : unS ch wt q W := by
  obtain ⟨a, b, d1, d2, e⟩ := u
  refine ⟨a, b, ⟨?_, d1.2⟩, ⟨?_, d2.2⟩, e⟩
  · rw [sub_iff]; intro i hi; exact sub_bit h (sub_bit d1.1 hi)
  · rw [sub_iff]; intro i hi; exact sub_bit h (sub_bit d2.1 hi)
/-- the answer: the first of the smallest -/
def ldR (good : Nat → Prop) (N : Nat) (x : Int32) : Prop := (x = -2 ∧ ∀ t, t < N → ¬ good t) ∨ ∃ s, s < N ∧ x = nI s ∧ good s ∧ ∀ t, t < N → good t → pc s < pc t ∨ (pc s = pc t ∧ s ≤ t)
theorem ldR_uq {good : Nat → Prop} {N : Nat} {x y : Int32} (a : ldR good N x) (b : ldR good N y) : x = y := by
  rcases a with ⟨rfl, a⟩ | ⟨s, s1, rfl, s2, s3⟩
  · rcases b with ⟨rfl, b⟩ | ⟨t, t1, rfl, t2, t3⟩
    · rfl
    · exact absurd t2 (a t t1)
  · rcases b with ⟨rfl, b⟩ | ⟨t, t1, rfl, t2, t3⟩
    · exact absurd s2 (b s s1)
    · have := s3 t t1 t2
      have := t3 s s1 s2
      rw [show s = t by omega]
theorem CS_step {ch : Nat → List Int32} {wt : Nat → Int32} {P P2 : Nat → Prop} {ld : List Int32 → Option Nat} {t : Nat} (hl : Linv ch P ld) (hc : ∀ a b, P a → P b → ch a = ch b → wt a = wt b) (h2 : ∀ s, P2 s ↔ P s ∨ s = t) (hw : wt ((ld (ch t)).getD t) = wt t) : ∀ a b, P2 a → P2 b → ch a = ch b → wt a = wt b := by
  have key : ∀ a, P a → ch a = ch t → wt a = wt t := fun a ha e => by
    cases q : ld (ch t) with
    | none => exact absurd e (hl.2 _ q a ha)
    | some l =>
      rw [q] at hw
      obtain ⟨q1, q2, -⟩ := hl.1 _ l q
      exact (hc a l ha q1 (e.trans q2.symm)).trans hw
  intro a b ha hb e
  rcases (h2 a).mp ha with ha | rfl
  · rcases (h2 b).mp hb with hb | rfl
    · exact hc a b ha hb e
    · exact key a ha e
  · rcases (h2 b).mp hb with hb | rfl
    · exact (key b hb e.symm).symm
    · rfl
theorem cnP_full {P : Nat → Prop} : ∀ n, cnP P n = n → ∀ x, 1 ≤ x → x ≤ n → P x := by
  intro n
  induction n with
  | zero => intro _ x h1 h2; omega
  | succ n ih =>
    intro h x h1 h2
    have l := cnP_le (P := P) n
    by_cases c : P (n + 1)
    · rw [cnP_y c] at h
      by_cases z : x = n + 1
      · rw [z]; exact c
      · exact ih (by omega) x h1 (by omega)
    · rw [cnP_n c] at h; omega
theorem cnP_all {P : Nat → Prop} : ∀ n, (∀ x, 1 ≤ x → x ≤ n → P x) → cnP P n = n := by
  intro n
  induction n with
  | zero => intro _; rfl
  | succ n ih => intro h; rw [cnP_y (h _ (by omega) (Nat.le_refl _)), ih (fun x h1 h2 => h x h1 (by omega))]
set_option maxRecDepth 100000 in
set_option maxHeartbeats 4000000 in
theorem mX2_hasUnsoundPart (d : Nat) (h : mm_H) (n : Nat) (hn : h.1 65 0 = nI n) (h12 : n ≤ 12) (L : Nat) (hL : L < 2 ^ n) (u : Nat → Prop) (hu : ∀ T, T < L → h.1 163 T = pI (u T)) : mm_M d YX2_hasUnsoundPart [.ref 159, .int (nI L)] h (some (.int (pI (∃ c, c < n ∧ L.testBit c = true ∧ u (L ^^^ 2 ^ c))))) h := by
  refine mm_M.of [some (.ref 159), some (.int (nI L)), none] rfl rfl (Nat.le_of_ble_eq_true rfl) ?_
  have hp := p2_lt h12
  have K2 : ∀ m i, i + m = n → (∀ c, c < i → ¬ (L.testBit c = true ∧ u (L ^^^ 2 ^ c))) → mm_R d YX2_hasUnsoundPart 2 [some (.ref 159), some (.int (nI L)), some (.int (nI i))] [] h (some (.int (pI (∃ c, c < n ∧ L.testBit c = true ∧ u (L ^^^ 2 ^ c))))) h := by
    intro m
    induction m with
    | zero =>
      intro i hi hno
      have hi : i = n := by omega
      subst hi
      have hR : ¬ (∃ c, c < i ∧ L.testBit c = true ∧ u (L ^^^ 2 ^ c)) := fun ⟨c, c1, c2⟩ => hno c c1 c2
      refine mm_iload_n dX2_hasUnsoundPart_2 rfl rfl ?_
      refine mm_aload_n dX2_hasUnsoundPart_3 rfl rfl ?_
      refine mm_getS dX2_hasUnsoundPart_4 fX2_28 sh_159 rfl gr_159_0 ?_
      refine mm_getS dX2_hasUnsoundPart_7 fX2_104 sh_61 rfl gr_61_0 ?_
      refine mm_getI dX2_hasUnsoundPart_10 fX2_108 sh_65 rfl ?_
      refine mm_icmp_ge 46 dX2_hasUnsoundPart_13 (by decide) (fun c_13 => ?_) (fun c_13 => ?_)
      · refine mm_iconst (x := 0) dX2_hasUnsoundPart_46 (by decide) ?_
        exact mm_zretE dX2_hasUnsoundPart_47 rfl (pI_nar _) (pI_0 hR).symm rfl
      · exact absurd (by rw [hn]; exact Int32.le_refl _) c_13
    | succ m ih =>
      intro i hi hno
      have hin : i < n := by omega
      have tb := tb_iff (a := L) (c := i) (by omega) (by omega)
      have hx : L ^^^ 2 ^ i < 4096 := Nat.xor_lt_two_pow (n := 12) (by omega) (Nat.pow_lt_pow_right (by decide) (by omega))
      by_cases hb : L.testBit i = true
      · have hlt := xor_lt (sub_p2 hb) (p2_ne i)
        have eu := hu _ hlt
        by_cases hc : u (L ^^^ 2 ^ i)
        · have hR : (∃ c, c < n ∧ L.testBit c = true ∧ u (L ^^^ 2 ^ c)) := ⟨i, hin, hb, hc⟩
          refine mm_iload_n dX2_hasUnsoundPart_2 rfl rfl ?_
          refine mm_aload_n dX2_hasUnsoundPart_3 rfl rfl ?_
          refine mm_getS dX2_hasUnsoundPart_4 fX2_28 sh_159 rfl gr_159_0 ?_
          refine mm_getS dX2_hasUnsoundPart_7 fX2_104 sh_61 rfl gr_61_0 ?_
          refine mm_getI dX2_hasUnsoundPart_10 fX2_108 sh_65 rfl ?_
          refine mm_icmp_ge 46 dX2_hasUnsoundPart_13 (by decide) (fun c_13 => ?_) (fun c_13 => ?_)
          · exact absurd (by rw [hn] at c_13; exact c_13) (nI_ge hin (by omega))
          · refine mm_iload_n dX2_hasUnsoundPart_16 rfl rfl ?_
            refine mm_iload_n dX2_hasUnsoundPart_17 rfl rfl ?_
            refine mm_ishr dX2_hasUnsoundPart_18 ?_
            refine mm_iconst (x := 1) dX2_hasUnsoundPart_19 (by decide) ?_
            refine mm_iand dX2_hasUnsoundPart_20 ?_
            refine mm_iconst (x := 1) dX2_hasUnsoundPart_21 (by decide) ?_
            refine mm_icmp_ne 40 dX2_hasUnsoundPart_22 (by decide) (fun c_22 => ?_) (fun c_22 => ?_)
            · exact absurd (tb.mpr hb) c_22
            · refine mm_aload_n dX2_hasUnsoundPart_25 rfl rfl ?_
              refine mm_getS dX2_hasUnsoundPart_26 fX2_22 sh_159 rfl gr_159_5 ?_
              refine mm_iload_n dX2_hasUnsoundPart_29 rfl rfl ?_
              refine mm_iconst (x := 1) dX2_hasUnsoundPart_30 (by decide) ?_
              refine mm_iload_n dX2_hasUnsoundPart_31 rfl rfl ?_
              refine mm_ishl dX2_hasUnsoundPart_32 ?_
              refine mm_ixor dX2_hasUnsoundPart_33 ?_
              refine mm_zald ((L ^^^ 2 ^ i)) dX2_hasUnsoundPart_34 sh_163 (by rw [sh1 (by omega), nI_lxor]) hx ?_
              refine mm_if_eq 40 dX2_hasUnsoundPart_35 (by decide) (fun c_35 => ?_) (fun c_35 => ?_)
              · exact absurd hc (pI_e0.mp (eu.symm.trans c_35))
              · refine mm_iconst (x := 1) dX2_hasUnsoundPart_38 (by decide) ?_
                exact mm_zretE dX2_hasUnsoundPart_39 rfl (pI_nar _) (pI_1 hR).symm rfl
        · have K := ih (i + 1) (by omega) (fun c hc1 => by
            by_cases z : c = i
            · rw [z]; exact fun w => hc w.2
            · exact hno c (by omega))
          refine mm_iload_n dX2_hasUnsoundPart_2 rfl rfl ?_
          refine mm_aload_n dX2_hasUnsoundPart_3 rfl rfl ?_
          refine mm_getS dX2_hasUnsoundPart_4 fX2_28 sh_159 rfl gr_159_0 ?_
          refine mm_getS dX2_hasUnsoundPart_7 fX2_104 sh_61 rfl gr_61_0 ?_
          refine mm_getI dX2_hasUnsoundPart_10 fX2_108 sh_65 rfl ?_
          refine mm_icmp_ge 46 dX2_hasUnsoundPart_13 (by decide) (fun c_13 => ?_) (fun c_13 => ?_)
          · exact absurd (by rw [hn] at c_13; exact c_13) (nI_ge hin (by omega))
          · refine mm_iload_n dX2_hasUnsoundPart_16 rfl rfl ?_
            refine mm_iload_n dX2_hasUnsoundPart_17 rfl rfl ?_
            refine mm_ishr dX2_hasUnsoundPart_18 ?_
            refine mm_iconst (x := 1) dX2_hasUnsoundPart_19 (by decide) ?_
            refine mm_iand dX2_hasUnsoundPart_20 ?_
            refine mm_iconst (x := 1) dX2_hasUnsoundPart_21 (by decide) ?_
            refine mm_icmp_ne 40 dX2_hasUnsoundPart_22 (by decide) (fun c_22 => ?_) (fun c_22 => ?_)
            · exact absurd (tb.mpr hb) c_22
            · refine mm_aload_n dX2_hasUnsoundPart_25 rfl rfl ?_
              refine mm_getS dX2_hasUnsoundPart_26 fX2_22 sh_159 rfl gr_159_5 ?_
              refine mm_iload_n dX2_hasUnsoundPart_29 rfl rfl ?_
              refine mm_iconst (x := 1) dX2_hasUnsoundPart_30 (by decide) ?_
              refine mm_iload_n dX2_hasUnsoundPart_31 rfl rfl ?_
              refine mm_ishl dX2_hasUnsoundPart_32 ?_
              refine mm_ixor dX2_hasUnsoundPart_33 ?_
              refine mm_zald ((L ^^^ 2 ^ i)) dX2_hasUnsoundPart_34 sh_163 (by rw [sh1 (by omega), nI_lxor]) hx ?_
              refine mm_if_eq 40 dX2_hasUnsoundPart_35 (by decide) (fun c_35 => ?_) (fun c_35 => ?_)
              · refine mm_iinc dX2_hasUnsoundPart_40 rfl (nI_inc i) rfl ?_
                refine mm_goto 2 dX2_hasUnsoundPart_43 (by decide) ?_
                exact K
              · exact absurd (pI_n0.mp (fun z => c_35 (eu.trans z))) hc
      · have K := ih (i + 1) (by omega) (fun c hc1 => by
          by_cases z : c = i
          · rw [z]; exact fun w => hb w.1
          · exact hno c (by omega))
        refine mm_iload_n dX2_hasUnsoundPart_2 rfl rfl ?_
        refine mm_aload_n dX2_hasUnsoundPart_3 rfl rfl ?_
        refine mm_getS dX2_hasUnsoundPart_4 fX2_28 sh_159 rfl gr_159_0 ?_
        refine mm_getS dX2_hasUnsoundPart_7 fX2_104 sh_61 rfl gr_61_0 ?_
        refine mm_getI dX2_hasUnsoundPart_10 fX2_108 sh_65 rfl ?_
        refine mm_icmp_ge 46 dX2_hasUnsoundPart_13 (by decide) (fun c_13 => ?_) (fun c_13 => ?_)
        · exact absurd (by rw [hn] at c_13; exact c_13) (nI_ge hin (by omega))
        · refine mm_iload_n dX2_hasUnsoundPart_16 rfl rfl ?_
          refine mm_iload_n dX2_hasUnsoundPart_17 rfl rfl ?_
          refine mm_ishr dX2_hasUnsoundPart_18 ?_
          refine mm_iconst (x := 1) dX2_hasUnsoundPart_19 (by decide) ?_
          refine mm_iand dX2_hasUnsoundPart_20 ?_
          refine mm_iconst (x := 1) dX2_hasUnsoundPart_21 (by decide) ?_
          refine mm_icmp_ne 40 dX2_hasUnsoundPart_22 (by decide) (fun c_22 => ?_) (fun c_22 => ?_)
          · refine mm_iinc dX2_hasUnsoundPart_40 rfl (nI_inc i) rfl ?_
            refine mm_goto 2 dX2_hasUnsoundPart_43 (by decide) ?_
            exact K
          · exact absurd (tb.mp c_22) hb
  have K := K2 n 0 (by omega) (fun c hc => by omega)
  refine mm_iconst (x := 0) dX2_hasUnsoundPart_0 (by decide) ?_
  refine mm_istore_n dX2_hasUnsoundPart_1 rfl (by decide) rfl ?_
  exact K
def ln_p : Nat → Bool := fun c => rg 142 144 c || c == 135 || c == 163 || c == 164
def ln_fr (h g : mm_H) : Prop := frm ln_p h g ∧ ∀ j, j ≠ 11 → g.1 135 j = h.1 135 j
theorem ln_fr.trans {h g k : mm_H} (a : ln_fr h g) (b : ln_fr g k) : ln_fr h k := ⟨a.1.trans b.1, fun j hj => (b.2 j hj).trans (a.2 j hj)⟩
theorem ln_fr.refl (h : mm_H) : ln_fr h h := ⟨frm.refl _ _, fun _ _ => rfl⟩
theorem ln_fr.aimed {A : MD} {Q : LD} {r k : Nat} {h g : mm_H} (a : ln_fr h g) (hr : r < 6) (hW : aimed A Q r k h) : aimed A Q r k g := by
  obtain ⟨hV, hC, hR, hK, hI, m, W, hcv⟩ := hW
  have fr := a.1
  have lo : ∀ c, c ≤ 134 → ln_p c = false := fun c hc => by simp only [ln_p, Bool.or_eq_false_iff, beq_eq_false_iff_ne]; exact ⟨⟨⟨rg_f (by omega), by omega⟩, by omega⟩, by omega⟩
  exact ⟨viewC_f hV fr (fun c hc => lo c (by omega)), lawC_f hC fr (fun c h1 h2 => lo c (by omega)), by rw [fr.2]; exact hR, by rw [fr.i rfl]; exact hK, kinv_c hI (fr.i rfl) (fr.i rfl), m, W, cinv_f hcv (a.2 6 (by decide)) (fr.i rfl) (fr.i rfl) (fr.i rfl) (fr.i rfl) (fr.i rfl) (fun b _ => Or.inr (by rw [fr.i rfl]))⟩
set_option maxRecDepth 100000 in
set_option maxHeartbeats 4000000 in
theorem mX2_isLand (d : Nat) (h : mm_H) (A : MD) (hA : mdOK A) (Q : LD) (r : Nat) (hr : r < 6) (k : Nat) (hW : aimed A Q r k h) (G : Nat) (hG : gcn h G) (hGb : G + 1 < 2 ^ 31) (W : Nat) (hWn : W < 2 ^ mn A) (p q : Nat) (hp2 : p ≤ 200) (hq2 : q ≤ 12) (hl : ∀ t, dom W q t → ¬ h.1 136 t = 0) : ∃ g, mm_M (d + 1) YX2_isLand [.ref 159, .int (nI W), .int (nI p), .int (nI q)] h (some (.int (pI (goodL A Q k q p W)))) g ∧ gcn g (G + 1) ∧ ln_fr h g ∧ ((unS (chd A Q k) (wtA A) q W) → g.1 163 = upd (h.1 163) W 1) ∧ (¬ (unS (chd A Q k) (wtA A) q W) → g.1 163 = h.1 163) := by
  suffices hE : mm_E (d + 1) YX2_isLand 0 [some (.ref 159), some (.int (nI W)), some (.int (nI p)), some (.int (nI q)), none, none, none, none, none] [] h (fun v g => v = some (.int (pI (goodL A Q k q p W))) ∧ gcn g (G + 1) ∧ ln_fr h g ∧ ((unS (chd A Q k) (wtA A) q W) → g.1 163 = upd (h.1 163) W 1) ∧ (¬ (unS (chd A Q k) (wtA A) q W) → g.1 163 = h.1 163)) by
    obtain ⟨v, g, hR, rfl, h1⟩ := hE
    exact ⟨g, mm_M.of _ rfl rfl (Nat.le_of_ble_eq_true rfl) hR, h1⟩
  have h12 := hA.1
  have hp := p2_lt h12
  have hW4 : W < 4096 := by omega
  have hpc := pc_le hW4
  have hpp : 2 ^ pc W ≤ 4096 := p2_lt hpc
  have dlt : ∀ t, dom W q t → t < 2 ^ mn A := fun t ht => by have := sub_le ht.1; omega
  have K47 : ∀ m i, i + m = 2 ^ pc W → ∀ gg ld, ln_fr h gg → gg.1 163 = h.1 163 → gst A Q k gg (G + 1) ld (fun _ => False) → Linv (chd A Q k) (PR W q i) ld → (∀ a b, PR W q i a → PR W q i b → chd A Q k a = chd A Q k b → wtA A a = wtA A b) → (∀ x, x ≤ p → ((1 ≤ x ∧ (fun x => ∃ t, PR W q i t ∧ wtA A t = nI x) x) → gg.1 164 x = 1) ∧ (¬ (1 ≤ x ∧ (fun x => ∃ t, PR W q i t ∧ wtA A t = nI x) x) → gg.1 164 x = 0)) → ∀ mi, mi + cnP (fun x => ∃ t, PR W q i t ∧ wtA A t = nI x) p = p → ∀ x8, mm_E (d + 1) YX2_isLand 47 [some (.ref 159), some (.int (nI W)), some (.int (nI p)), some (.int (nI q)), some (.int (nI mi)), some (.int (nI (2 ^ pc W))), some (.int (nI (sbs W i))), some (.int (nI i)), x8] [] gg (fun v g => v = some (.int (pI (goodL A Q k q p W))) ∧ gcn g (G + 1) ∧ ln_fr h g ∧ ((unS (chd A Q k) (wtA A) q W) → g.1 163 = upd (h.1 163) W 1) ∧ (¬ (unS (chd A Q k) (wtA A) q W) → g.1 163 = h.1 163)) := by
    intro m
    induction m with
    | zero =>
      intro i hi gg ld fg e163 hs hL hC hF mi hmi x8
      have hi : i = 2 ^ pc W := by omega
      subst hi
      have hnu : ¬ (unS (chd A Q k) (wtA A) q W) := fun ⟨a, b, d1, d2, e1, e2⟩ => e2 (hC a b ((PR_all hW4).mpr d1) ((PR_all hW4).mpr d2) e1)
      have hgd : (goodL A Q k q p W) ↔ mi = 0 := by
        constructor
        · intro z
          have : cnP (fun x => ∃ t, PR W q (2 ^ pc W) t ∧ wtA A t = nI x) p = p := cnP_all p (fun x h1 h2 => by
            obtain ⟨t, t1, t2⟩ := z.2 x h1 h2
            exact ⟨t, (PR_all hW4).mpr t1, t2⟩)
          omega
        · intro z
          refine ⟨hnu, fun x h1 h2 => ?_⟩
          obtain ⟨t, t1, t2⟩ := cnP_full (P := (fun x => ∃ t, PR W q (2 ^ pc W) t ∧ wtA A t = nI x)) p (by omega) x h1 h2
          exact ⟨t, (PR_all hW4).mp t1, t2⟩
      refine mm_Es (fun _ _ => mm_iload dX2_isLand_47 rfl) ?_
      refine mm_Es (fun _ _ => mm_iload dX2_isLand_49 rfl) ?_
      refine mm_Eb (fun _ _ => mm_icmp_ge 151 dX2_isLand_51 (by decide)) (fun c_51 => ?_) (fun c_51 => ?_)
      · refine mm_Es (fun _ _ => mm_iload dX2_isLand_151 rfl) ?_
        refine mm_Ebn (fun _ _ => mm_if_ne 160 dX2_isLand_153 (by decide)) (fun c_153 => ?_) (fun c_153 => ?_)
        · have hg : ¬ (goodL A Q k q p W) := fun z => c_153 (by rw [hgd.mp z]; rfl)
          refine mm_Es (fun _ _ => mm_iconst (x := 0) dX2_isLand_160 (by decide)) ?_
          refine mm_Er (mm_zreturn dX2_isLand_161 rfl (by first | rfl | exact pI_nar _)) ?_
          exact ⟨by first | rw [pI_1 hg] | rw [pI_0 hg], hs.cn, fg, fun z => absurd z hnu, fun _ => e163⟩
        · have hg : (goodL A Q k q p W) := hgd.mpr ((nI_eq (b := 0) (by omega) (by omega)).mp c_153)
          refine mm_Es (fun _ _ => mm_iconst (x := 1) dX2_isLand_156 (by decide)) ?_
          refine mm_Es (fun _ _ => mm_goto 161 dX2_isLand_157 (by decide)) ?_
          refine mm_Er (mm_zreturn dX2_isLand_161 rfl (by first | rfl | exact pI_nar _)) ?_
          exact ⟨by first | rw [pI_1 hg] | rw [pI_0 hg], hs.cn, fg, fun z => absurd z hnu, fun _ => e163⟩
      · exact absurd (Int32.le_refl _) c_51
    | succ m ih =>
      intro i hi gg ld fg e163 hs hL hC hF mi hmi x8
      have hin : i < 2 ^ pc W := by omega
      have nx := nxt_sbs hW4 hin
      obtain ⟨t, et⟩ : ∃ t, t = sbs W i := ⟨_, rfl⟩
      have htW : sub t W := by rw [et]; exact sbs_sub W i
      have htl := sub_le htW
      have hpt := pc_le (show t < 4096 by omega)
      by_cases hb : pc t ≤ q
      · have hd : dom W q t := ⟨htW, hb⟩
        have e136 : gg.1 136 = h.1 136 := fg.1.i rfl
        have hlg : ∀ s, dom W q s → ¬ gg.1 136 s = 0 := fun s hs => by rw [e136]; exact hl s hs
        have hag := fg.aimed hr hW
        have hPs : ∀ s, PR W q (i + 1) s ↔ PR W q i s ∨ s = t := fun s => by rw [et]; exact PR_s (by rw [← et]; exact hb)
        have hPl : ∀ s, PR W q i s → s < t := fun s hs => by rw [et]; exact PR_lt hW4 hin hs
        obtain ⟨g3, M3, fr3, hs3⟩ := mX0_leaderOf d gg A hA Q r hr k hag (G + 1) hGb ld (fun _ => False) hs t (dlt t hd) (hlg t hd)
        obtain ⟨l, el⟩ : ∃ l, l = (ld (chd A Q k t)).getD t := ⟨_, rfl⟩
        have hdl : dom W q l ∧ chd A Q k l = chd A Q k t := by
          rw [el]
          cases z : ld (chd A Q k t) with
          | none => exact ⟨hd, rfl⟩
          | some y =>
            obtain ⟨y1, y2, -⟩ := hL.1 _ y z
            exact ⟨PR_dom y1, y2⟩
        rw [← el] at M3
        have w0 : gg.1 137 t = wtA A t := hag.wt (dlt t hd) (hlg t hd)
        have hag3 := fr3.aimed hr hag
        have w3 : g3.1 137 l = wtA A l := hag3.wt (dlt l hdl.1) (by rw [fr3.i rfl]; exact hlg l hdl.1)
        have hl4 : l < 4096 := by have := dlt l hdl.1; omega
        have M1 := mX0_worthOf d gg t (by omega)
        have M4 := mX0_worthOf d g3 l hl4
        rw [w0] at M1
        rw [w3] at M4
        have fg3 : ln_fr h g3 := fg.trans ⟨fr3.mono (fun c hc => by simp only [ln_p, Bool.or_eq_false_iff] at hc; exact hc.1.1.1), fun j _ => by rw [fr3.i rfl]⟩
        have e163b : g3.1 163 = h.1 163 := by rw [fr3.i rfl]; exact e163
        have e164 : g3.1 164 = gg.1 164 := fr3.i rfl
        by_cases hw : wtA A l = wtA A t
        · have hL3 := Linv_step hL hPl hPs
          have hC3 := CS_step (wt := wtA A) hL hC hPs (by rw [← el]; exact hw)
          have hcv : ∀ x, (fun x => ∃ t, PR W q (i + 1) t ∧ wtA A t = nI x) x ↔ (fun x => ∃ t, PR W q i t ∧ wtA A t = nI x) x ∨ wtA A t = nI x := fun x => by
            constructor
            · rintro ⟨s, s1, s2⟩
              rcases (hPs s).mp s1 with z | z
              · exact Or.inl ⟨s, z, s2⟩
              · rw [z] at s2; exact Or.inr s2
            · rintro (⟨s, s1, s2⟩ | z)
              · exact ⟨s, (hPs s).mpr (Or.inl s1), s2⟩
              · exact ⟨t, (hPs t).mpr (Or.inr rfl), z⟩
          have wb := wtA_bd hA t
          rw [← et]
          by_cases hx : 1 ≤ (wtA A t).toInt ∧ (wtA A t).toInt ≤ p
          · obtain ⟨y, hy1, hy⟩ := nI_ex (x := wtA A t) (n := p + 1) ⟨by omega, by omega⟩
            have hy2 : 1 ≤ y := by rw [hy, nI_toInt (by omega)] at hx; omega
            have hxy : ∀ x, x ≤ p → (wtA A t = nI x ↔ x = y) := fun x h1 => by rw [hy, nI_eq (by omega) (by omega)]; exact eq_comm
            by_cases hc2 : (fun x => ∃ t, PR W q i t ∧ wtA A t = nI x) y
            · have e1 : g3.1 164 y = 1 := by rw [e164]; exact (hF y (by omega)).1 ⟨hy2, hc2⟩
              have hcv2 : ∀ x, x ≤ p → ((fun x => ∃ t, PR W q (i + 1) t ∧ wtA A t = nI x) x ↔ (fun x => ∃ t, PR W q i t ∧ wtA A t = nI x) x) := fun x h1 => (hcv x).trans ⟨fun z => z.elim id (fun w => by rw [(hxy x h1).mp w]; exact hc2), Or.inl⟩
              have K := ih (i + 1) (by omega) g3 _ fg3 e163b hs3 hL3 hC3 (fun x h1 => by rw [e164]; exact ⟨fun z => (hF x h1).1 ⟨z.1, (hcv2 x h1).mp z.2⟩, fun z => (hF x h1).2 (fun w => z ⟨w.1, (hcv2 x h1).mpr w.2⟩)⟩) mi (by rw [cnP_c p (fun x _ h1 => hcv2 x h1)]; exact hmi)
              refine mm_Es (fun _ _ => mm_iload dX2_isLand_47 rfl) ?_
              refine mm_Es (fun _ _ => mm_iload dX2_isLand_49 rfl) ?_
              refine mm_Eb (fun _ _ => mm_icmp_ge 151 dX2_isLand_51 (by decide)) (fun c_51 => ?_) (fun c_51 => ?_)
              · exact absurd c_51 (nI_ge hin (by omega))
              · refine mm_Es (fun _ _ => mm_iload dX2_isLand_54 rfl) ?_
                refine mm_Es (fun _ _ => mm_cS (Y1 := YJ6_bitCount_0f7a4) dX2_isLand_56 lX2_36 sJ6_bitCount_0f7a4 (mJ6_bitCount_0f7a4 d gg t (by omega)) rfl rfl (by simp [Value.category])) ?_
                refine mm_Es (fun _ _ => mm_iload_n dX2_isLand_59 rfl rfl) ?_
                refine mm_Eb (fun _ _ => mm_icmp_gt 137 dX2_isLand_60 (by decide)) (fun c_60 => ?_) (fun c_60 => ?_)
                · exact absurd c_60 (nI_nlt hb (by omega))
                · refine mm_Es (fun _ _ => mm_aload_n dX2_isLand_63 rfl rfl) ?_
                  refine mm_Es (fun _ _ => mm_getS dX2_isLand_64 fX2_32 sh_159 rfl gr_159_1) ?_
                  refine mm_Es (fun _ _ => mm_iload dX2_isLand_67 rfl) ?_
                  refine mm_Es (fun _ _ => mm_cV (Y1 := YX0_worthOf) dX2_isLand_69 lX2_64 vX0_worthOf (M1) sh_135 rfl rfl (by simp [Value.category])) ?_
                  refine mm_Es (fun _ _ => mm_istore dX2_isLand_72 (by decide) rfl) ?_
                  refine mm_Es (fun _ _ => mm_aload_n dX2_isLand_74 rfl rfl) ?_
                  refine mm_Es (fun _ _ => mm_getS dX2_isLand_75 fX2_32 sh_159 rfl gr_159_1) ?_
                  refine mm_Es (fun _ _ => mm_aload_n dX2_isLand_78 rfl rfl) ?_
                  refine mm_Es (fun _ _ => mm_getS dX2_isLand_79 fX2_32 sh_159 rfl gr_159_1) ?_
                  refine mm_Es (fun _ _ => mm_iload dX2_isLand_82 rfl) ?_
                  refine mm_Es (fun _ _ => mm_cV (Y1 := YX0_leaderOf) dX2_isLand_84 lX2_82 vX0_leaderOf (M3) sh_135 rfl rfl (by simp [Value.category])) ?_
                  refine mm_Es (fun _ _ => mm_cV (Y1 := YX0_worthOf) dX2_isLand_87 lX2_64 vX0_worthOf (M4) sh_135 rfl rfl (by simp [Value.category])) ?_
                  refine mm_Es (fun _ _ => mm_iload dX2_isLand_90 rfl) ?_
                  refine mm_Eb (fun _ _ => mm_icmp_eq 104 dX2_isLand_92 (by decide)) (fun c_92 => ?_) (fun c_92 => ?_)
                  · refine mm_Es (fun _ _ => mm_iload dX2_isLand_104 rfl) ?_
                    refine mm_Es (fun _ _ => mm_iconst (x := 1) dX2_isLand_106 (by decide)) ?_
                    refine mm_Eb (fun _ _ => mm_icmp_lt 137 dX2_isLand_107 (by decide)) (fun c_107 => ?_) (fun c_107 => ?_)
                    · exfalso; rw [hy, Int32.lt_iff_toInt_lt, nI_toInt (by omega), ti_1] at c_107; omega
                    · refine mm_Es (fun _ _ => mm_iload dX2_isLand_110 rfl) ?_
                      refine mm_Es (fun _ _ => mm_iload_n dX2_isLand_112 rfl rfl) ?_
                      refine mm_Eb (fun _ _ => mm_icmp_gt 137 dX2_isLand_113 (by decide)) (fun c_113 => ?_) (fun c_113 => ?_)
                      · exfalso; rw [hy] at c_113; exact absurd c_113 (nI_nlt (by omega) (by omega))
                      · refine mm_Es (fun _ _ => mm_aload_n dX2_isLand_116 rfl rfl) ?_
                        refine mm_Es (fun _ _ => mm_getS dX2_isLand_117 fX2_25 sh_159 rfl gr_159_6) ?_
                        refine mm_Es (fun _ _ => mm_iload dX2_isLand_120 rfl) ?_
                        refine mm_Es (fun _ _ => mm_zald (y) dX2_isLand_122 sh_164 hy (by omega)) ?_
                        refine mm_Ebn (fun _ _ => mm_if_ne 137 dX2_isLand_123 (by decide)) (fun c_123 => ?_) (fun c_123 => ?_)
                        · refine mm_Es (fun _ _ => mm_iload dX2_isLand_137 rfl) ?_
                          refine mm_Es (fun _ _ => mm_iload_n dX2_isLand_139 rfl rfl) ?_
                          refine mm_Es (fun _ _ => mm_cSN (Y1 := YX10_nextWithin) dX2_isLand_140 (List.Mem.tail _ (List.Mem.head _)) sX10_nextWithin (mX10_nextWithin d g3 (nI t) (nI W)) rfl rfl (by simp [Value.category])) ?_
                          refine mm_Es (fun _ _ => mm_cast (st' := [.int (nI (sbs W (i + 1)))]) rfl (by rw [et, nx] <;> rfl) rfl) ?_
                          refine mm_Es (fun _ _ => mm_istore dX2_isLand_143 (by decide) rfl) ?_
                          refine mm_Es (fun _ _ => mm_iinc dX2_isLand_145 rfl (nI_inc i) rfl) ?_
                          refine mm_Es (fun _ _ => mm_goto 47 dX2_isLand_148 (by decide)) ?_
                          exact K _
                        · exact absurd (e1.symm.trans c_123) (by decide)
                  · exact absurd hw c_92
            · have e1 : g3.1 164 y = 0 := by rw [e164]; exact (hF y (by omega)).2 (fun z => hc2 z.2)
              have hcn : cnP (fun x => ∃ t, PR W q (i + 1) t ∧ wtA A t = nI x) p = cnP (fun x => ∃ t, PR W q i t ∧ wtA A t = nI x) p + 1 := cnP_add p hy2 (by omega) hc2 (fun x _ h1 => (hcv x).trans (by rw [hxy x h1]))
              have hle := cnP_le (P := (fun x => ∃ t, PR W q (i + 1) t ∧ wtA A t = nI x)) p
              obtain ⟨mj, rfl⟩ : ∃ mj, mi = mj + 1 := ⟨mi - 1, by omega⟩
              obtain ⟨g4, eg4⟩ : ∃ g4 : mm_H, g4 = (mm_up g3.1 164 y 1, g3.2.1, g3.2.2) := ⟨_, rfl⟩
              have hs4 : gst A Q k g4 (G + 1) (lup ld (chd A Q k t) t) (fun _ => False) := by
                rw [eg4]; unfold gst at hs3 ⊢; dsimp only
                rw [mm_up_n (by decide), mm_up_n (by decide), mm_up_n (by decide), mm_up_n (by decide), mm_up_n (by decide)]
                exact hs3
              have K := ih (i + 1) (by omega) g4 _ (by rw [eg4]; exact ⟨fg3.1.up (c := 164) rfl, fun j hj => by dsimp only; rw [mm_up_n (by decide)]; exact fg3.2 j hj⟩) (by rw [eg4]; dsimp only; rw [mm_up_n (by decide)]; exact e163b) hs4 hL3 hC3 (fun x h1 => by
                rw [eg4]; dsimp only
                by_cases z : x = y
                · rw [z, mm_up_e]
                  exact ⟨fun _ => rfl, fun w => absurd ⟨hy2, (hcv y).mpr (Or.inr hy)⟩ w⟩
                · rw [mm_up_k z, e164]
                  exact ⟨fun w => (hF x h1).1 ⟨w.1, ((hcv x).mp w.2).resolve_right (fun v => z ((hxy x h1).mp v))⟩, fun w => (hF x h1).2 (fun v => w ⟨v.1, (hcv x).mpr (Or.inl v.2)⟩)⟩) mj (by rw [hcn]; omega)
              refine mm_Es (fun _ _ => mm_iload dX2_isLand_47 rfl) ?_
              refine mm_Es (fun _ _ => mm_iload dX2_isLand_49 rfl) ?_
              refine mm_Eb (fun _ _ => mm_icmp_ge 151 dX2_isLand_51 (by decide)) (fun c_51 => ?_) (fun c_51 => ?_)
              · exact absurd c_51 (nI_ge hin (by omega))
              · refine mm_Es (fun _ _ => mm_iload dX2_isLand_54 rfl) ?_
                refine mm_Es (fun _ _ => mm_cS (Y1 := YJ6_bitCount_0f7a4) dX2_isLand_56 lX2_36 sJ6_bitCount_0f7a4 (mJ6_bitCount_0f7a4 d gg t (by omega)) rfl rfl (by simp [Value.category])) ?_
                refine mm_Es (fun _ _ => mm_iload_n dX2_isLand_59 rfl rfl) ?_
                refine mm_Eb (fun _ _ => mm_icmp_gt 137 dX2_isLand_60 (by decide)) (fun c_60 => ?_) (fun c_60 => ?_)
                · exact absurd c_60 (nI_nlt hb (by omega))
                · refine mm_Es (fun _ _ => mm_aload_n dX2_isLand_63 rfl rfl) ?_
                  refine mm_Es (fun _ _ => mm_getS dX2_isLand_64 fX2_32 sh_159 rfl gr_159_1) ?_
                  refine mm_Es (fun _ _ => mm_iload dX2_isLand_67 rfl) ?_
                  refine mm_Es (fun _ _ => mm_cV (Y1 := YX0_worthOf) dX2_isLand_69 lX2_64 vX0_worthOf (M1) sh_135 rfl rfl (by simp [Value.category])) ?_
                  refine mm_Es (fun _ _ => mm_istore dX2_isLand_72 (by decide) rfl) ?_
                  refine mm_Es (fun _ _ => mm_aload_n dX2_isLand_74 rfl rfl) ?_
                  refine mm_Es (fun _ _ => mm_getS dX2_isLand_75 fX2_32 sh_159 rfl gr_159_1) ?_
                  refine mm_Es (fun _ _ => mm_aload_n dX2_isLand_78 rfl rfl) ?_
                  refine mm_Es (fun _ _ => mm_getS dX2_isLand_79 fX2_32 sh_159 rfl gr_159_1) ?_
                  refine mm_Es (fun _ _ => mm_iload dX2_isLand_82 rfl) ?_
                  refine mm_Es (fun _ _ => mm_cV (Y1 := YX0_leaderOf) dX2_isLand_84 lX2_82 vX0_leaderOf (M3) sh_135 rfl rfl (by simp [Value.category])) ?_
                  refine mm_Es (fun _ _ => mm_cV (Y1 := YX0_worthOf) dX2_isLand_87 lX2_64 vX0_worthOf (M4) sh_135 rfl rfl (by simp [Value.category])) ?_
                  refine mm_Es (fun _ _ => mm_iload dX2_isLand_90 rfl) ?_
                  refine mm_Eb (fun _ _ => mm_icmp_eq 104 dX2_isLand_92 (by decide)) (fun c_92 => ?_) (fun c_92 => ?_)
                  · refine mm_Es (fun _ _ => mm_iload dX2_isLand_104 rfl) ?_
                    refine mm_Es (fun _ _ => mm_iconst (x := 1) dX2_isLand_106 (by decide)) ?_
                    refine mm_Eb (fun _ _ => mm_icmp_lt 137 dX2_isLand_107 (by decide)) (fun c_107 => ?_) (fun c_107 => ?_)
                    · exfalso; rw [hy, Int32.lt_iff_toInt_lt, nI_toInt (by omega), ti_1] at c_107; omega
                    · refine mm_Es (fun _ _ => mm_iload dX2_isLand_110 rfl) ?_
                      refine mm_Es (fun _ _ => mm_iload_n dX2_isLand_112 rfl rfl) ?_
                      refine mm_Eb (fun _ _ => mm_icmp_gt 137 dX2_isLand_113 (by decide)) (fun c_113 => ?_) (fun c_113 => ?_)
                      · exfalso; rw [hy] at c_113; exact absurd c_113 (nI_nlt (by omega) (by omega))
                      · refine mm_Es (fun _ _ => mm_aload_n dX2_isLand_116 rfl rfl) ?_
                        refine mm_Es (fun _ _ => mm_getS dX2_isLand_117 fX2_25 sh_159 rfl gr_159_6) ?_
                        refine mm_Es (fun _ _ => mm_iload dX2_isLand_120 rfl) ?_
                        refine mm_Es (fun _ _ => mm_zald (y) dX2_isLand_122 sh_164 hy (by omega)) ?_
                        refine mm_Ebn (fun _ _ => mm_if_ne 137 dX2_isLand_123 (by decide)) (fun c_123 => ?_) (fun c_123 => ?_)
                        · exact absurd e1 c_123
                        · refine mm_Es (fun _ _ => mm_aload_n dX2_isLand_126 rfl rfl) ?_
                          refine mm_Es (fun _ _ => mm_getS dX2_isLand_127 fX2_25 sh_159 rfl gr_159_6) ?_
                          refine mm_Es (fun _ _ => mm_iload dX2_isLand_130 rfl) ?_
                          refine mm_Es (fun _ _ => mm_iconst (x := 1) dX2_isLand_132 (by decide)) ?_
                          refine mm_Es (fun _ _ => mm_zast (y) dX2_isLand_133 sh_164 hy (by omega) rfl) ?_
                          refine mm_Ec rfl rfl eg4.symm ?_
                          refine mm_Es (fun _ _ => mm_iinc dX2_isLand_134 rfl rfl rfl) ?_
                          refine mm_El (ls' := [some (.ref 159), some (.int (nI W)), some (.int (nI p)), some (.int (nI q)), some (.int (nI mj)), some (.int (nI (2 ^ pc W))), some (.int (nI (t))), some (.int (nI i)), some (.int (wtA A t))]) (by refine ⟨rfl, rfl, rfl, rfl, ?_, rfl, rfl, rfl, rfl, trivial⟩; exact congrArg (fun z => Value.int z) (nI_m1 mj).symm) ?_
                          refine mm_Es (fun _ _ => mm_iload dX2_isLand_137 rfl) ?_
                          refine mm_Es (fun _ _ => mm_iload_n dX2_isLand_139 rfl rfl) ?_
                          refine mm_Es (fun _ _ => mm_cSN (Y1 := YX10_nextWithin) dX2_isLand_140 (List.Mem.tail _ (List.Mem.head _)) sX10_nextWithin (mX10_nextWithin d g4 (nI t) (nI W)) rfl rfl (by simp [Value.category])) ?_
                          refine mm_Es (fun _ _ => mm_cast (st' := [.int (nI (sbs W (i + 1)))]) rfl (by rw [et, nx] <;> rfl) rfl) ?_
                          refine mm_Es (fun _ _ => mm_istore dX2_isLand_143 (by decide) rfl) ?_
                          refine mm_Es (fun _ _ => mm_iinc dX2_isLand_145 rfl (nI_inc i) rfl) ?_
                          refine mm_Es (fun _ _ => mm_goto 47 dX2_isLand_148 (by decide)) ?_
                          exact K _
                  · exact absurd hw c_92
          · have hcv2 : ∀ x, 1 ≤ x → x ≤ p → ((fun x => ∃ t, PR W q (i + 1) t ∧ wtA A t = nI x) x ↔ (fun x => ∃ t, PR W q i t ∧ wtA A t = nI x) x) := fun x h0 h1 => (hcv x).trans ⟨fun z => z.elim id (fun w => by rw [w, nI_toInt (by omega)] at hx; omega), Or.inl⟩
            have K := ih (i + 1) (by omega) g3 _ fg3 e163b hs3 hL3 hC3 (fun x h1 => by rw [e164]; exact ⟨fun z => (hF x h1).1 ⟨z.1, (hcv2 x z.1 h1).mp z.2⟩, fun z => (hF x h1).2 (fun w => z ⟨w.1, (hcv2 x w.1 h1).mpr w.2⟩)⟩) mi (by rw [cnP_c p (fun x h0 h1 => hcv2 x h0 h1)]; exact hmi)
            refine mm_Es (fun _ _ => mm_iload dX2_isLand_47 rfl) ?_
            refine mm_Es (fun _ _ => mm_iload dX2_isLand_49 rfl) ?_
            refine mm_Eb (fun _ _ => mm_icmp_ge 151 dX2_isLand_51 (by decide)) (fun c_51 => ?_) (fun c_51 => ?_)
            · exact absurd c_51 (nI_ge hin (by omega))
            · refine mm_Es (fun _ _ => mm_iload dX2_isLand_54 rfl) ?_
              refine mm_Es (fun _ _ => mm_cS (Y1 := YJ6_bitCount_0f7a4) dX2_isLand_56 lX2_36 sJ6_bitCount_0f7a4 (mJ6_bitCount_0f7a4 d gg t (by omega)) rfl rfl (by simp [Value.category])) ?_
              refine mm_Es (fun _ _ => mm_iload_n dX2_isLand_59 rfl rfl) ?_
              refine mm_Eb (fun _ _ => mm_icmp_gt 137 dX2_isLand_60 (by decide)) (fun c_60 => ?_) (fun c_60 => ?_)
              · exact absurd c_60 (nI_nlt hb (by omega))
              · refine mm_Es (fun _ _ => mm_aload_n dX2_isLand_63 rfl rfl) ?_
                refine mm_Es (fun _ _ => mm_getS dX2_isLand_64 fX2_32 sh_159 rfl gr_159_1) ?_
                refine mm_Es (fun _ _ => mm_iload dX2_isLand_67 rfl) ?_
                refine mm_Es (fun _ _ => mm_cV (Y1 := YX0_worthOf) dX2_isLand_69 lX2_64 vX0_worthOf (M1) sh_135 rfl rfl (by simp [Value.category])) ?_
                refine mm_Es (fun _ _ => mm_istore dX2_isLand_72 (by decide) rfl) ?_
                refine mm_Es (fun _ _ => mm_aload_n dX2_isLand_74 rfl rfl) ?_
                refine mm_Es (fun _ _ => mm_getS dX2_isLand_75 fX2_32 sh_159 rfl gr_159_1) ?_
                refine mm_Es (fun _ _ => mm_aload_n dX2_isLand_78 rfl rfl) ?_
                refine mm_Es (fun _ _ => mm_getS dX2_isLand_79 fX2_32 sh_159 rfl gr_159_1) ?_
                refine mm_Es (fun _ _ => mm_iload dX2_isLand_82 rfl) ?_
                refine mm_Es (fun _ _ => mm_cV (Y1 := YX0_leaderOf) dX2_isLand_84 lX2_82 vX0_leaderOf (M3) sh_135 rfl rfl (by simp [Value.category])) ?_
                refine mm_Es (fun _ _ => mm_cV (Y1 := YX0_worthOf) dX2_isLand_87 lX2_64 vX0_worthOf (M4) sh_135 rfl rfl (by simp [Value.category])) ?_
                refine mm_Es (fun _ _ => mm_iload dX2_isLand_90 rfl) ?_
                refine mm_Eb (fun _ _ => mm_icmp_eq 104 dX2_isLand_92 (by decide)) (fun c_92 => ?_) (fun c_92 => ?_)
                · refine mm_Es (fun _ _ => mm_iload dX2_isLand_104 rfl) ?_
                  refine mm_Es (fun _ _ => mm_iconst (x := 1) dX2_isLand_106 (by decide)) ?_
                  refine mm_Eb (fun _ _ => mm_icmp_lt 137 dX2_isLand_107 (by decide)) (fun c_107 => ?_) (fun c_107 => ?_)
                  · refine mm_Es (fun _ _ => mm_iload dX2_isLand_137 rfl) ?_
                    refine mm_Es (fun _ _ => mm_iload_n dX2_isLand_139 rfl rfl) ?_
                    refine mm_Es (fun _ _ => mm_cSN (Y1 := YX10_nextWithin) dX2_isLand_140 (List.Mem.tail _ (List.Mem.head _)) sX10_nextWithin (mX10_nextWithin d g3 (nI t) (nI W)) rfl rfl (by simp [Value.category])) ?_
                    refine mm_Es (fun _ _ => mm_cast (st' := [.int (nI (sbs W (i + 1)))]) rfl (by rw [et, nx] <;> rfl) rfl) ?_
                    refine mm_Es (fun _ _ => mm_istore dX2_isLand_143 (by decide) rfl) ?_
                    refine mm_Es (fun _ _ => mm_iinc dX2_isLand_145 rfl (nI_inc i) rfl) ?_
                    refine mm_Es (fun _ _ => mm_goto 47 dX2_isLand_148 (by decide)) ?_
                    exact K _
                  · refine mm_Es (fun _ _ => mm_iload dX2_isLand_110 rfl) ?_
                    refine mm_Es (fun _ _ => mm_iload_n dX2_isLand_112 rfl rfl) ?_
                    refine mm_Eb (fun _ _ => mm_icmp_gt 137 dX2_isLand_113 (by decide)) (fun c_113 => ?_) (fun c_113 => ?_)
                    · refine mm_Es (fun _ _ => mm_iload dX2_isLand_137 rfl) ?_
                      refine mm_Es (fun _ _ => mm_iload_n dX2_isLand_139 rfl rfl) ?_
                      refine mm_Es (fun _ _ => mm_cSN (Y1 := YX10_nextWithin) dX2_isLand_140 (List.Mem.tail _ (List.Mem.head _)) sX10_nextWithin (mX10_nextWithin d g3 (nI t) (nI W)) rfl rfl (by simp [Value.category])) ?_
                      refine mm_Es (fun _ _ => mm_cast (st' := [.int (nI (sbs W (i + 1)))]) rfl (by rw [et, nx] <;> rfl) rfl) ?_
                      refine mm_Es (fun _ _ => mm_istore dX2_isLand_143 (by decide) rfl) ?_
                      refine mm_Es (fun _ _ => mm_iinc dX2_isLand_145 rfl (nI_inc i) rfl) ?_
                      refine mm_Es (fun _ _ => mm_goto 47 dX2_isLand_148 (by decide)) ?_
                      exact K _
                    · exfalso; rw [Int32.lt_iff_toInt_lt, ti_1] at c_107; rw [Int32.lt_iff_toInt_lt, nI_toInt (by omega)] at c_113; omega
                · exact absurd hw c_92
        · have hun : (unS (chd A Q k) (wtA A) q W) := ⟨l, t, hdl.1, hd, hdl.2, hw⟩
          have hng : ¬ (goodL A Q k q p W) := fun z => z.1 hun
          have hcn3 := hs3.cn
          rw [← et]
          refine mm_Es (fun _ _ => mm_iload dX2_isLand_47 rfl) ?_
          refine mm_Es (fun _ _ => mm_iload dX2_isLand_49 rfl) ?_
          refine mm_Eb (fun _ _ => mm_icmp_ge 151 dX2_isLand_51 (by decide)) (fun c_51 => ?_) (fun c_51 => ?_)
          · exact absurd c_51 (nI_ge hin (by omega))
          · refine mm_Es (fun _ _ => mm_iload dX2_isLand_54 rfl) ?_
            refine mm_Es (fun _ _ => mm_cS (Y1 := YJ6_bitCount_0f7a4) dX2_isLand_56 lX2_36 sJ6_bitCount_0f7a4 (mJ6_bitCount_0f7a4 d gg t (by omega)) rfl rfl (by simp [Value.category])) ?_
            refine mm_Es (fun _ _ => mm_iload_n dX2_isLand_59 rfl rfl) ?_
            refine mm_Eb (fun _ _ => mm_icmp_gt 137 dX2_isLand_60 (by decide)) (fun c_60 => ?_) (fun c_60 => ?_)
            · exact absurd c_60 (nI_nlt hb (by omega))
            · refine mm_Es (fun _ _ => mm_aload_n dX2_isLand_63 rfl rfl) ?_
              refine mm_Es (fun _ _ => mm_getS dX2_isLand_64 fX2_32 sh_159 rfl gr_159_1) ?_
              refine mm_Es (fun _ _ => mm_iload dX2_isLand_67 rfl) ?_
              refine mm_Es (fun _ _ => mm_cV (Y1 := YX0_worthOf) dX2_isLand_69 lX2_64 vX0_worthOf (M1) sh_135 rfl rfl (by simp [Value.category])) ?_
              refine mm_Es (fun _ _ => mm_istore dX2_isLand_72 (by decide) rfl) ?_
              refine mm_Es (fun _ _ => mm_aload_n dX2_isLand_74 rfl rfl) ?_
              refine mm_Es (fun _ _ => mm_getS dX2_isLand_75 fX2_32 sh_159 rfl gr_159_1) ?_
              refine mm_Es (fun _ _ => mm_aload_n dX2_isLand_78 rfl rfl) ?_
              refine mm_Es (fun _ _ => mm_getS dX2_isLand_79 fX2_32 sh_159 rfl gr_159_1) ?_
              refine mm_Es (fun _ _ => mm_iload dX2_isLand_82 rfl) ?_
              refine mm_Es (fun _ _ => mm_cV (Y1 := YX0_leaderOf) dX2_isLand_84 lX2_82 vX0_leaderOf (M3) sh_135 rfl rfl (by simp [Value.category])) ?_
              refine mm_Es (fun _ _ => mm_cV (Y1 := YX0_worthOf) dX2_isLand_87 lX2_64 vX0_worthOf (M4) sh_135 rfl rfl (by simp [Value.category])) ?_
              refine mm_Es (fun _ _ => mm_iload dX2_isLand_90 rfl) ?_
              refine mm_Eb (fun _ _ => mm_icmp_eq 104 dX2_isLand_92 (by decide)) (fun c_92 => ?_) (fun c_92 => ?_)
              · exact absurd c_92 hw
              · refine mm_Es (fun _ _ => mm_aload_n dX2_isLand_95 rfl rfl) ?_
                refine mm_Es (fun _ _ => mm_getS dX2_isLand_96 fX2_22 sh_159 rfl gr_159_5) ?_
                refine mm_Es (fun _ _ => mm_iload_n dX2_isLand_99 rfl rfl) ?_
                refine mm_Es (fun _ _ => mm_iconst (x := 1) dX2_isLand_100 (by decide)) ?_
                refine mm_Es (fun _ _ => mm_zast (W) dX2_isLand_101 sh_163 rfl (by omega) rfl) ?_
                refine mm_Es (fun _ _ => mm_iconst (x := 0) dX2_isLand_102 (by decide)) ?_
                refine mm_Er (mm_zreturn dX2_isLand_103 rfl (by first | rfl | exact pI_nar _)) ?_
                refine ⟨by rw [pI_0 hng], gcn_c hcn3 (by dsimp only; rw [mm_up_n (by decide)]) (by dsimp only; rw [mm_up_n (by decide)]) (by dsimp only; rw [mm_up_n (by decide)]), ⟨fg3.1.up (c := 163) rfl, fun j hj => by dsimp only; rw [mm_up_n (by decide)]; exact fg3.2 j hj⟩, fun _ => ?_, fun z => absurd hun z⟩
                dsimp only
                rw [mm_up_s, e163b]
                rfl
      · have hPn : ∀ s, PR W q (i + 1) s ↔ PR W q i s := fun s => PR_n (by rw [← et]; exact hb)
        have hPe : PR W q (i + 1) = PR W q i := funext (fun s => propext (hPn s))
        have K := ih (i + 1) (by omega) gg ld fg e163 hs
        rw [hPe] at K
        have K := K hL hC hF mi hmi
        rw [← et]
        refine mm_Es (fun _ _ => mm_iload dX2_isLand_47 rfl) ?_
        refine mm_Es (fun _ _ => mm_iload dX2_isLand_49 rfl) ?_
        refine mm_Eb (fun _ _ => mm_icmp_ge 151 dX2_isLand_51 (by decide)) (fun c_51 => ?_) (fun c_51 => ?_)
        · exact absurd c_51 (nI_ge hin (by omega))
        · refine mm_Es (fun _ _ => mm_iload dX2_isLand_54 rfl) ?_
          refine mm_Es (fun _ _ => mm_cS (Y1 := YJ6_bitCount_0f7a4) dX2_isLand_56 lX2_36 sJ6_bitCount_0f7a4 (mJ6_bitCount_0f7a4 d gg t (by omega)) rfl rfl (by simp [Value.category])) ?_
          refine mm_Es (fun _ _ => mm_iload_n dX2_isLand_59 rfl rfl) ?_
          refine mm_Eb (fun _ _ => mm_icmp_gt 137 dX2_isLand_60 (by decide)) (fun c_60 => ?_) (fun c_60 => ?_)
          · refine mm_Es (fun _ _ => mm_iload dX2_isLand_137 rfl) ?_
            refine mm_Es (fun _ _ => mm_iload_n dX2_isLand_139 rfl rfl) ?_
            refine mm_Es (fun _ _ => mm_cSN (Y1 := YX10_nextWithin) dX2_isLand_140 (List.Mem.tail _ (List.Mem.head _)) sX10_nextWithin (mX10_nextWithin d gg (nI t) (nI W)) rfl rfl (by simp [Value.category])) ?_
            refine mm_Es (fun _ _ => mm_cast (st' := [.int (nI (sbs W (i + 1)))]) rfl (by rw [et, nx] <;> rfl) rfl) ?_
            refine mm_Es (fun _ _ => mm_istore dX2_isLand_143 (by decide) rfl) ?_
            refine mm_Es (fun _ _ => mm_iinc dX2_isLand_145 rfl (nI_inc i) rfl) ?_
            refine mm_Es (fun _ _ => mm_goto 47 dX2_isLand_148 (by decide)) ?_
            exact K _
          · exact absurd (nI_lt (Nat.lt_of_not_le hb) (by omega)) c_60
  have K3 : ∀ m i, i + m = p + 1 → ∀ gg, frm (onep 164) h gg → (∀ x, x < i → gg.1 164 x = 0) → mm_E (d + 1) YX2_isLand 3 [some (.ref 159), some (.int (nI W)), some (.int (nI p)), some (.int (nI q)), some (.int (nI i)), none, none, none, none] [] gg (fun v g => v = some (.int (pI (goodL A Q k q p W))) ∧ gcn g (G + 1) ∧ ln_fr h g ∧ ((unS (chd A Q k) (wtA A) q W) → g.1 163 = upd (h.1 163) W 1) ∧ (¬ (unS (chd A Q k) (wtA A) q W) → g.1 163 = h.1 163)) := by
    intro m
    induction m with
    | zero =>
      intro i hi gg fg S
      have hi : i = p + 1 := by omega
      subst hi
      have MB := mX0_beginGroups d gg G (by rw [fg.i rfl]; exact hG.1)
      obtain ⟨g2, eg2⟩ : ∃ g2 : mm_H, g2 = (mm_up gg.1 135 11 (nI (G + 1)), gg.2.1, gg.2.2) := ⟨_, rfl⟩
      obtain ⟨-, hs2⟩ := begun hr (aimed_o hr hW fg (fun c hc => by simp [onep]; omega)) (gcn_c hG (by rw [fg.i rfl]) (fg.i rfl) (fg.i rfl)) hGb
      rw [← eg2] at MB hs2
      have f2 : ln_fr h g2 := by
        rw [eg2]
        refine ⟨(fg.mono (fun c hc => ?_)).up (c := 135) rfl, fun j hj => by dsimp only; rw [mm_up_k hj, fg.i rfl]⟩
        simp only [ln_p, Bool.or_eq_false_iff] at hc; exact hc.2
      have hPR0 : ∀ s, ¬ PR W q 0 s := fun s ⟨_, j, hj, _⟩ => by omega
      have K := K47 (2 ^ pc W) 0 (by omega) g2 (fun _ => none) f2 (by rw [eg2]; dsimp only; rw [mm_up_n (by decide), fg.i rfl]) hs2 (Linv_0 hPR0) (fun a b ha => absurd ha (hPR0 a)) (fun x h1 => ⟨fun z => by obtain ⟨-, s, s1, -⟩ := z; exact absurd s1 (hPR0 s), fun _ => by rw [eg2]; dsimp only; rw [mm_up_n (by decide)]; exact S x (by omega)⟩) p (by rw [cnP_c (Q := fun _ => False) p (fun x _ _ => ⟨fun ⟨s, s1, _⟩ => hPR0 s s1, False.elim⟩), cnP_F]; omega)
      rw [sbs_0] at K
      refine mm_Es (fun _ _ => mm_iload dX2_isLand_3 rfl) ?_
      refine mm_Es (fun _ _ => mm_iload_n dX2_isLand_5 rfl rfl) ?_
      refine mm_Eb (fun _ _ => mm_icmp_gt 23 dX2_isLand_6 (by decide)) (fun c_6 => ?_) (fun c_6 => ?_)
      · refine mm_Es (fun _ _ => mm_iload_n dX2_isLand_23 rfl rfl) ?_
        refine mm_Es (fun _ _ => mm_istore dX2_isLand_24 (by decide) rfl) ?_
        refine mm_Es (fun _ _ => mm_iconst (x := 1) dX2_isLand_26 (by decide)) ?_
        refine mm_Es (fun _ _ => mm_iload_n dX2_isLand_27 rfl rfl) ?_
        refine mm_Es (fun _ _ => mm_cS (Y1 := YJ6_bitCount_0f7a4) dX2_isLand_28 lX2_36 sJ6_bitCount_0f7a4 (mJ6_bitCount_0f7a4 d gg W hW4) rfl rfl (by simp [Value.category])) ?_
        refine mm_Es (fun _ _ => mm_ishl dX2_isLand_31) ?_
        refine mm_Es (fun _ _ => mm_cast (st' := [.int (nI (2 ^ pc W))]) rfl (by rw [sh1 hpc] <;> rfl) rfl) ?_
        refine mm_Es (fun _ _ => mm_istore dX2_isLand_32 (by decide) rfl) ?_
        refine mm_Es (fun _ _ => mm_iconst (x := 0) dX2_isLand_34 (by decide)) ?_
        refine mm_Es (fun _ _ => mm_istore dX2_isLand_35 (by decide) rfl) ?_
        refine mm_Es (fun _ _ => mm_aload_n dX2_isLand_37 rfl rfl) ?_
        refine mm_Es (fun _ _ => mm_getS dX2_isLand_38 fX2_32 sh_159 rfl gr_159_1) ?_
        refine mm_Es (fun _ _ => mm_cV (Y1 := YX0_beginGroups) dX2_isLand_41 lX2_79 vX0_beginGroups (MB) sh_135 rfl rfl (by simp [Value.category])) ?_
        refine mm_Es (fun _ _ => mm_iconst (x := 0) dX2_isLand_44 (by decide)) ?_
        refine mm_Es (fun _ _ => mm_istore dX2_isLand_45 (by decide) rfl) ?_
        exact K _
      · exact absurd (nI_lt (show p < p + 1 by omega) (by omega)) c_6
    | succ m ih =>
      intro i hi gg fg S
      have K := ih (i + 1) (by omega) (mm_up gg.1 164 i 0, gg.2.1, gg.2.2) (fg.up (c := 164) rfl) (fun x hx => by
        dsimp only
        by_cases z : x = i
        · subst z; rw [mm_up_e]
        · rw [mm_up_k z]; exact S x (by omega))
      refine mm_Es (fun _ _ => mm_iload dX2_isLand_3 rfl) ?_
      refine mm_Es (fun _ _ => mm_iload_n dX2_isLand_5 rfl rfl) ?_
      refine mm_Eb (fun _ _ => mm_icmp_gt 23 dX2_isLand_6 (by decide)) (fun c_6 => ?_) (fun c_6 => ?_)
      · exact absurd c_6 (nI_nlt (by omega) (by omega))
      · refine mm_Es (fun _ _ => mm_aload_n dX2_isLand_9 rfl rfl) ?_
        refine mm_Es (fun _ _ => mm_getS dX2_isLand_10 fX2_25 sh_159 rfl gr_159_6) ?_
        refine mm_Es (fun _ _ => mm_iload dX2_isLand_13 rfl) ?_
        refine mm_Es (fun _ _ => mm_iconst (x := 0) dX2_isLand_15 (by decide)) ?_
        refine mm_Es (fun _ _ => mm_zast (i) dX2_isLand_16 sh_164 rfl (by omega) rfl) ?_
        refine mm_Es (fun _ _ => mm_iinc dX2_isLand_17 rfl (nI_inc i) rfl) ?_
        refine mm_Es (fun _ _ => mm_goto 3 dX2_isLand_20 (by decide)) ?_
        exact K
  have K := K3 (p + 1) 0 (by omega) h (frm.refl _ _) (fun x hx => by omega)
  refine mm_Es (fun _ _ => mm_iconst (x := 0) dX2_isLand_0 (by decide)) ?_
  refine mm_Es (fun _ _ => mm_istore dX2_isLand_1 (by decide) rfl) ?_
  exact K
