/-! The class's chords: learn, aim. -/
def pC : Nat → Bool := fun c => rg 135 141 c || rg 145 154 c
theorem cinv_f {n : Nat} {ch : Nat → List Int32} {wt : Nat → Int32} {h g : mm_H} {m : Nat} {W : Nat → Nat} (hI : cinv n ch wt h m W) (e1 : g.1 135 6 = h.1 135 6) (e2 : g.1 136 = h.1 136) (e4 : g.1 138 = h.1 138) (e5 : g.1 139 = h.1 139) (e6 : g.1 140 = h.1 140) (e7 : g.1 141 = h.1 141) (e3 : ∀ b, b < 2 ^ n → h.1 136 b = 0 ∨ g.1 137 b = h.1 137 b) : cinv n ch wt g m W := by
  obtain ⟨c1, c2, c3, c4, c5, c6, c7, c8, c9, c10⟩ := hI
  refine ⟨c1, c2, c3, c4, by rw [e1]; exact c5, by rw [e4]; exact c6, by rw [e5]; exact c7, fun a ha => ?_, by rw [e6]; exact c9, by rw [e7]; exact c10⟩
  rw [e2]
  rcases e3 a ha with q | q
  · exact Or.inl q
  · rw [q]; exact c8 a ha
theorem slt_lt {A : MD} (hA : mdOK A) {a j : Nat} (ha : a < 2 ^ mn A) (hj : j < mn A) (hb : sp_bit (nI a) j = 1) : slt A a j < 1728 := by
  obtain ⟨l, hl, hln, -, hp2, -⟩ := sw_swO (k := 0) hA ha hj hb
  have := slO_lt hA.1 hp2 hln hj
  have hc := cube_le hA.1
  unfold slt
  rw [hl]
  exact Nat.lt_of_lt_of_le this hc
theorem kinv_c {A : MD} {Q : LD} {k : Nat} {h g : mm_H} (hI : kinv A Q k h) (e1 : g.1 146 = h.1 146) (e2 : g.1 147 = h.1 147) : kinv A Q k g := by unfold kinv at *; rw [e1, e2]; exact hI
/-- what a run that learns leaves as it was -/
def lrn_fr (h g : mm_H) : Prop := frm pC h g ∧ ∀ j, j ≠ 6 → g.1 135 j = h.1 135 j
theorem lrn_fr.refl (h : mm_H) : lrn_fr h h := ⟨frm.refl _ _, fun _ _ => rfl⟩
theorem lrn_fr.trans {h g k : mm_H} (a : lrn_fr h g) (b : lrn_fr g k) : lrn_fr h k := ⟨a.1.trans b.1, fun j hj => (b.2 j hj).trans (a.2 j hj)⟩
/-- more sets are learnt -/
def more (n : Nat) (h g : mm_H) : Prop := ∀ b, b < 2 ^ n → ¬ h.1 136 b = 0 → ¬ g.1 136 b = 0
set_option maxRecDepth 100000 in
set_option maxHeartbeats 4000000 in
theorem mX0_learn (d : Nat) (h : mm_H) (A : MD) (hA : mdOK A) (Q : LD) (r : Nat) (hr : r < 6) (hQ : lawOK Q) (k : Nat) (hk : k < mk A) (hW : aimed A Q r k h) (a : Nat) (ha : a < 2 ^ mn A) : ∃ g, mm_M (d + 4) YX0_learn [.ref 135, .int (nI a)] h none g ∧ aimed A Q r k g ∧ ¬ g.1 136 a = 0 ∧ more (mn A) h g ∧ lrn_fr h g := by
  refine mm_EM.v (mm_EM.of [some (.ref 135), some (.int (nI a))] rfl rfl (Nat.le_of_ble_eq_true rfl) ?_)
  have hW0 := hW
  obtain ⟨hV, hC, hR, hK, hI, m, W, hcv⟩ := hW
  have h12 := hA.1
  have hp := p2_lt h12
  by_cases hz : h.1 136 a = 0
  · obtain ⟨g1, M1, f1, s2, s3, s4, s5, s6⟩ := mX1_listen d h A hA hV Q r hr hQ hC hR k hk hK a ha hI
    have hV1 := viewC_f hV f1 (fun c hc => rg_f (by omega))
    have hol : (oL A Q k a).length ≤ mn A := ordL_len (mn A)
    obtain ⟨g2, M2, t1, t2, t3, t4, t5⟩ := mX1_gatherTones (d + 2) g1 (kN A Q k a) (kS A Q k a) (oL A Q k a) (by omega) s3 s4 (fun j hj => by
      have q := ordL_mem (mn A) j hj
      exact ⟨by omega, slt A a j, slt_lt hA ha q.1 q.2.1, s6 j q.1 q.2.1⟩)
    rw [hV1.2.2.1] at t4 t5
    have f12 : frm pC h g2 := by
      have a1 : frm pC h g1 := f1.mono (fun c hc => by
        simp only [pC, Bool.or_eq_false_iff, rg, decide_eq_false_iff_not] at hc
        exact rg_f (by omega))
      refine a1.trans ⟨fun c hc => ?_, by rw [t1]⟩
      simp only [pC, Bool.or_eq_false_iff, rg, decide_eq_false_iff_not] at hc
      exact ⟨t2 c (by omega) (by omega) (by omega) (by omega), by rw [t1]⟩
    have hn : ∀ c, c ≠ 152 → c ≠ 153 → c ≠ 154 → rg 145 151 c = false → g2.1 c = h.1 c := fun c h1 h2 h3 h4 => by
      rw [t2 c h1 h2 h3 (fun z => by rw [z] at h4; cases h4)]; exact f1.i h4
    have hV2 := viewC_f hV f12 (fun c hc => by simp only [pC, Bool.or_eq_false_iff]; exact ⟨rg_f (by omega), rg_f (by omega)⟩)
    have M3 := mX5_worthOf (d + 3) g2 65 mint65 (mn A) hV2.1 h12 (nI a)
    rw [sp_wth_c (mn A) (fun c hc => (hV2.2.2.2.2.1 c hc).2.2.1)] at M3
    obtain ⟨G, hG⟩ : ∃ G : mm_H, G = (mm_up g2.1 137 a (wtA A a), g2.2.1, g2.2.2) := ⟨_, rfl⟩
    have Gn : ∀ c, c ≠ 137 → G.1 c = g2.1 c := by intro c h1; rw [hG]; dsimp only; rw [mm_up_n h1]
    have hcv3 : cinv (mn A) (chd A Q k) (wtA A) G m W := by
      refine cinv_f hcv ?_ ?_ ?_ ?_ ?_ ?_ (fun b hb => ?_)
      · rw [Gn 135 (by decide), hn 135 (by decide) (by decide) (by decide) rfl]
      · rw [Gn 136 (by decide), hn 136 (by decide) (by decide) (by decide) rfl]
      · rw [Gn 138 (by decide), hn 138 (by decide) (by decide) (by decide) rfl]
      · rw [Gn 139 (by decide), hn 139 (by decide) (by decide) (by decide) rfl]
      · rw [Gn 140 (by decide), hn 140 (by decide) (by decide) (by decide) rfl]
      · rw [Gn 141 (by decide), hn 141 (by decide) (by decide) (by decide) rfl]
      · by_cases z : b = a
        · subst z; exact Or.inl hz
        · right; rw [hG]; dsimp only; rw [mm_up_k z, hn 137 (by decide) (by decide) (by decide) rfl]
    obtain ⟨x, g4, M4, m2, W2, i, ex, hi, hch, hcv4, f4, k4⟩ := mX0_numberOfTones (d + 2) G (mn A) (chd A Q k) (wtA A) m W hcv3 h12 (by rw [Gn 65 (by decide)]; exact hV2.1) a ha (fun x hx => chd_pc h12 Q k (by omega)) (by rw [Gn 145 (by decide), chd_len]; exact t4) (fun j hj => by
      rw [Gn 152 (by decide)]
      rw [chd_len] at hj
      exact chd_at t5 hj)
    subst ex
    have hm2 : m2 ≤ 4096 := hcv4.2.2.1
    obtain ⟨J, hJ⟩ : ∃ J : mm_H, J = (mm_up g4.1 136 a (nI (i + 1)), g4.2.1, g4.2.2) := ⟨_, rfl⟩
    have Jn : ∀ c, c ≠ 136 → J.1 c = g4.1 c := by intro c h1; rw [hJ]; dsimp only; rw [mm_up_n h1]
    have fJ : frm pC h J := by
      rw [hJ]
      have a1 : frm pC h G := by rw [hG]; exact f12.up rfl
      exact (a1.trans (f4.mono (fun c hc => by
        simp only [pC, Bool.or_eq_false_iff, rg, decide_eq_false_iff_not] at hc
        simp only [pNum, Bool.or_eq_false_iff, rg, decide_eq_false_iff_not, beq_eq_false_iff_ne]
        omega))).up rfl
    have j136 : ∀ b, J.1 136 b = if b = a then nI (i + 1) else h.1 136 b := by
      intro b
      rw [hJ]; dsimp only
      rw [mm_up_s, f4.i rfl, Gn 136 (by decide), hn 136 (by decide) (by decide) (by decide) rfl]
      rfl
    have e145 : ∀ j, j ≠ 9 → j ≠ 13 → J.1 145 j = h.1 145 j := fun j h1 h2 => by
      rw [Jn 145 (by decide), f4.i rfl, Gn 145 (by decide), t3 j h2, s2 j h1]
    have e146 : ∀ c, c = 146 ∨ c = 147 → J.1 c = g1.1 c := fun c hc => by
      rcases hc with rfl | rfl
      · rw [Jn 146 (by decide), f4.i rfl, Gn 146 (by decide), t2 146 (by decide) (by decide) (by decide) (by decide)]
      · rw [Jn 147 (by decide), f4.i rfl, Gn 147 (by decide), t2 147 (by decide) (by decide) (by decide) (by decide)]
    have hpost : aimed A Q r k J ∧ ¬ J.1 136 a = 0 ∧ more (mn A) h J ∧ lrn_fr h J := by
      refine ⟨⟨viewC_f hV fJ (fun c hc => by simp only [pC, Bool.or_eq_false_iff]; exact ⟨rg_f (by omega), rg_f (by omega)⟩), lawC_f hC fJ (fun c h1 h2 => by simp only [pC, Bool.or_eq_false_iff]; exact ⟨rg_f (by omega), rg_f (by omega)⟩), by rw [fJ.2]; exact hR, by rw [e145 2 (by decide) (by decide)]; exact hK, kinv_c s5 (e146 146 (Or.inl rfl)) (e146 147 (Or.inr rfl)), m2, W2, ?_⟩, ?_, fun b hb hnb => ?_, fJ, fun j hj => ?_⟩
      · obtain ⟨c1, c2, c3, c4, c5, c6, c7, c8, c9, c10⟩ := hcv4
        refine ⟨c1, c2, c3, c4, by rw [Jn 135 (by decide)]; exact c5, by rw [Jn 138 (by decide)]; exact c6, by rw [Jn 139 (by decide)]; exact c7, fun b hb => ?_, by rw [Jn 140 (by decide)]; exact c9, by rw [Jn 141 (by decide)]; exact c10⟩
        by_cases z : b = a
        · right
          refine ⟨i, hi, ?_, ?_, ?_⟩
          · rw [j136, if_pos z]
          · rw [z]; exact hch
          · rw [Jn 137 (by decide), f4.i rfl, z, hG]; dsimp only; rw [mm_up_e]
        · have q := c8 b hb
          rw [hJ]; dsimp only
          rw [mm_up_k z, mm_up_n (show 137 ≠ 136 by decide)]
          exact q
      · rw [j136, if_pos rfl]; exact nI_ne0 (by omega) (by omega)
      · rw [j136]
        by_cases z : b = a
        · rw [if_pos z]; exact nI_ne0 (by omega) (by omega)
        · rw [if_neg z]; exact hnb
      · rw [Jn 135 (by decide), k4 j hj, Gn 135 (by decide), hn 135 (by decide) (by decide) (by decide) rfl]
    refine mm_Es (fun _ _ => mm_aload_n dX0_learn_0 rfl rfl) ?_
    refine mm_Es (fun _ _ => mm_getS dX0_learn_1 fX0_15 sh_135 rfl gr_135_4) ?_
    refine mm_Es (fun _ _ => mm_iload_n dX0_learn_4 rfl rfl) ?_
    refine mm_Es (fun _ _ => mm_iald (a) dX0_learn_5 sh_136 rfl (by omega)) ?_
    refine mm_Ebn (fun _ _ => mm_if_ne 48 dX0_learn_6 (by decide)) (fun c_6 => ?_) (fun c_6 => ?_)
    · exact absurd hz c_6
    · refine mm_Es (fun _ _ => mm_aload_n dX0_learn_9 rfl rfl) ?_
      refine mm_Es (fun _ _ => mm_getS dX0_learn_10 fX0_56 sh_135 rfl gr_135_0) ?_
      refine mm_Es (fun _ _ => mm_iload_n dX0_learn_13 rfl rfl) ?_
      refine mm_Es (fun _ _ => mm_cV (Y1 := YX1_listen) dX0_learn_14 lX0_86 vX1_listen (M1) sh_145 rfl rfl (by simp [Value.category])) ?_
      refine mm_Es (fun _ _ => mm_aload_n dX0_learn_17 rfl rfl) ?_
      refine mm_Es (fun _ _ => mm_getS dX0_learn_18 fX0_56 sh_135 rfl gr_135_0) ?_
      refine mm_Es (fun _ _ => mm_cV (Y1 := YX1_gatherTones) dX0_learn_21 lX0_89 vX1_gatherTones (M2) sh_145 rfl rfl (by simp [Value.category])) ?_
      refine mm_Es (fun _ _ => mm_aload_n dX0_learn_24 rfl rfl) ?_
      refine mm_Es (fun _ _ => mm_getS dX0_learn_25 fX0_19 sh_135 rfl gr_135_5) ?_
      refine mm_Es (fun _ _ => mm_iload_n dX0_learn_28 rfl rfl) ?_
      refine mm_Es (fun _ _ => mm_aload_n dX0_learn_29 rfl rfl) ?_
      refine mm_Es (fun _ _ => mm_getS dX0_learn_30 fX0_43 sh_135 rfl gr_135_1) ?_
      refine mm_Es (fun _ _ => mm_iload_n dX0_learn_33 rfl rfl) ?_
      refine mm_Es (fun _ _ => mm_cV (Y1 := YX5_worthOf) dX0_learn_34 lX0_92 vX5_worthOf (M3) sh_65 rfl rfl (by simp [Value.category])) ?_
      refine mm_Es (fun _ _ => mm_iast (a) dX0_learn_37 sh_137 rfl (by omega)) ?_
      refine mm_Es (fun _ _ => mm_cast (g := G) rfl rfl hG.symm) ?_
      refine mm_Es (fun _ _ => mm_aload_n dX0_learn_38 rfl rfl) ?_
      refine mm_Es (fun _ _ => mm_getS dX0_learn_39 fX0_15 sh_135 rfl gr_135_4) ?_
      refine mm_Es (fun _ _ => mm_iload_n dX0_learn_42 rfl rfl) ?_
      refine mm_Es (fun _ _ => mm_aload_n dX0_learn_43 rfl rfl) ?_
      refine mm_Es (fun _ _ => mm_cV (Y1 := YX0_numberOfTones) dX0_learn_44 lX0_95 vX0_numberOfTones (M4) sh_135 rfl rfl (by simp [Value.category])) ?_
      refine mm_Es (fun _ _ => mm_iast (a) dX0_learn_47 sh_136 rfl (by omega)) ?_
      refine mm_Es (fun _ _ => mm_cast (g := J) rfl rfl hJ.symm) ?_
      refine mm_Er (mm_return dX0_learn_48 rfl) ?_
      exact ⟨rfl, hpost⟩
  · have hpost : aimed A Q r k h ∧ ¬ h.1 136 a = 0 ∧ more (mn A) h h ∧ lrn_fr h h := ⟨hW0, hz, fun b _ q => q, lrn_fr.refl h⟩
    refine mm_Es (fun _ _ => mm_aload_n dX0_learn_0 rfl rfl) ?_
    refine mm_Es (fun _ _ => mm_getS dX0_learn_1 fX0_15 sh_135 rfl gr_135_4) ?_
    refine mm_Es (fun _ _ => mm_iload_n dX0_learn_4 rfl rfl) ?_
    refine mm_Es (fun _ _ => mm_iald (a) dX0_learn_5 sh_136 rfl (by omega)) ?_
    refine mm_Ebn (fun _ _ => mm_if_ne 48 dX0_learn_6 (by decide)) (fun c_6 => ?_) (fun c_6 => ?_)
    · refine mm_Er (mm_return dX0_learn_48 rfl) ?_
      exact ⟨rfl, hpost⟩
    · exact absurd c_6 hz
/-- what turning to a law and a counter leaves as it was -/
def aim_fr (h g : mm_H) : Prop := (∀ c, pC c = false → g.1 c = h.1 c ∧ g.2.1 c = h.2.1 c) ∧ (∀ c, c ≠ 135 → c ≠ 145 → g.2.2 c = h.2.2 c) ∧ ∀ j, j ≠ 6 → j ≠ 3 → g.1 135 j = h.1 135 j
set_option maxRecDepth 100000 in
set_option maxHeartbeats 4000000 in
theorem mX0_aim_s (d : Nat) (h : mm_H) (r k : Nat) (hr : r < 6) (e1 : h.2.2 135 = 25 + 6 * r) (e2 : h.1 135 3 = nI k) : mm_M (d + 1) YX0_aim [.ref 135, .ref (25 + 6 * r), .int (nI k)] h none h := by
  refine mm_M.of [some (.ref 135), some (.ref (25 + 6 * r)), some (.int (nI k)), none] rfl rfl (Nat.le_of_ble_eq_true rfl) ?_
  refine mm_aload_n dX0_aim_0 rfl rfl ?_
  refine mm_aload_n dX0_aim_1 rfl rfl ?_
  refine mm_getR dX0_aim_2 fX0_47 sh_135 rfl e1 ?_
  refine mm_acmp_ne 17 dX0_aim_5 (by decide) ⟨mm_lt (law_i r hr).1 (by decide), mm_lt (law_i r hr).1 (by decide)⟩ (fun c_5 => ?_) (fun c_5 => ?_)
  · exact absurd rfl c_5
  · refine mm_iload_n dX0_aim_8 rfl rfl ?_
    refine mm_aload_n dX0_aim_9 rfl rfl ?_
    refine mm_getI dX0_aim_10 fX0_9 sh_135 rfl ?_
    refine mm_icmp_ne 17 dX0_aim_13 (by decide) (fun c_13 => ?_) (fun c_13 => ?_)
    · exact absurd e2.symm c_13
    · exact mm_retE dX0_aim_16 rfl rfl
set_option maxRecDepth 100000 in
set_option maxHeartbeats 4000000 in
theorem mX0_aim_n (d : Nat) (h : mm_H) (A : MD) (hA : mdOK A) (hV : viewC h A) (Q : LD) (r : Nat) (hr : r < 6) (hC : lawC h.1 (25 + 6 * r) Q) (k : Nat) (r0 : Nat) (hr0 : r0 < 6) (e1 : h.2.2 135 = 25 + 6 * r0) (hne : ¬ (r = r0 ∧ h.1 135 3 = nI k)) (h138 : h.1 138 1 = 0) : ∃ g, mm_M (d + 1) YX0_aim [.ref 135, .ref (25 + 6 * r), .int (nI k)] h none g ∧ aimed A Q r k g ∧ g.2.2 135 = 25 + 6 * r ∧ g.1 135 3 = nI k ∧ aim_fr h g ∧ g.1 138 = h.1 138 := by
  refine mm_EM.v (mm_EM.of [some (.ref 135), some (.ref (25 + 6 * r)), some (.int (nI k)), none] rfl rfl (Nat.le_of_ble_eq_true rfl) ?_)
  have h12 := hA.1
  have hp := p2_lt h12
  obtain ⟨H1, eH1⟩ : ∃ H1 : mm_H, H1 = (mm_up h.1 135 3 (nI k), h.2.1, mm_upR h.2.2 135 (25 + 6 * r)) := ⟨_, rfl⟩
  have n1 : ∀ c, c ≠ 135 → H1.1 c = h.1 c := by intro c hc; rw [eH1]; dsimp only; rw [mm_up_n hc]
  have hV1 : viewC H1 A := by
    unfold viewC at *
    rw [n1 65 (by decide), n1 66 (by decide), n1 67 (by decide), n1 68 (by decide), n1 69 (by decide), n1 70 (by decide), n1 71 (by decide), n1 72 (by decide), n1 73 (by decide)]
    exact hV
  obtain ⟨g1, M1, f1, s1, s2, s3⟩ := mX1_aim d H1 A hA hV1 Q (25 + 6 * r) k
  have q1 : ∀ c, rg 145 146 c = false → g1.1 c = H1.1 c := fun c hc => f1.i hc
  have e22 : ∀ c, g1.2.2 c = if c = 145 then 25 + 6 * r else if c = 135 then 25 + 6 * r else h.2.2 c := by
    intro c
    rw [f1.2, eH1]
    rfl
  have e65 : g1.1 65 0 = nI (mn A) := by rw [q1 65 rfl]; exact hV1.1
  have P0 : mm_H → Prop := fun _ => True
  have K43 : ∀ q i, i + q = 2 ^ mn A → ∀ g, frm (fun c => c == 135 || c == 136 || c == 140) g1 g → (∀ j, j ≠ 6 → g.1 135 j = g1.1 135 j) → g.1 135 6 = 0 → (∀ j, j < i → g.1 136 j = 0 ∧ g.1 140 j = 0) → mm_E (d + 1) YX0_aim 43 [some (.ref 135), some (.ref (25 + 6 * r)), some (.int (nI k)), some (.int (nI i))] [] g (fun v g => v = none ∧ aimed A Q r k g ∧ g.2.2 135 = 25 + 6 * r ∧ g.1 135 3 = nI k ∧ aim_fr h g ∧ g.1 138 = h.1 138) := by
    intro q
    induction q with
    | zero =>
      intro i hi g fg a1 a2 a3
      have hi : i = 2 ^ mn A := by omega
      subst hi
      have e65g : g.1 65 0 = nI (mn A) := by rw [fg.i rfl]; exact e65
      have hn : ∀ c, c ≠ 135 → c ≠ 136 → c ≠ 140 → rg 145 146 c = false → g.1 c = h.1 c := fun c h1 h2 h3 h4 => by
        rw [fg.i (by simp [h1, h2, h3]), q1 c h4, n1 c h1]
      have hpost : aimed A Q r k g ∧ g.2.2 135 = 25 + 6 * r ∧ g.1 135 3 = nI k ∧ aim_fr h g ∧ g.1 138 = h.1 138 := by
        refine ⟨⟨?_, ?_, ?_, ?_, ?_, 0, fun _ => 0, ?_⟩, ?_, ?_, ⟨fun c hc => ?_, fun c h1 h2 => ?_, fun j h1 h2 => ?_⟩, hn 138 (by decide) (by decide) (by decide) rfl⟩
        · unfold viewC at *
          rw [hn 65 (by decide) (by decide) (by decide) rfl, hn 66 (by decide) (by decide) (by decide) rfl, hn 67 (by decide) (by decide) (by decide) rfl, hn 68 (by decide) (by decide) (by decide) rfl, hn 69 (by decide) (by decide) (by decide) rfl, hn 70 (by decide) (by decide) (by decide) rfl, hn 71 (by decide) (by decide) (by decide) rfl, hn 72 (by decide) (by decide) (by decide) rfl, hn 73 (by decide) (by decide) (by decide) rfl]
          exact hV
        · exact lawC_c hC (fun c h1 h2 => hn c (by omega) (by omega) (by omega) (rg_f (by omega)))
        · rw [fg.2, e22]; rfl
        · rw [fg.i rfl]; exact s2
        · exact kinv_c s3 (fg.i rfl) (fg.i rfl)
        · refine ⟨fun i hi => by omega, fun i j hi => by omega, by decide, Nat.zero_le _, a2, fun i hi => ?_, fun i hi => by omega, fun a ha => Or.inl (a3 a ha).1, fun p hp2 => (a3 p hp2).2, fun i hi => by omega⟩
          have : i = 0 := by omega
          subst this
          rw [hn 138 (by decide) (by decide) (by decide) rfl]
          exact h138
        · rw [fg.2, e22]; rfl
        · rw [a1 3 (by decide), q1 135 rfl, eH1]; dsimp only; rw [mm_up_e]
        · simp only [pC, Bool.or_eq_false_iff, rg, decide_eq_false_iff_not] at hc
          refine ⟨hn c (by omega) (by omega) (by omega) (rg_f (by omega)), ?_⟩
          rw [fg.l (by simp; omega), f1.l (rg_f (by omega)), eH1]
        · rw [fg.2, e22, if_neg h2, if_neg h1]
        · rw [a1 j h1, q1 135 rfl, eH1]; dsimp only; rw [mm_up_k h2]
      refine mm_Es (fun _ _ => mm_iload_n dX0_aim_43 rfl rfl) ?_
      refine mm_Es (fun _ _ => mm_iconst (x := 1) dX0_aim_44 (by decide)) ?_
      refine mm_Es (fun _ _ => mm_aload_n dX0_aim_45 rfl rfl) ?_
      refine mm_Es (fun _ _ => mm_getS dX0_aim_46 fX0_43 sh_135 rfl gr_135_1) ?_
      refine mm_Es (fun _ _ => mm_getI dX0_aim_49 fX0_67 sh_65 rfl) ?_
      refine mm_Es (fun _ _ => mm_ishl dX0_aim_52) ?_
      refine mm_Eb (fun _ _ => mm_icmp_ge 76 dX0_aim_53 (by decide)) (fun c_53 => ?_) (fun c_53 => ?_)
      · refine mm_Er (mm_return dX0_aim_76 rfl) ?_
        exact ⟨rfl, hpost⟩
      · exact absurd (by rw [e65g, sh1 h12]; exact Int32.le_refl _) c_53
    | succ q ih =>
      intro i hi g fg a1 a2 a3
      have e65g : g.1 65 0 = nI (mn A) := by rw [fg.i rfl]; exact e65
      have K := ih (i + 1) (by omega) (mm_up (mm_up g.1 136 i 0) 140 i 0, g.2.1, g.2.2) ((fg.up (c := 136) rfl).up (c := 140) rfl) (fun j hj => by dsimp only; rw [mm_up_n (by decide), mm_up_n (by decide)]; exact a1 j hj) (by dsimp only; rw [mm_up_n (by decide), mm_up_n (by decide)]; exact a2) (fun j hj => by
        dsimp only
        rw [mm_up_n (show 136 ≠ 140 by decide), mm_up_s, mm_up_s, mm_up_n (show 140 ≠ 136 by decide)]
        unfold upd
        by_cases z : j = i
        · rw [if_pos z, if_pos z]; exact ⟨rfl, rfl⟩
        · rw [if_neg z, if_neg z]; exact a3 j (by omega))
      refine mm_Es (fun _ _ => mm_iload_n dX0_aim_43 rfl rfl) ?_
      refine mm_Es (fun _ _ => mm_iconst (x := 1) dX0_aim_44 (by decide)) ?_
      refine mm_Es (fun _ _ => mm_aload_n dX0_aim_45 rfl rfl) ?_
      refine mm_Es (fun _ _ => mm_getS dX0_aim_46 fX0_43 sh_135 rfl gr_135_1) ?_
      refine mm_Es (fun _ _ => mm_getI dX0_aim_49 fX0_67 sh_65 rfl) ?_
      refine mm_Es (fun _ _ => mm_ishl dX0_aim_52) ?_
      refine mm_Eb (fun _ _ => mm_icmp_ge 76 dX0_aim_53 (by decide)) (fun c_53 => ?_) (fun c_53 => ?_)
      · exact absurd (by rw [e65g, sh1 h12] at c_53; exact c_53) (nI_ge (show i < 2 ^ mn A by omega) (by omega))
      · refine mm_Es (fun _ _ => mm_aload_n dX0_aim_56 rfl rfl) ?_
        refine mm_Es (fun _ _ => mm_getS dX0_aim_57 fX0_15 sh_135 rfl gr_135_4) ?_
        refine mm_Es (fun _ _ => mm_iload_n dX0_aim_60 rfl rfl) ?_
        refine mm_Es (fun _ _ => mm_iconst (x := 0) dX0_aim_61 (by decide)) ?_
        refine mm_Es (fun _ _ => mm_iast (i) dX0_aim_62 sh_136 rfl (by omega)) ?_
        refine mm_Es (fun _ _ => mm_aload_n dX0_aim_63 rfl rfl) ?_
        refine mm_Es (fun _ _ => mm_getS dX0_aim_64 fX0_28 sh_135 rfl gr_135_9) ?_
        refine mm_Es (fun _ _ => mm_iload_n dX0_aim_67 rfl rfl) ?_
        refine mm_Es (fun _ _ => mm_iconst (x := 0) dX0_aim_68 (by decide)) ?_
        refine mm_Es (fun _ _ => mm_iast (i) dX0_aim_69 sh_140 rfl (by omega)) ?_
        refine mm_Es (fun _ _ => mm_iinc dX0_aim_70 rfl (nI_inc i) rfl) ?_
        refine mm_Es (fun _ _ => mm_goto 43 dX0_aim_73 (by decide)) ?_
        exact K
  have K := K43 (2 ^ mn A) 0 (by omega) (mm_up g1.1 135 6 0, g1.2.1, g1.2.2) ((frm.refl _ g1).up rfl) (fun j hj => by dsimp only; rw [mm_up_k hj]) (by dsimp only; rw [mm_up_e]) (fun j hj => by omega)
  refine mm_Es (fun _ _ => mm_aload_n dX0_aim_0 rfl rfl) ?_
  refine mm_Es (fun _ _ => mm_aload_n dX0_aim_1 rfl rfl) ?_
  refine mm_Es (fun _ _ => mm_getR dX0_aim_2 fX0_47 sh_135 rfl e1) ?_
  refine mm_Ebn (fun _ _ => mm_acmp_ne 17 dX0_aim_5 (by decide) ⟨mm_lt (law_i r hr).1 (by decide), mm_lt (law_i r0 hr0).1 (by decide)⟩) (fun c_5 => ?_) (fun c_5 => ?_)
  · refine mm_Es (fun _ _ => mm_aload_n dX0_aim_17 rfl rfl) ?_
    refine mm_Es (fun _ _ => mm_aload_n dX0_aim_18 rfl rfl) ?_
    refine mm_Es (fun _ _ => mm_putR dX0_aim_19 fX0_47 sh_135 rfl (by decide) (by decide)) ?_
    refine mm_Es (fun _ _ => mm_aload_n dX0_aim_22 rfl rfl) ?_
    refine mm_Es (fun _ _ => mm_iload_n dX0_aim_23 rfl rfl) ?_
    refine mm_Es (fun _ _ => mm_putI dX0_aim_24 fX0_9 sh_135 rfl rfl rfl) ?_
    refine mm_Es (fun _ _ => mm_cast (g := H1) rfl rfl eH1.symm) ?_
    refine mm_Es (fun _ _ => mm_aload_n dX0_aim_27 rfl rfl) ?_
    refine mm_Es (fun _ _ => mm_getS dX0_aim_28 fX0_56 sh_135 rfl gr_135_0) ?_
    refine mm_Es (fun _ _ => mm_aload_n dX0_aim_31 rfl rfl) ?_
    refine mm_Es (fun _ _ => mm_iload_n dX0_aim_32 rfl rfl) ?_
    refine mm_Es (fun _ _ => mm_cV (Y1 := YX1_aim) dX0_aim_33 lX0_60 vX1_aim (M1) sh_145 rfl rfl (by simp [Value.category])) ?_
    refine mm_Es (fun _ _ => mm_aload_n dX0_aim_36 rfl rfl) ?_
    refine mm_Es (fun _ _ => mm_iconst (x := 0) dX0_aim_37 (by decide)) ?_
    refine mm_Es (fun _ _ => mm_putI dX0_aim_38 fX0_64 sh_135 rfl rfl rfl) ?_
    refine mm_Es (fun _ _ => mm_iconst (x := 0) dX0_aim_41 (by decide)) ?_
    refine mm_Es (fun _ _ => mm_istore_n dX0_aim_42 rfl (by decide) rfl) ?_
    exact K
  · refine mm_Es (fun _ _ => mm_iload_n dX0_aim_8 rfl rfl) ?_
    refine mm_Es (fun _ _ => mm_aload_n dX0_aim_9 rfl rfl) ?_
    refine mm_Es (fun _ _ => mm_getI dX0_aim_10 fX0_9 sh_135 rfl) ?_
    refine mm_Ebn (fun _ _ => mm_icmp_ne 17 dX0_aim_13 (by decide)) (fun c_13 => ?_) (fun c_13 => ?_)
    · refine mm_Es (fun _ _ => mm_aload_n dX0_aim_17 rfl rfl) ?_
      refine mm_Es (fun _ _ => mm_aload_n dX0_aim_18 rfl rfl) ?_
      refine mm_Es (fun _ _ => mm_putR dX0_aim_19 fX0_47 sh_135 rfl (by decide) (by decide)) ?_
      refine mm_Es (fun _ _ => mm_aload_n dX0_aim_22 rfl rfl) ?_
      refine mm_Es (fun _ _ => mm_iload_n dX0_aim_23 rfl rfl) ?_
      refine mm_Es (fun _ _ => mm_putI dX0_aim_24 fX0_9 sh_135 rfl rfl rfl) ?_
      refine mm_Es (fun _ _ => mm_cast (g := H1) rfl rfl eH1.symm) ?_
      refine mm_Es (fun _ _ => mm_aload_n dX0_aim_27 rfl rfl) ?_
      refine mm_Es (fun _ _ => mm_getS dX0_aim_28 fX0_56 sh_135 rfl gr_135_0) ?_
      refine mm_Es (fun _ _ => mm_aload_n dX0_aim_31 rfl rfl) ?_
      refine mm_Es (fun _ _ => mm_iload_n dX0_aim_32 rfl rfl) ?_
      refine mm_Es (fun _ _ => mm_cV (Y1 := YX1_aim) dX0_aim_33 lX0_60 vX1_aim (M1) sh_145 rfl rfl (by simp [Value.category])) ?_
      refine mm_Es (fun _ _ => mm_aload_n dX0_aim_36 rfl rfl) ?_
      refine mm_Es (fun _ _ => mm_iconst (x := 0) dX0_aim_37 (by decide)) ?_
      refine mm_Es (fun _ _ => mm_putI dX0_aim_38 fX0_64 sh_135 rfl rfl rfl) ?_
      refine mm_Es (fun _ _ => mm_iconst (x := 0) dX0_aim_41 (by decide)) ?_
      refine mm_Es (fun _ _ => mm_istore_n dX0_aim_42 rfl (by decide) rfl) ?_
      exact K
    · exact absurd ⟨by omega, c_13.symm⟩ hne
