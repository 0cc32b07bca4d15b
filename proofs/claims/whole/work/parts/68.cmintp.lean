/-! mint: the class. -/
def pCM : Nat → Bool := fun c => c == 0 || rg 4 17 c || c == 61 || rg 65 73 c || c == 135
def cm_fr (h g : mm_H) : Prop := frm pCM h g ∧ (∀ j, j ≠ 1 → g.1 0 j = h.1 0 j) ∧ ∀ j, j ≠ 3 → g.1 135 j = h.1 135 j
/-- what the class's mint answers and leaves -/
def cmP (h g : mm_H) (A : MD) (LQ : Nat → LD) (nl G : Nat) (x : Int32) (r : Except Nat MD) : Prop := match r with
  | .ok A2 => x = nI (mn A2) ∧ stC A2 LQ nl g G ∧ g.1 61 2 = 0 ∧ g.1 61 5 = 0 ∧ g.1 61 6 = h.1 61 6
  | .error c => x = -2 - nI c ∧ stC A LQ nl g G ∧ (∀ e, 61 ≤ e ∧ e ≤ 73 → g.1 e = h.1 e)
set_option maxRecDepth 100000 in
set_option maxHeartbeats 4000000 in
theorem mX10_mint (d : Nat) (h : mm_H) (A : MD) (LQ : Nat → LD) (nl G : Nat) (S : stC A LQ nl h G) (B : Nat → Int32) (n : Nat) (hn : n ≤ 400) (h1 : h.1 0 1 = nI n) (hB : ∀ i, i < n → h.1 1 i = B i) : ∃ x g, mm_M (d + 8) YX10_mint [.ref 0] h (some (.int x)) g ∧ cm_fr h g ∧ g.1 0 1 = 0 ∧ cmP h g A LQ nl G x (mrun B n 30 A0 0 0 (sk B n 0)) := by
  have S0 := S
  obtain ⟨hA, hV, h6, hn6, hL, ⟨c1, r0, c2, c3, c4⟩, hcG⟩ := S
  obtain ⟨g1, M1, t1, f1⟩ := mX8_split d h B n hn hB
  obtain ⟨g2, eg2⟩ : ∃ g : mm_H, g = (mm_up g1.1 0 1 0, g1.2.1, g1.2.2) := ⟨_, rfl⟩
  have f2 : frm (onep 0) g1 g2 := by rw [eg2]; exact (frm.refl _ g1).up (c := 0) rfl
  have t2 : TX B n g2 (sk B n 0) 0 := TX_f t1 f2 ⟨rfl, rfl, rfl, rfl⟩
  obtain ⟨c, g3, M3, f3, r3⟩ := mX6_read (d + 3) g2 B n hn (sk B n 0) t2
  have e01 : g3.1 0 1 = 0 := by rw [f3.i rfl, eg2]; dsimp only; rw [mm_up_e]
  have e0 : ∀ j, j ≠ 1 → g3.1 0 j = h.1 0 j := fun j hj => by rw [f3.i rfl, eg2]; dsimp only; rw [mm_up_k hj, f1.i rfl]
  have fr3 : frm (fun c => c == 0 || rg 4 17 c) h g3 := ((f1.mono (fun c hc => by simp only [Bool.or_eq_false_iff, rg, decide_eq_false_iff_not] at hc ⊢; omega)).trans (f2.mono (fun c hc => by simp only [Bool.or_eq_false_iff] at hc; exact hc.1))).trans (f3.mono (fun c hc => by simp only [pM8, Bool.or_eq_false_iff, beq_eq_false_iff_ne, rg, decide_eq_false_iff_not] at hc ⊢; omega))
  have fT3 : frm pCM h g3 := fr3.mono (fun c hc => by simp only [pCM, Bool.or_eq_false_iff] at hc ⊢; exact ⟨hc.1.1.1.1, hc.1.1.1.2⟩)
  have e135 : ∀ c, 18 ≤ c → g3.1 c = h.1 c := fun c hc => fr3.i (by simp only [Bool.or_eq_false_iff, beq_eq_false_iff_ne, rg, decide_eq_false_iff_not]; omega)
  have keep : ∀ g A2, frm pCM h g → (∀ j, j ≠ 1 → g.1 0 j = h.1 0 j) → (∀ j, j ≠ 3 → g.1 135 j = h.1 135 j) → viewC g A2 → mdOK A2 → (g.1 135 3 = -1) → stC A2 LQ nl g G := fun g A2 fr e0 e35 hV2 hA2 hm1 => by
    have lo : ∀ c, (18 ≤ c ∧ c ≤ 60) ∨ (74 ≤ c ∧ c ≠ 135) → pCM c = false := fun c hc => by simp only [pCM, Bool.or_eq_false_iff, beq_eq_false_iff_ne, rg, decide_eq_false_iff_not]; omega
    exact ⟨hA2, hV2, by rw [e0 6 (by decide)]; exact h6, hn6, fun q hq => ⟨(hL q hq).1, lawC_f (hL q hq).2 fr (fun c h1 h2 => lo c (by omega))⟩, ⟨by rw [fr.i (lo 138 (by decide))]; exact c1, r0, c2, by rw [fr.2]; exact c3, Or.inl hm1⟩, gcn_c hcG (e35 11 (by decide)) (fr.i (lo 142 (by decide))) (fr.i (lo 143 (by decide)))⟩
  cases e : mrun B n 30 A0 0 0 (sk B n 0) with
  | error q =>
    rw [e] at r3
    obtain ⟨rfl, q0, q4⟩ := r3
    refine ⟨-2 - nI c, g3, ?_, ⟨fT3, e0, fun j _ => by rw [e135 135 (by decide)]⟩, e01, rfl, ?_, fun e he => e135 e (by omega)⟩
    · refine mm_M.of [some (.ref 0), none] rfl rfl (Nat.le_of_ble_eq_true rfl) ?_
      refine mm_aload_n dX10_mint_0 rfl rfl ?_
      refine mm_getS dX10_mint_1 fX10_16 sh_0 rfl gr_0_2 ?_
      refine mm_aload_n dX10_mint_4 rfl rfl ?_
      refine mm_getS dX10_mint_5 fX10_9 sh_0 rfl gr_0_0 ?_
      refine mm_aload_n dX10_mint_8 rfl rfl ?_
      refine mm_getI dX10_mint_9 fX10_91 sh_0 rfl ?_
      refine mm_cast (st' := [.int (nI n), .ref 1, .ref 4]) rfl (by rw [h1] <;> rfl) rfl ?_
      refine mm_cV (Y1 := YX8_split) dX10_mint_12 lX10_99 vX8_split (M1) sh_4 rfl rfl (by simp [Value.category]) ?_
      refine mm_aload_n dX10_mint_15 rfl rfl ?_
      refine mm_iconst (x := 0) dX10_mint_16 (by decide) ?_
      refine mm_putI dX10_mint_17 fX10_91 sh_0 rfl rfl rfl ?_
      refine mm_cast rfl rfl eg2.symm ?_
      refine mm_aload_n dX10_mint_20 rfl rfl ?_
      refine mm_getS dX10_mint_21 fX10_25 sh_0 rfl gr_0_3 ?_
      refine mm_cV (Y1 := YX6_read) dX10_mint_24 lX10_103 vX6_read (M3) sh_8 rfl rfl (by simp [Value.category]) ?_
      refine mm_istore_n dX10_mint_27 rfl (by decide) rfl ?_
      refine mm_iload_n dX10_mint_28 rfl rfl ?_
      refine mm_if_eq 37 dX10_mint_29 (by decide) (fun c_29 => ?_) (fun c_29 => ?_)
      · exact absurd ((nI_eq (b := 0) (by omega) (by omega)).mp c_29) q0
      · refine mm_bipush (x := (-2)) dX10_mint_32 (by decide) ?_
        refine mm_iload_n dX10_mint_34 rfl rfl ?_
        refine mm_isub dX10_mint_35 ?_
        exact mm_iretE dX10_mint_36 rfl rfl rfl
    · refine ⟨hA, viewC_f hV fr3 (fun c hc => by simp only [Bool.or_eq_false_iff, beq_eq_false_iff_ne, rg, decide_eq_false_iff_not]; omega), by rw [e0 6 (by decide)]; exact h6, hn6, fun q hq => ⟨(hL q hq).1, lawC_f (hL q hq).2 fr3 (fun c h1 h2 => by simp only [Bool.or_eq_false_iff, beq_eq_false_iff_ne, rg, decide_eq_false_iff_not]; omega)⟩, ⟨by rw [e135 138 (by decide)]; exact c1, r0, c2, by rw [fr3.2]; exact c3, ?_⟩, gcn_c hcG (by rw [e135 135 (by decide)]) (e135 142 (by decide)) (e135 143 (by decide))⟩
      rcases c4 with w | ⟨k, w1, w2, w3⟩
      · exact Or.inl (by rw [e135 135 (by decide)]; exact w)
      · refine Or.inr ⟨k, w1, w2, ?_, by rw [fr3.2]; exact w3.2.1, by rw [e135 135 (by decide)]; exact w3.2.2⟩
        obtain ⟨⟨x1, x2, x3, x4, x5, m, W, x6⟩, -⟩ := w3
        exact ⟨viewC_f x1 fr3 (fun c hc => by simp only [Bool.or_eq_false_iff, beq_eq_false_iff_ne, rg, decide_eq_false_iff_not]; omega), lawC_f x2 fr3 (fun c h1 h2 => by simp only [Bool.or_eq_false_iff, beq_eq_false_iff_ne, rg, decide_eq_false_iff_not]; omega), by rw [fr3.2]; exact x3, by rw [e135 145 (by decide)]; exact x4, kinv_c x5 (e135 146 (by decide)) (e135 147 (by decide)), m, W, cinv_f x6 (by rw [e135 135 (by decide)]) (e135 136 (by decide)) (e135 138 (by decide)) (e135 139 (by decide)) (e135 140 (by decide)) (e135 141 (by decide)) (fun b _ => Or.inr (by rw [e135 137 (by decide)]))⟩
  | ok A2 =>
    rw [e] at r3
    obtain ⟨rfl, hVd⟩ := r3
    obtain ⟨hA2, hz2, hk2⟩ := mrun_ok 30 A0 0 0 (sk B n 0) A2 A0_ok.1 A0_ok.2 e
    obtain ⟨g4, M4, q1, q2, q3, q4, q5, q6⟩ := mX7_takeMint (d + 5) g3
    have M5 := mX0_forget (d + 7) g4
    obtain ⟨g5, eg5⟩ : ∃ g : mm_H, g = (mm_up g4.1 135 3 (-1), g4.2.1, g4.2.2) := ⟨_, rfl⟩
    rw [← eg5] at M5
    have n5 : ∀ c, c ≠ 135 → g5.1 c = g4.1 c := fun c hc => by rw [eg5]; dsimp only; rw [mm_up_n hc]
    have r5 : g5.2 = g3.2 := by rw [eg5]; exact q1
    obtain ⟨p1, p2, p3, p4, p5, p6⟩ := q2
    have h12 := hA2.1
    have h44 := hA2.2.1
    have hV5 : viewC g5 A2 := by
      obtain ⟨v1, v2, v3, v4, v5, v6⟩ := hVd
      unfold viewC
      rw [n5 65 (by decide), n5 66 (by decide), n5 67 (by decide), n5 68 (by decide), n5 69 (by decide), n5 70 (by decide), n5 71 (by decide), n5 72 (by decide), n5 73 (by decide)]
      refine ⟨p1.trans v1, p2.trans v2, p3.trans v3, p4.trans v4, fun c hc => ?_, fun c hc => ?_⟩
      · obtain ⟨w1, w2, w3, w4, w5, w6⟩ := v5 c hc
        exact ⟨(p5 1 c (by decide) (by decide) (by omega)).trans w1, (p5 2 c (by decide) (by decide) (by omega)).trans w2, (p5 3 c (by decide) (by decide) (by omega)).trans w3, (p5 4 c (by decide) (by decide) (by omega)).trans w4, (p5 5 c (by decide) (by decide) (by omega)).trans w5, (p5 6 c (by decide) (by decide) (by omega)).trans w6⟩
      · obtain ⟨w1, w2⟩ := v6 c hc
        exact ⟨(p6 7 c (by decide) (by decide) (by omega)).trans w1, (p6 8 c (by decide) (by decide) (by omega)).trans w2⟩
    have fr5 : frm pCM h g5 := by
      refine fT3.trans ⟨fun c hc => ?_, by rw [show g5.2.2 = g3.2.2 by rw [r5]]⟩
      simp only [pCM, Bool.or_eq_false_iff, beq_eq_false_iff_ne, rg, decide_eq_false_iff_not] at hc
      exact ⟨by rw [n5 c (by omega)]; exact q6 c (by omega) (by omega), by rw [show g5.2.1 = g3.2.1 by rw [r5]]⟩
    have e05 : ∀ j, g5.1 0 j = g3.1 0 j := fun j => by rw [n5 0 (by decide), q6 0 (by decide) (by decide)]
    have e35 : ∀ j, j ≠ 3 → g5.1 135 j = h.1 135 j := fun j hj => by rw [eg5]; dsimp only; rw [mm_up_k hj, q6 135 (by decide) (by decide), e135 135 (by decide)]
    refine ⟨nI (mn A2), g5, ?_, ⟨fr5, fun j hj => by rw [e05]; exact e0 j hj, e35⟩, by rw [e05]; exact e01, rfl, keep g5 A2 fr5 (fun j hj => by rw [e05]; exact e0 j hj) e35 hV5 hA2 (by rw [eg5]; dsimp only; rw [mm_up_e]), by rw [n5 61 (by decide)]; exact q3, by rw [n5 61 (by decide)]; exact q4, by rw [n5 61 (by decide), q5, e135 61 (by decide)]⟩
    refine mm_M.of [some (.ref 0), none] rfl rfl (Nat.le_of_ble_eq_true rfl) ?_
    refine mm_aload_n dX10_mint_0 rfl rfl ?_
    refine mm_getS dX10_mint_1 fX10_16 sh_0 rfl gr_0_2 ?_
    refine mm_aload_n dX10_mint_4 rfl rfl ?_
    refine mm_getS dX10_mint_5 fX10_9 sh_0 rfl gr_0_0 ?_
    refine mm_aload_n dX10_mint_8 rfl rfl ?_
    refine mm_getI dX10_mint_9 fX10_91 sh_0 rfl ?_
    refine mm_cast (st' := [.int (nI n), .ref 1, .ref 4]) rfl (by rw [h1] <;> rfl) rfl ?_
    refine mm_cV (Y1 := YX8_split) dX10_mint_12 lX10_99 vX8_split (M1) sh_4 rfl rfl (by simp [Value.category]) ?_
    refine mm_aload_n dX10_mint_15 rfl rfl ?_
    refine mm_iconst (x := 0) dX10_mint_16 (by decide) ?_
    refine mm_putI dX10_mint_17 fX10_91 sh_0 rfl rfl rfl ?_
    refine mm_cast rfl rfl eg2.symm ?_
    refine mm_aload_n dX10_mint_20 rfl rfl ?_
    refine mm_getS dX10_mint_21 fX10_25 sh_0 rfl gr_0_3 ?_
    refine mm_cV (Y1 := YX6_read) dX10_mint_24 lX10_103 vX6_read (M3) sh_8 rfl rfl (by simp [Value.category]) ?_
    refine mm_istore_n dX10_mint_27 rfl (by decide) rfl ?_
    refine mm_iload_n dX10_mint_28 rfl rfl ?_
    refine mm_if_eq 37 dX10_mint_29 (by decide) (fun c_29 => ?_) (fun c_29 => ?_)
    · refine mm_aload_n dX10_mint_37 rfl rfl ?_
      refine mm_getS dX10_mint_38 fX10_45 sh_0 rfl gr_0_7 ?_
      refine mm_aload_n dX10_mint_41 rfl rfl ?_
      refine mm_getS dX10_mint_42 fX10_25 sh_0 rfl gr_0_3 ?_
      refine mm_getS dX10_mint_45 fX10_107 sh_8 rfl gr_8_0 ?_
      refine mm_cV (Y1 := YX7_takeMint) dX10_mint_48 lX10_110 vX7_takeMint (M4) sh_61 rfl rfl (by simp [Value.category]) ?_
      refine mm_aload_n dX10_mint_51 rfl rfl ?_
      refine mm_getS dX10_mint_52 fX10_69 sh_0 rfl gr_0_10 ?_
      refine mm_cV (Y1 := YX0_forget) dX10_mint_55 lX10_114 vX0_forget (M5) sh_135 rfl rfl (by simp [Value.category]) ?_
      refine mm_aload_n dX10_mint_58 rfl rfl ?_
      refine mm_getS dX10_mint_59 fX10_45 sh_0 rfl gr_0_7 ?_
      refine mm_getS dX10_mint_62 fX10_63 sh_61 rfl gr_61_0 ?_
      refine mm_getI dX10_mint_65 fX10_117 sh_65 rfl ?_
      exact mm_iretE dX10_mint_68 rfl hV5.1 rfl
    · exact absurd rfl c_29
