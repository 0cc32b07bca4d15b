/-! mint: the reference. -/
theorem kd_0 {B : Nat → Int32} {n p : Nat} (hp : p ≤ n) : kd B n p = 0 ↔ p = n := by
  unfold kd
  by_cases z : n ≤ p
  · rw [if_pos z]; exact ⟨fun _ => by omega, fun _ => rfl⟩
  · rw [if_neg z]
    refine ⟨fun w => ?_, fun w => by omega⟩
    exfalso
    by_cases y : isD (B p)
    · rw [if_pos y] at w; omega
    · rw [if_neg y] at w
      by_cases v : isLt (B p)
      · rw [if_pos v] at w; have := wk_bd B p (en B n p); omega
      · rw [if_neg v] at w
        unfold sgn at w
        repeat (first | omega | split at w)
theorem nx_3 {B : Nat → Int32} {n p : Nat} (hp : p < n) (h : kd B n p = 3) : nx B n p = sk B n (p + 1) := by
  have e := (kd_3 hp).mp h
  unfold nx
  rw [if_neg (by omega)]
  have : en B n p = p + 1 := by
    unfold en
    rw [if_neg (fun z => by rcases z.1 with w | w <;> (rw [e] at w; exact absurd w (by decide))), if_neg (by rw [e]; decide), if_neg (by rw [e]; decide)]
  rw [this]
def pMM : Nat → Bool := fun c => c == 165 || rg 166 181 c
def mm_fj (j : Nat) : Prop := j ≠ 20 ∧ j ≠ 21 ∧ j ≠ 22 ∧ j ≠ 25 ∧ j ≠ 26 ∧ j ≠ 27 ∧ j ≠ 30 ∧ j ≠ 31
def mmi_fr (h g : mm_H) : Prop := frm pMM h g ∧ ∀ j, mm_fj j → g.1 165 j = h.1 165 j
theorem mmi_fr.trans {h g k : mm_H} (a : mmi_fr h g) (b : mmi_fr g k) : mmi_fr h k := ⟨a.1.trans b.1, fun j hj => (b.2 j hj).trans (a.2 j hj)⟩
theorem mn_fr.mi {h g : mm_H} (a : mn_fr h g) : mmi_fr h g := ⟨a.1.mono (fun c hc => by simp only [pMM, pN, Bool.or_eq_false_iff, beq_eq_false_iff_ne, rg, decide_eq_false_iff_not] at hc ⊢; omega), fun j hj => a.2 j hj.2.1 hj.2.2.1 hj.2.2.2.2.2.2.1 hj.2.2.2.2.2.2.2⟩
/-- what the reference's mint answers and leaves -/
def mmP (h g : mm_H) (A : MD) (LQ : Nat → LD) (nl : Nat) (x : Int32) (r : Except Nat MD) : Prop := match r with
  | .ok A2 => x = nI (mn A2) ∧ stM A2 LQ nl g ∧ g.1 166 4 = 0 ∧ g.1 166 5 = 0 ∧ g.1 166 6 = h.1 166 6
  | .error c => x = -2 - nI c ∧ stM A LQ nl g ∧ g.1 166 = h.1 166
set_option maxRecDepth 100000 in
set_option maxHeartbeats 4000000 in
theorem mX11_mint (d : Nat) (h : mm_H) (A : MD) (LQ : Nat → LD) (nl : Nat) (S : stM A LQ nl h) (B : Nat → Int32) (n : Nat) (hn : n ≤ 400) (h1 : h.1 165 20 = nI n) (hB : ∀ i, i < n → h.1 185 i = B i) (hby : ∀ i, byt (B i)) : ∃ x g, mm_M (d + 7) YX11_mint [.ref 165] h (some (.int x)) g ∧ mmi_fr h g ∧ g.1 165 20 = 0 ∧ mmP h g A LQ nl x (mrun B n 30 A0 0 0 (sk B n 0)) := by
  suffices hE : mm_E (d + 7) YX11_mint 0 [some (.ref 165), none, none, none] [] h (fun v g => ∃ x, v = some (.int x) ∧ mmi_fr h g ∧ g.1 165 20 = 0 ∧ mmP h g A LQ nl x (mrun B n 30 A0 0 0 (sk B n 0))) by
    obtain ⟨v, g, hR, x, rfl, h1⟩ := hE
    exact ⟨x, g, mm_M.of _ rfl rfl (Nat.le_of_ble_eq_true rfl) hR, h1⟩
  obtain ⟨hA, hV, h6, hn6, hL⟩ := S
  have keep : ∀ g A2, mmi_fr h g → viewM g A2 → mdOK A2 → stM A2 LQ nl g := fun g A2 fr hV2 hA2 => ⟨hA2, hV2, by rw [fr.2 24 (by unfold mm_fj; decide)]; exact h6, hn6, fun q hq => ⟨(hL q hq).1, lawM_f (hL q hq).2 fr.1 (fun c h1 h2 => by simp only [pMM, Bool.or_eq_false_iff, beq_eq_false_iff_ne, rg, decide_eq_false_iff_not]; omega)⟩⟩
  have K83e : ∀ gg c r x1 x2, mmi_fr h gg → (∀ e, 166 ≤ e → e ≤ 172 → gg.1 e = h.1 e) → gg.1 180 = h.1 180 → gg.1 181 = h.1 181 → ∀ p, MT B n gg p c → ¬ c = 0 → c < 4000 → r = .error c → mm_E (d + 7) YX11_mint 83 [some (.ref 165), x1, x2, none] [] gg (fun v g => ∃ x, v = some (.int x) ∧ mmi_fr h g ∧ g.1 165 20 = 0 ∧ mmP h g A LQ nl x r) := by
    intro gg c r x1 x2 fg2 e166 e180 e181 p tg hc hc4 hr
    obtain ⟨ge, ege⟩ : ∃ g : mm_H, g = (mm_up gg.1 165 20 0, gg.2.1, gg.2.2) := ⟨_, rfl⟩
    have e22 : ge.1 165 22 = nI c := by rw [ege]; dsimp only; rw [mm_up_k (by decide)]; exact tg.2.2.1
    have fe : mmi_fr h ge := fg2.trans (by rw [ege]; exact ⟨(frm.refl _ gg).up (c := 165) rfl, fun j hj => by dsimp only; rw [mm_up_k hj.1]⟩)
    have n5 : ∀ q, q ≠ 165 → ge.1 q = gg.1 q := fun q hq => by rw [ege]; dsimp only; rw [mm_up_n hq]
    have hVe : viewM ge A := by
      unfold viewM at hV ⊢
      rw [n5 166 (by decide), n5 167 (by decide), n5 168 (by decide), n5 169 (by decide), n5 170 (by decide), n5 171 (by decide), n5 172 (by decide), n5 180 (by decide), n5 181 (by decide), e166 166 (by decide) (by decide), e166 167 (by decide) (by decide), e166 168 (by decide) (by decide), e166 169 (by decide) (by decide), e166 170 (by decide) (by decide), e166 171 (by decide) (by decide), e166 172 (by decide) (by decide), e180, e181]
      exact hV
    refine mm_Es (fun _ _ => mm_aload_n dX11_mint_83 rfl rfl) ?_
    refine mm_Es (fun _ _ => mm_iconst (x := 0) dX11_mint_84 (by decide)) ?_
    refine mm_Es (fun _ _ => mm_putI dX11_mint_85 fX11_181 sh_165 rfl rfl rfl) ?_
    refine mm_Ec rfl rfl ege.symm ?_
    refine mm_Es (fun _ _ => mm_aload_n dX11_mint_88 rfl rfl) ?_
    refine mm_Es (fun _ _ => mm_getI dX11_mint_89 fX11_208 sh_165 rfl) ?_
    refine mm_Eb (fun _ _ => mm_if_le 103 dX11_mint_92 (by decide)) (fun c_92 => ?_) (fun c_92 => ?_)
    · exfalso; rw [e22, Int32.le_iff_toInt_le, nI_toInt (by omega), ti_0] at c_92; omega
    · refine mm_Es (fun _ _ => mm_bipush (x := (-2)) dX11_mint_95 (by decide)) ?_
      refine mm_Es (fun _ _ => mm_aload_n dX11_mint_97 rfl rfl) ?_
      refine mm_Es (fun _ _ => mm_getI dX11_mint_98 fX11_208 sh_165 rfl) ?_
      refine mm_Es (fun _ _ => mm_isub dX11_mint_101) ?_
      refine mm_Er (mm_ireturn dX11_mint_102 rfl) ?_
      exact ⟨-2 - nI c, by rw [e22], fe, by rw [ege]; dsimp only; rw [mm_up_e], by rw [hr]; exact ⟨rfl, keep ge A fe hVe hA, by rw [n5 166 (by decide), e166 166 (by decide) (by decide)]⟩⟩
  have K58e : ∀ gg p c r x1 x2, mn_fr h gg ∨ mmi_fr h gg → (∀ e, 166 ≤ e → e ≤ 172 → gg.1 e = h.1 e) → gg.1 180 = h.1 180 → gg.1 181 = h.1 181 → MT B n gg p c → ¬ c = 0 → c < 4000 → r = .error c → mm_E (d + 7) YX11_mint 58 [some (.ref 165), x1, x2, none] [] gg (fun v g => ∃ x, v = some (.int x) ∧ mmi_fr h g ∧ g.1 165 20 = 0 ∧ mmP h g A LQ nl x r) := by
    intro gg p c r x1 x2 fg e166 e180 e181 tg hc hc4 hr
    have fg2 : mmi_fr h gg := fg.elim (fun z => z.mi) id
    have K83x := K83e gg c r x1 x2 fg2 e166 e180 e181 p tg hc hc4 hr
    refine mm_Es (fun _ _ => mm_aload_n dX11_mint_58 rfl rfl) ?_
    refine mm_Es (fun _ _ => mm_getI dX11_mint_59 fX11_208 sh_165 rfl) ?_
    refine mm_Ebn (fun _ _ => mm_if_ne 83 dX11_mint_62 (by decide)) (fun c_62 => ?_) (fun c_62 => ?_)
    · exact K83x
    · exact absurd ((nI_eq (b := 0) (by omega) (by omega)).mp (tg.2.2.1.symm.trans c_62)) hc
  have K83 : ∀ gg p A2 x1 (x2 : Int32), mn_fr h gg ∨ mmi_fr h gg → (∀ e, e = 166 → gg.1 e = h.1 e) → MT B n gg p 0 → viewN gg A2 → mdOK A2 → zH A2 → mm_E (d + 7) YX11_mint 83 [some (.ref 165), x1, some (.int x2), none] [] gg (fun v g => ∃ x, v = some (.int x) ∧ mmi_fr h g ∧ g.1 165 20 = 0 ∧ mmP h g A LQ nl x (.ok A2)) := by
    intro gg p A2 x1 x2 fg e166 tg hVn hA2 hz2
    have fg2 : mmi_fr h gg := fg.elim (fun z => z.mi) id
    have h12 := hA2.1
    have h44 := hA2.2.1
    obtain ⟨v1, v2, v3, v4, v5, v6⟩ := hVn
    obtain ⟨w0, ew0⟩ : ∃ g : mm_H, g = (mm_up gg.1 165 20 0, gg.2.1, gg.2.2) := ⟨_, rfl⟩
    have L0 := mX11_lay (d + 6) w0 173 166 4 7 sh_173 sh_166 (by decide) (by decide)
    obtain ⟨w1, ew1⟩ : ∃ g : mm_H, g = (mm_row w0.1 166 (sp_lay (w0.1 173) (w0.1 166) 4), w0.2.1, w0.2.2) := ⟨_, rfl⟩
    rw [← ew1] at L0
    have L1 := mX11_lay (d + 6) w1 174 167 12 12 sh_174 sh_167 (by decide) (by decide)
    obtain ⟨w2, ew2⟩ : ∃ g : mm_H, g = (mm_row w1.1 167 (sp_lay (w1.1 174) (w1.1 167) 12), w1.2.1, w1.2.2) := ⟨_, rfl⟩
    rw [← ew2] at L1
    have L2 := mX11_lay (d + 6) w2 175 168 12 12 sh_175 sh_168 (by decide) (by decide)
    obtain ⟨w3, ew3⟩ : ∃ g : mm_H, g = (mm_row w2.1 168 (sp_lay (w2.1 175) (w2.1 168) 12), w2.2.1, w2.2.2) := ⟨_, rfl⟩
    rw [← ew3] at L2
    have L3 := mX11_lay (d + 6) w3 176 169 12 12 sh_176 sh_169 (by decide) (by decide)
    obtain ⟨w4, ew4⟩ : ∃ g : mm_H, g = (mm_row w3.1 169 (sp_lay (w3.1 176) (w3.1 169) 12), w3.2.1, w3.2.2) := ⟨_, rfl⟩
    rw [← ew4] at L3
    have L4 := mX11_lay (d + 6) w4 177 170 12 12 sh_177 sh_170 (by decide) (by decide)
    obtain ⟨w5, ew5⟩ : ∃ g : mm_H, g = (mm_row w4.1 170 (sp_lay (w4.1 177) (w4.1 170) 12), w4.2.1, w4.2.2) := ⟨_, rfl⟩
    rw [← ew5] at L4
    have L5 := mX11_lay (d + 6) w5 178 171 4 4 sh_178 sh_171 (by decide) (by decide)
    obtain ⟨w6, ew6⟩ : ∃ g : mm_H, g = (mm_row w5.1 171 (sp_lay (w5.1 178) (w5.1 171) 4), w5.2.1, w5.2.2) := ⟨_, rfl⟩
    rw [← ew6] at L5
    have L6 := mX11_lay (d + 6) w6 179 172 4 4 sh_179 sh_172 (by decide) (by decide)
    obtain ⟨w7, ew7⟩ : ∃ g : mm_H, g = (mm_row w6.1 172 (sp_lay (w6.1 179) (w6.1 172) 4), w6.2.1, w6.2.2) := ⟨_, rfl⟩
    rw [← ew7] at L6
    have a0 : w0.1 173 = gg.1 173 := by rw [ew0]; dsimp only; rw [mm_up_n (by decide)]
    have b0 : w0.1 166 = gg.1 166 := by rw [ew0]; dsimp only; rw [mm_up_n (by decide)]
    have r0 : w7.1 166 = sp_lay (gg.1 173) (gg.1 166) 4 := by rw [ew7]; dsimp only; rw [mm_row_n (by decide)]; rw [ew6]; dsimp only; rw [mm_row_n (by decide)]; rw [ew5]; dsimp only; rw [mm_row_n (by decide)]; rw [ew4]; dsimp only; rw [mm_row_n (by decide)]; rw [ew3]; dsimp only; rw [mm_row_n (by decide)]; rw [ew2]; dsimp only; rw [mm_row_n (by decide)]; rw [ew1]; dsimp only; rw [mm_row_s]; rw [a0, b0]
    have a1 : w1.1 174 = gg.1 174 := by rw [ew1]; dsimp only; rw [mm_row_n (by decide)]; rw [ew0]; dsimp only; rw [mm_up_n (by decide)]
    have b1 : w1.1 167 = gg.1 167 := by rw [ew1]; dsimp only; rw [mm_row_n (by decide)]; rw [ew0]; dsimp only; rw [mm_up_n (by decide)]
    have r1 : w7.1 167 = sp_lay (gg.1 174) (gg.1 167) 12 := by rw [ew7]; dsimp only; rw [mm_row_n (by decide)]; rw [ew6]; dsimp only; rw [mm_row_n (by decide)]; rw [ew5]; dsimp only; rw [mm_row_n (by decide)]; rw [ew4]; dsimp only; rw [mm_row_n (by decide)]; rw [ew3]; dsimp only; rw [mm_row_n (by decide)]; rw [ew2]; dsimp only; rw [mm_row_s]; rw [a1, b1]
    have a2 : w2.1 175 = gg.1 175 := by rw [ew2]; dsimp only; rw [mm_row_n (by decide)]; rw [ew1]; dsimp only; rw [mm_row_n (by decide)]; rw [ew0]; dsimp only; rw [mm_up_n (by decide)]
    have b2 : w2.1 168 = gg.1 168 := by rw [ew2]; dsimp only; rw [mm_row_n (by decide)]; rw [ew1]; dsimp only; rw [mm_row_n (by decide)]; rw [ew0]; dsimp only; rw [mm_up_n (by decide)]
    have r2 : w7.1 168 = sp_lay (gg.1 175) (gg.1 168) 12 := by rw [ew7]; dsimp only; rw [mm_row_n (by decide)]; rw [ew6]; dsimp only; rw [mm_row_n (by decide)]; rw [ew5]; dsimp only; rw [mm_row_n (by decide)]; rw [ew4]; dsimp only; rw [mm_row_n (by decide)]; rw [ew3]; dsimp only; rw [mm_row_s]; rw [a2, b2]
    have a3 : w3.1 176 = gg.1 176 := by rw [ew3]; dsimp only; rw [mm_row_n (by decide)]; rw [ew2]; dsimp only; rw [mm_row_n (by decide)]; rw [ew1]; dsimp only; rw [mm_row_n (by decide)]; rw [ew0]; dsimp only; rw [mm_up_n (by decide)]
    have b3 : w3.1 169 = gg.1 169 := by rw [ew3]; dsimp only; rw [mm_row_n (by decide)]; rw [ew2]; dsimp only; rw [mm_row_n (by decide)]; rw [ew1]; dsimp only; rw [mm_row_n (by decide)]; rw [ew0]; dsimp only; rw [mm_up_n (by decide)]
    have r3 : w7.1 169 = sp_lay (gg.1 176) (gg.1 169) 12 := by rw [ew7]; dsimp only; rw [mm_row_n (by decide)]; rw [ew6]; dsimp only; rw [mm_row_n (by decide)]; rw [ew5]; dsimp only; rw [mm_row_n (by decide)]; rw [ew4]; dsimp only; rw [mm_row_s]; rw [a3, b3]
    have a4 : w4.1 177 = gg.1 177 := by rw [ew4]; dsimp only; rw [mm_row_n (by decide)]; rw [ew3]; dsimp only; rw [mm_row_n (by decide)]; rw [ew2]; dsimp only; rw [mm_row_n (by decide)]; rw [ew1]; dsimp only; rw [mm_row_n (by decide)]; rw [ew0]; dsimp only; rw [mm_up_n (by decide)]
    have b4 : w4.1 170 = gg.1 170 := by rw [ew4]; dsimp only; rw [mm_row_n (by decide)]; rw [ew3]; dsimp only; rw [mm_row_n (by decide)]; rw [ew2]; dsimp only; rw [mm_row_n (by decide)]; rw [ew1]; dsimp only; rw [mm_row_n (by decide)]; rw [ew0]; dsimp only; rw [mm_up_n (by decide)]
    have r4 : w7.1 170 = sp_lay (gg.1 177) (gg.1 170) 12 := by rw [ew7]; dsimp only; rw [mm_row_n (by decide)]; rw [ew6]; dsimp only; rw [mm_row_n (by decide)]; rw [ew5]; dsimp only; rw [mm_row_s]; rw [a4, b4]
    have a5 : w5.1 178 = gg.1 178 := by rw [ew5]; dsimp only; rw [mm_row_n (by decide)]; rw [ew4]; dsimp only; rw [mm_row_n (by decide)]; rw [ew3]; dsimp only; rw [mm_row_n (by decide)]; rw [ew2]; dsimp only; rw [mm_row_n (by decide)]; rw [ew1]; dsimp only; rw [mm_row_n (by decide)]; rw [ew0]; dsimp only; rw [mm_up_n (by decide)]
    have b5 : w5.1 171 = gg.1 171 := by rw [ew5]; dsimp only; rw [mm_row_n (by decide)]; rw [ew4]; dsimp only; rw [mm_row_n (by decide)]; rw [ew3]; dsimp only; rw [mm_row_n (by decide)]; rw [ew2]; dsimp only; rw [mm_row_n (by decide)]; rw [ew1]; dsimp only; rw [mm_row_n (by decide)]; rw [ew0]; dsimp only; rw [mm_up_n (by decide)]
    have r5 : w7.1 171 = sp_lay (gg.1 178) (gg.1 171) 4 := by rw [ew7]; dsimp only; rw [mm_row_n (by decide)]; rw [ew6]; dsimp only; rw [mm_row_s]; rw [a5, b5]
    have a6 : w6.1 179 = gg.1 179 := by rw [ew6]; dsimp only; rw [mm_row_n (by decide)]; rw [ew5]; dsimp only; rw [mm_row_n (by decide)]; rw [ew4]; dsimp only; rw [mm_row_n (by decide)]; rw [ew3]; dsimp only; rw [mm_row_n (by decide)]; rw [ew2]; dsimp only; rw [mm_row_n (by decide)]; rw [ew1]; dsimp only; rw [mm_row_n (by decide)]; rw [ew0]; dsimp only; rw [mm_up_n (by decide)]
    have b6 : w6.1 172 = gg.1 172 := by rw [ew6]; dsimp only; rw [mm_row_n (by decide)]; rw [ew5]; dsimp only; rw [mm_row_n (by decide)]; rw [ew4]; dsimp only; rw [mm_row_n (by decide)]; rw [ew3]; dsimp only; rw [mm_row_n (by decide)]; rw [ew2]; dsimp only; rw [mm_row_n (by decide)]; rw [ew1]; dsimp only; rw [mm_row_n (by decide)]; rw [ew0]; dsimp only; rw [mm_up_n (by decide)]
    have r6 : w7.1 172 = sp_lay (gg.1 179) (gg.1 172) 4 := by rw [ew7]; dsimp only; rw [mm_row_s]; rw [a6, b6]
    have n7 : ∀ c, c ≠ 165 → ¬ (166 ≤ c ∧ c ≤ 172) → w7.1 c = gg.1 c := fun c hc h2 => by
      rw [ew7]; dsimp only; rw [mm_row_n (by omega), ew6]; dsimp only; rw [mm_row_n (by omega), ew5]; dsimp only; rw [mm_row_n (by omega), ew4]; dsimp only; rw [mm_row_n (by omega), ew3]; dsimp only; rw [mm_row_n (by omega), ew2]; dsimp only; rw [mm_row_n (by omega), ew1]; dsimp only; rw [mm_row_n (by omega), ew0]; dsimp only; rw [mm_up_n hc]
    have m7 : w7.1 165 = upd (gg.1 165) 20 0 := by
      rw [ew7]; dsimp only; rw [mm_row_n (by decide), ew6]; dsimp only; rw [mm_row_n (by decide), ew5]; dsimp only; rw [mm_row_n (by decide), ew4]; dsimp only; rw [mm_row_n (by decide), ew3]; dsimp only; rw [mm_row_n (by decide), ew2]; dsimp only; rw [mm_row_n (by decide), ew1]; dsimp only; rw [mm_row_n (by decide), ew0]; dsimp only; rw [mm_up_s]
    have s7 : w7.2 = gg.2 := by rw [ew7, ew6, ew5, ew4, ew3, ew2, ew1, ew0]
    have e22 : w0.1 165 22 = 0 := by rw [ew0]; dsimp only; rw [mm_up_k (by decide)]; exact tg.2.2.1
    have K182 : ∀ m i, i + m = 12 → ∀ k, frm (rg 180 181) w7 k → (∀ j, j < i → k.1 180 j = 0 ∧ k.1 181 j = 0) → mm_E (d + 7) YX11_mint 182 [some (.ref 165), x1, some (.int x2), some (.int (nI i))] [] k (fun v g => ∃ x, v = some (.int x) ∧ mmi_fr h g ∧ g.1 165 20 = 0 ∧ mmP h g A LQ nl x (.ok A2)) := by
      intro m
      induction m with
      | zero =>
        intro i hi k fk zk
        have hi : i = 12 := by omega
        subst hi
        obtain ⟨ge, ege⟩ : ∃ g : mm_H, g = (mm_up (mm_up k.1 166 4 0) 166 5 0, k.2.1, k.2.2) := ⟨_, rfl⟩
        have ke : ∀ c, c ≠ 166 → ge.1 c = k.1 c := fun c hc => by rw [ege]; dsimp only; rw [mm_up_n hc, mm_up_n hc]
        have k7 : ∀ c, c ≠ 180 → c ≠ 181 → k.1 c = w7.1 c := fun c h1 h2 => fk.i (rg_f (by omega))
        have e166' : ∀ j, j ≠ 4 → j ≠ 5 → ge.1 166 j = w7.1 166 j := fun j h1 h2 => by rw [ege]; dsimp only; rw [mm_up_k h2, mm_up_k h1, k7 166 (by decide) (by decide)]
        have sc : ∀ j, j < 4 → ge.1 166 j = gg.1 173 j := fun j hj => by rw [e166' j (by omega) (by omega), r0]; unfold sp_lay; rw [if_pos hj]
        have rw12 : ∀ (a b : Nat) (na c : Nat), b ≠ 166 → b ≠ 180 → b ≠ 181 → w7.1 b = sp_lay (gg.1 a) (gg.1 b) na → c < na → ge.1 b c = gg.1 a c := fun a b na c h1 h2 h3 hr hc => by rw [ke b h1, k7 b h2 h3, hr]; unfold sp_lay; rw [if_pos hc]
        have hVe : viewM ge A2 := by
          refine ⟨(sc 0 (by decide)).trans v1, (sc 1 (by decide)).trans v2, (sc 2 (by decide)).trans v3, (sc 3 (by decide)).trans v4, fun c hc => ?_, fun c hc => ?_⟩
          · obtain ⟨u1, u2, u3, u4⟩ := v5 c hc
            obtain ⟨y1, y2⟩ := hz2 c hc
            exact ⟨(rw12 174 167 12 c (by decide) (by decide) (by decide) r1 (by omega)).trans u1, (rw12 175 168 12 c (by decide) (by decide) (by decide) r2 (by omega)).trans u2, (rw12 176 169 12 c (by decide) (by decide) (by decide) r3 (by omega)).trans u3, (rw12 177 170 12 c (by decide) (by decide) (by decide) r4 (by omega)).trans u4, by rw [ke 180 (by decide), (zk c (by omega)).1, y1], by rw [ke 181 (by decide), (zk c (by omega)).2, y2]⟩
          · obtain ⟨u1, u2⟩ := v6 c hc
            exact ⟨(rw12 178 171 4 c (by decide) (by decide) (by decide) r5 (by omega)).trans u1, (rw12 179 172 4 c (by decide) (by decide) (by decide) r6 (by omega)).trans u2⟩
        have fe : mmi_fr h ge := by
          refine fg2.trans ⟨⟨fun c hc => ?_, by rw [show ge.2.2 = k.2.2 by rw [ege], fk.2, s7]⟩, fun j hj => by rw [ke 165 (by decide), k7 165 (by decide) (by decide), m7]; unfold upd; rw [if_neg hj.1]⟩
          simp only [pMM, Bool.or_eq_false_iff, beq_eq_false_iff_ne, rg, decide_eq_false_iff_not] at hc
          exact ⟨by rw [ke c (by omega), k7 c (by omega) (by omega), n7 c (by omega) (by omega)], by rw [show ge.2.1 = k.2.1 by rw [ege], fk.l (rg_f (by omega)), s7]⟩
        have fin : (fun (v : Option Value) (g : mm_H) => ∃ x, v = some (.int x) ∧ mmi_fr h g ∧ g.1 165 20 = 0 ∧ mmP h g A LQ nl x (.ok A2)) (some (Value.int (nI (mn A2)))) ge := by
          refine ⟨nI (mn A2), rfl, fe, by rw [ke 165 (by decide), k7 165 (by decide) (by decide), m7]; unfold upd; rw [if_pos rfl], rfl, keep ge A2 fe hVe hA2, by rw [ege]; dsimp only; rw [mm_up_k (by decide), mm_up_e], by rw [ege]; dsimp only; rw [mm_up_e], ?_⟩
          rw [e166' 6 (by decide) (by decide), r0]; unfold sp_lay; rw [if_neg (by decide), e166 166 rfl]
        refine mm_Es (fun _ _ => mm_iload_n dX11_mint_182 rfl rfl) ?_
        refine mm_Es (fun _ _ => mm_bipush (x := 12) dX11_mint_183 (by decide)) ?_
        refine mm_Eb (fun _ _ => mm_icmp_ge 208 dX11_mint_185 (by decide)) (fun c_185 => ?_) (fun c_185 => ?_)
        · refine mm_Es (fun _ _ => mm_aload_n dX11_mint_208 rfl rfl) ?_
          refine mm_Es (fun _ _ => mm_getS dX11_mint_209 fX11_9 sh_165 rfl gr_165_1) ?_
          refine mm_Es (fun _ _ => mm_iconst (x := 4) dX11_mint_212 (by decide)) ?_
          refine mm_Es (fun _ _ => mm_iconst (x := 0) dX11_mint_213 (by decide)) ?_
          refine mm_Es (fun _ _ => mm_iast (4) dX11_mint_214 sh_166 rfl (by decide)) ?_
          refine mm_Es (fun _ _ => mm_aload_n dX11_mint_215 rfl rfl) ?_
          refine mm_Es (fun _ _ => mm_getS dX11_mint_216 fX11_9 sh_165 rfl gr_165_1) ?_
          refine mm_Es (fun _ _ => mm_iconst (x := 5) dX11_mint_219 (by decide)) ?_
          refine mm_Es (fun _ _ => mm_iconst (x := 0) dX11_mint_220 (by decide)) ?_
          refine mm_Es (fun _ _ => mm_iast (5) dX11_mint_221 sh_166 rfl (by decide)) ?_
          refine mm_Ec rfl rfl ege.symm ?_
          refine mm_Es (fun _ _ => mm_aload_n dX11_mint_222 rfl rfl) ?_
          refine mm_Es (fun _ _ => mm_getS dX11_mint_223 fX11_9 sh_165 rfl gr_165_1) ?_
          refine mm_Es (fun _ _ => mm_iconst (x := 0) dX11_mint_226 (by decide)) ?_
          refine mm_Es (fun _ _ => mm_iald (0) dX11_mint_227 sh_166 rfl (by decide)) ?_
          refine mm_Ec (st' := [.int (nI (mn A2))]) rfl (by rw [hVe.1] <;> rfl) rfl ?_
          refine mm_Er (mm_ireturn dX11_mint_228 rfl) ?_
          exact fin
        · exact absurd (by decide) c_185
      | succ m ih =>
        intro i hi k fk zk
        have K := ih (i + 1) (by omega) (mm_up (mm_up k.1 180 i 0) 181 i 0, k.2.1, k.2.2) ((fk.up (c := 180) rfl).up (c := 181) rfl) (fun j hj => by
          dsimp only
          by_cases z : j = i
          · rw [z, mm_up_n (by decide), mm_up_e, mm_up_e]; exact ⟨rfl, rfl⟩
          · rw [mm_up_n (by decide), mm_up_k z, mm_up_k z, mm_up_n (by decide)]; exact zk j (by omega))
        refine mm_Es (fun _ _ => mm_iload_n dX11_mint_182 rfl rfl) ?_
        refine mm_Es (fun _ _ => mm_bipush (x := 12) dX11_mint_183 (by decide)) ?_
        refine mm_Eb (fun _ _ => mm_icmp_ge 208 dX11_mint_185 (by decide)) (fun c_185 => ?_) (fun c_185 => ?_)
        · exact absurd c_185 (nI_ge (b := 12) (by omega) (by omega))
        · refine mm_Es (fun _ _ => mm_aload_n dX11_mint_188 rfl rfl) ?_
          refine mm_Es (fun _ _ => mm_getS dX11_mint_189 fX11_52 sh_165 rfl gr_165_15) ?_
          refine mm_Es (fun _ _ => mm_iload_n dX11_mint_192 rfl rfl) ?_
          refine mm_Es (fun _ _ => mm_iconst (x := 0) dX11_mint_193 (by decide)) ?_
          refine mm_Es (fun _ _ => mm_iast (i) dX11_mint_194 sh_180 rfl (by omega)) ?_
          refine mm_Es (fun _ _ => mm_aload_n dX11_mint_195 rfl rfl) ?_
          refine mm_Es (fun _ _ => mm_getS dX11_mint_196 fX11_55 sh_165 rfl gr_165_16) ?_
          refine mm_Es (fun _ _ => mm_iload_n dX11_mint_199 rfl rfl) ?_
          refine mm_Es (fun _ _ => mm_iconst (x := 0) dX11_mint_200 (by decide)) ?_
          refine mm_Es (fun _ _ => mm_iast (i) dX11_mint_201 sh_181 rfl (by omega)) ?_
          refine mm_Es (fun _ _ => mm_iinc dX11_mint_202 rfl (nI_inc i) rfl) ?_
          refine mm_Es (fun _ _ => mm_goto 182 dX11_mint_205 (by decide)) ?_
          exact K
    have K := K182 12 0 rfl w7 (frm.refl _ _) (fun j hj => by omega)
    refine mm_Es (fun _ _ => mm_aload_n dX11_mint_83 rfl rfl) ?_
    refine mm_Es (fun _ _ => mm_iconst (x := 0) dX11_mint_84 (by decide)) ?_
    refine mm_Es (fun _ _ => mm_putI dX11_mint_85 fX11_181 sh_165 rfl rfl rfl) ?_
    refine mm_Ec rfl rfl ew0.symm ?_
    refine mm_Es (fun _ _ => mm_aload_n dX11_mint_88 rfl rfl) ?_
    refine mm_Es (fun _ _ => mm_getI dX11_mint_89 fX11_208 sh_165 rfl) ?_
    refine mm_Eb (fun _ _ => mm_if_le 103 dX11_mint_92 (by decide)) (fun c_92 => ?_) (fun c_92 => ?_)
    · refine mm_Es (fun _ _ => mm_aload_n dX11_mint_103 rfl rfl) ?_
      refine mm_Es (fun _ _ => mm_getS dX11_mint_104 fX11_31 sh_165 rfl gr_165_8) ?_
      refine mm_Es (fun _ _ => mm_aload_n dX11_mint_107 rfl rfl) ?_
      refine mm_Es (fun _ _ => mm_getS dX11_mint_108 fX11_9 sh_165 rfl gr_165_1) ?_
      refine mm_Es (fun _ _ => mm_cS (Y1 := YX11_lay) dX11_mint_111 lX11_335 sX11_lay (L0) rfl rfl (by simp [Value.category])) ?_
      refine mm_Es (fun _ _ => mm_aload_n dX11_mint_114 rfl rfl) ?_
      refine mm_Es (fun _ _ => mm_getS dX11_mint_115 fX11_34 sh_165 rfl gr_165_9) ?_
      refine mm_Es (fun _ _ => mm_aload_n dX11_mint_118 rfl rfl) ?_
      refine mm_Es (fun _ _ => mm_getS dX11_mint_119 fX11_13 sh_165 rfl gr_165_2) ?_
      refine mm_Es (fun _ _ => mm_cS (Y1 := YX11_lay) dX11_mint_122 lX11_335 sX11_lay (L1) rfl rfl (by simp [Value.category])) ?_
      refine mm_Es (fun _ _ => mm_aload_n dX11_mint_125 rfl rfl) ?_
      refine mm_Es (fun _ _ => mm_getS dX11_mint_126 fX11_37 sh_165 rfl gr_165_10) ?_
      refine mm_Es (fun _ _ => mm_aload_n dX11_mint_129 rfl rfl) ?_
      refine mm_Es (fun _ _ => mm_getS dX11_mint_130 fX11_16 sh_165 rfl gr_165_3) ?_
      refine mm_Es (fun _ _ => mm_cS (Y1 := YX11_lay) dX11_mint_133 lX11_335 sX11_lay (L2) rfl rfl (by simp [Value.category])) ?_
      refine mm_Es (fun _ _ => mm_aload_n dX11_mint_136 rfl rfl) ?_
      refine mm_Es (fun _ _ => mm_getS dX11_mint_137 fX11_40 sh_165 rfl gr_165_11) ?_
      refine mm_Es (fun _ _ => mm_aload_n dX11_mint_140 rfl rfl) ?_
      refine mm_Es (fun _ _ => mm_getS dX11_mint_141 fX11_19 sh_165 rfl gr_165_4) ?_
      refine mm_Es (fun _ _ => mm_cS (Y1 := YX11_lay) dX11_mint_144 lX11_335 sX11_lay (L3) rfl rfl (by simp [Value.category])) ?_
      refine mm_Es (fun _ _ => mm_aload_n dX11_mint_147 rfl rfl) ?_
      refine mm_Es (fun _ _ => mm_getS dX11_mint_148 fX11_43 sh_165 rfl gr_165_12) ?_
      refine mm_Es (fun _ _ => mm_aload_n dX11_mint_151 rfl rfl) ?_
      refine mm_Es (fun _ _ => mm_getS dX11_mint_152 fX11_22 sh_165 rfl gr_165_5) ?_
      refine mm_Es (fun _ _ => mm_cS (Y1 := YX11_lay) dX11_mint_155 lX11_335 sX11_lay (L4) rfl rfl (by simp [Value.category])) ?_
      refine mm_Es (fun _ _ => mm_aload_n dX11_mint_158 rfl rfl) ?_
      refine mm_Es (fun _ _ => mm_getS dX11_mint_159 fX11_46 sh_165 rfl gr_165_13) ?_
      refine mm_Es (fun _ _ => mm_aload_n dX11_mint_162 rfl rfl) ?_
      refine mm_Es (fun _ _ => mm_getS dX11_mint_163 fX11_25 sh_165 rfl gr_165_6) ?_
      refine mm_Es (fun _ _ => mm_cS (Y1 := YX11_lay) dX11_mint_166 lX11_335 sX11_lay (L5) rfl rfl (by simp [Value.category])) ?_
      refine mm_Es (fun _ _ => mm_aload_n dX11_mint_169 rfl rfl) ?_
      refine mm_Es (fun _ _ => mm_getS dX11_mint_170 fX11_49 sh_165 rfl gr_165_14) ?_
      refine mm_Es (fun _ _ => mm_aload_n dX11_mint_173 rfl rfl) ?_
      refine mm_Es (fun _ _ => mm_getS dX11_mint_174 fX11_28 sh_165 rfl gr_165_7) ?_
      refine mm_Es (fun _ _ => mm_cS (Y1 := YX11_lay) dX11_mint_177 lX11_335 sX11_lay (L6) rfl rfl (by simp [Value.category])) ?_
      refine mm_Es (fun _ _ => mm_iconst (x := 0) dX11_mint_180 (by decide)) ?_
      refine mm_Es (fun _ _ => mm_istore_n dX11_mint_181 rfl (by decide) rfl) ?_
      exact K
    · exact absurd (by rw [e22]; decide) c_92
  have K38 : ∀ f A2 bt dt p gg i, i = mn A2 + mk A2 + bt + dt → i + f = 30 → mn_fr h gg ∨ mmi_fr h gg → (∀ e, (166 ≤ e ∧ e ≤ 172) ∨ e = 180 ∨ e = 181 → gg.1 e = h.1 e) → NS B n gg A2 bt dt p → mdOK A2 → zH A2 → mm_E (d + 7) YX11_mint 38 [some (.ref 165), some (.int (nI i)), some (.int 1), none] [] gg (fun v g => ∃ x, v = some (.int x) ∧ mmi_fr h g ∧ g.1 165 20 = 0 ∧ mmP h g A LQ nl x (mrun B n f A2 bt dt (sk B n p))) := by
    intro f
    induction f with
    | zero =>
      intro A2 bt dt p gg i hi hf fg eK S
      obtain ⟨-, -, -, -, -, s1, s2, s3, s4⟩ := S
      omega
    | succ f ih =>
      intro A2 bt dt p gg i hi hf fg eK S hA2 hz2
      have hi18 : i ≤ 18 := by obtain ⟨-, -, -, -, -, s1, s2, s3, s4⟩ := S; omega
      obtain ⟨g1, M1, f1, r1⟩ := mX11_mintClause d gg B n p A2 bt dt S i (by omega)
      have fg1 : mmi_fr h g1 := (fg.elim (fun z => z.mi) id).trans f1.mi
      have eK1 : ∀ e, (166 ≤ e ∧ e ≤ 172) ∨ e = 180 ∨ e = 181 → g1.1 e = h.1 e := fun e he => by rw [f1.1.i (by simp only [pN, Bool.or_eq_false_iff, beq_eq_false_iff_ne, rg, decide_eq_false_iff_not]; omega)]; exact eK e he
      cases e : mcl B n A2 bt dt (sk B n p) with
      | error c =>
        rw [e] at r1
        obtain ⟨p2, t2, hp2, c0, c4⟩ := r1
        obtain ⟨x, g2, M2, f2, t3, ex⟩ := mX11_goesOn (d + 4) g1 B n p2 c t2 hp2 c4
        rw [pI_0 (fun z => c0 z.1)] at ex
        rw [if_neg (fun z => c0 z.1)] at t3
        rw [ex] at M2
        have eK2 : ∀ e, (166 ≤ e ∧ e ≤ 172) ∨ e = 180 ∨ e = 181 → g2.1 e = h.1 e := fun e he => by rw [f2.1.i (by simp only [onep, beq_eq_false_iff_ne]; omega)]; exact eK1 e he
        rw [mrun_e e]
        have K := fun x1 x2 => K58e g2 _ c (.error c) x1 x2 (Or.inr (fg1.trans f2.mn.mi)) (fun e h1 h2 => eK2 e (by omega)) (eK2 180 (by omega)) (eK2 181 (by omega)) t3 c0 c4 rfl
        have KQ : mm_E (d + 7) YX11_mint 38 [some (.ref 165), some (.int (nI (i + 1))), some (.int 0), none] [] g2 (fun v g => ∃ x, v = some (.int x) ∧ mmi_fr h g ∧ g.1 165 20 = 0 ∧ mmP h g A LQ nl x (.error c)) := by
          refine mm_Es (fun _ _ => mm_iload_n dX11_mint_38 rfl rfl) ?_
          refine mm_Eb (fun _ _ => mm_if_eq 58 dX11_mint_39 (by decide)) (fun c_39 => ?_) (fun c_39 => ?_)
          · exact K _ _
          · exact absurd c_39 (by decide)
        refine mm_Es (fun _ _ => mm_iload_n dX11_mint_38 rfl rfl) ?_
        refine mm_Eb (fun _ _ => mm_if_eq 58 dX11_mint_39 (by decide)) (fun c_39 => ?_) (fun c_39 => ?_)
        · exact absurd c_39 (by decide)
        · refine mm_Es (fun _ _ => mm_aload_n dX11_mint_42 rfl rfl) ?_
          refine mm_Es (fun _ _ => mm_iload_n dX11_mint_43 rfl rfl) ?_
          refine mm_Es (fun _ _ => mm_cV (Y1 := YX11_mintClause) dX11_mint_44 lX11_329 vX11_mintClause (M1) sh_165 rfl rfl (by simp [Value.category])) ?_
          refine mm_Es (fun _ _ => mm_iinc dX11_mint_47 rfl (nI_inc i) rfl) ?_
          refine mm_Es (fun _ _ => mm_aload_n dX11_mint_50 rfl rfl) ?_
          refine mm_Es (fun _ _ => mm_cV (Y1 := YX11_goesOn) dX11_mint_51 lX11_332 vX11_goesOn (M2) sh_165 rfl rfl (by simp [Value.category])) ?_
          refine mm_Es (fun _ _ => mm_istore_n dX11_mint_54 rfl (by decide) rfl) ?_
          refine mm_Es (fun _ _ => mm_goto 38 dX11_mint_55 (by decide)) ?_
          exact KQ
      | ok q =>
        rw [e] at r1
        obtain ⟨p2, S2, es2⟩ := r1
        have S2k := S2
        obtain ⟨t2, hp2, hV2, b2, d2, m2, k2, bb2, dd2⟩ := S2
        obtain ⟨ok1, ok2, ok3⟩ := mcl_ok hA2 hz2 e
        obtain ⟨x, g2, M2, f2, t3, ex⟩ := mX11_goesOn (d + 4) g1 B n p2 0 t2 hp2 (by decide)
        have hsk := sk_ge (B := B) hp2
        rw [es2] at t3 ex hsk
        have fg2 := fg1.trans f2.mn.mi
        have eK2 : ∀ e, (166 ≤ e ∧ e ≤ 172) ∨ e = 180 ∨ e = 181 → g2.1 e = h.1 e := fun e he => by rw [f2.1.i (by simp only [onep, beq_eq_false_iff_ne]; omega)]; exact eK1 e he
        have hV3 : viewN g2 q.1 := viewN_f hV2 f2.1 (fun c hc => by simp [onep]; omega)
        rw [mrun_k e]
        by_cases h3 : kd B n q.2.2.2 = 3
        · have hlt : q.2.2.2 < n := Nat.lt_of_le_of_ne hsk.2 (fun z => by have := (kd_0 (B := B) hsk.2).mpr z; omega)
          rw [if_pos h3]
          rw [if_neg (fun z => z.2.2 h3)] at t3
          rw [pI_1 ⟨rfl, hlt, h3⟩] at ex
          rw [ex] at M2
          have K := ih q.1 q.2.1 q.2.2.1 (q.2.2.2 + 1) g2 (i + 1) (by omega) (by omega) (Or.inr fg2) eK2 ⟨t3, by omega, hV3, by rw [f2.2 30 (by decide) (by decide)]; exact b2, by rw [f2.2 31 (by decide) (by decide)]; exact d2, m2, k2, bb2, dd2⟩ ok1 ok2
          rw [← nx_3 hlt h3] at K
          refine mm_Es (fun _ _ => mm_iload_n dX11_mint_38 rfl rfl) ?_
          refine mm_Eb (fun _ _ => mm_if_eq 58 dX11_mint_39 (by decide)) (fun c_39 => ?_) (fun c_39 => ?_)
          · exact absurd c_39 (by decide)
          · refine mm_Es (fun _ _ => mm_aload_n dX11_mint_42 rfl rfl) ?_
            refine mm_Es (fun _ _ => mm_iload_n dX11_mint_43 rfl rfl) ?_
            refine mm_Es (fun _ _ => mm_cV (Y1 := YX11_mintClause) dX11_mint_44 lX11_329 vX11_mintClause (M1) sh_165 rfl rfl (by simp [Value.category])) ?_
            refine mm_Es (fun _ _ => mm_iinc dX11_mint_47 rfl (nI_inc i) rfl) ?_
            refine mm_Es (fun _ _ => mm_aload_n dX11_mint_50 rfl rfl) ?_
            refine mm_Es (fun _ _ => mm_cV (Y1 := YX11_goesOn) dX11_mint_51 lX11_332 vX11_goesOn (M2) sh_165 rfl rfl (by simp [Value.category])) ?_
            refine mm_Es (fun _ _ => mm_istore_n dX11_mint_54 rfl (by decide) rfl) ?_
            refine mm_Es (fun _ _ => mm_goto 38 dX11_mint_55 (by decide)) ?_
            exact K
        · rw [if_neg h3]
          rw [pI_0 (fun z => h3 z.2.2)] at ex
          rw [ex] at M2
          by_cases hlt : q.2.2.2 < n
          · rw [if_pos ⟨rfl, hlt, h3⟩] at t3
            rw [if_neg (fun z => by have := (kd_0 (B := B) hsk.2).mp z.1; omega)]
            have K := fun x1 x2 => K58e g2 _ (1 + 8 * q.2.2.2) (.error (1 + 8 * q.2.2.2)) x1 x2 (Or.inr fg2) (fun e h1 h2 => eK2 e (by omega)) (eK2 180 (by omega)) (eK2 181 (by omega)) t3 (by omega) (by omega) rfl
            have KQ : mm_E (d + 7) YX11_mint 38 [some (.ref 165), some (.int (nI (i + 1))), some (.int 0), none] [] g2 (fun v g => ∃ x, v = some (.int x) ∧ mmi_fr h g ∧ g.1 165 20 = 0 ∧ mmP h g A LQ nl x (.error (1 + 8 * q.2.2.2))) := by
              refine mm_Es (fun _ _ => mm_iload_n dX11_mint_38 rfl rfl) ?_
              refine mm_Eb (fun _ _ => mm_if_eq 58 dX11_mint_39 (by decide)) (fun c_39 => ?_) (fun c_39 => ?_)
              · exact K _ _
              · exact absurd c_39 (by decide)
            refine mm_Es (fun _ _ => mm_iload_n dX11_mint_38 rfl rfl) ?_
            refine mm_Eb (fun _ _ => mm_if_eq 58 dX11_mint_39 (by decide)) (fun c_39 => ?_) (fun c_39 => ?_)
            · exact absurd c_39 (by decide)
            · refine mm_Es (fun _ _ => mm_aload_n dX11_mint_42 rfl rfl) ?_
              refine mm_Es (fun _ _ => mm_iload_n dX11_mint_43 rfl rfl) ?_
              refine mm_Es (fun _ _ => mm_cV (Y1 := YX11_mintClause) dX11_mint_44 lX11_329 vX11_mintClause (M1) sh_165 rfl rfl (by simp [Value.category])) ?_
              refine mm_Es (fun _ _ => mm_iinc dX11_mint_47 rfl (nI_inc i) rfl) ?_
              refine mm_Es (fun _ _ => mm_aload_n dX11_mint_50 rfl rfl) ?_
              refine mm_Es (fun _ _ => mm_cV (Y1 := YX11_goesOn) dX11_mint_51 lX11_332 vX11_goesOn (M2) sh_165 rfl rfl (by simp [Value.category])) ?_
              refine mm_Es (fun _ _ => mm_istore_n dX11_mint_54 rfl (by decide) rfl) ?_
              refine mm_Es (fun _ _ => mm_goto 38 dX11_mint_55 (by decide)) ?_
              exact KQ
          · rw [if_neg (fun z => hlt z.2.1)] at t3
            have hqn : q.2.2.2 = n := by omega
            have hk0 : kd B n q.2.2.2 = 0 := (kd_0 (B := B) hsk.2).mpr hqn
            by_cases hmk : mk q.1 = 0
            · rw [if_neg (fun z => z.2 hmk)]
              have MF := mX11_fails (d + 6) g2 B n _ 0 t3 (by omega) (by decide) n 0 (by omega) (by decide)
              have ef : flt 0 n 0 = 1 + 8 * n := by unfold flt; rw [if_pos rfl, Nat.add_zero]
              rw [ef] at MF
              obtain ⟨g3, eg3⟩ : ∃ g : mm_H, g = (mm_up g2.1 165 22 (nI (1 + 8 * n)), g2.2.1, g2.2.2) := ⟨_, rfl⟩
              have t4 : MT B n g3 (q.2.2.2 + 1) (1 + 8 * n) := by rw [eg3]; exact t3.f _
              have f4 : mt_fr g2 g3 := by rw [eg3]; exact mt_q g2 _
              rw [← eg3] at MF
              have eK3 : ∀ e, (166 ≤ e ∧ e ≤ 172) ∨ e = 180 ∨ e = 181 → g3.1 e = h.1 e := fun e he => by rw [f4.1.i (by simp only [onep, beq_eq_false_iff_ne]; omega)]; exact eK2 e he
              rw [hqn]
              have K := fun x1 x2 => K58e g3 _ (1 + 8 * n) (.error (1 + 8 * n)) x1 x2 (Or.inr (fg2.trans f4.mn.mi)) (fun e h1 h2 => eK3 e (by omega)) (eK3 180 (by omega)) (eK3 181 (by omega)) t4 (by omega) (by omega) rfl
              have KQ : mm_E (d + 7) YX11_mint 38 [some (.ref 165), some (.int (nI (i + 1))), some (.int 0), none] [] g2 (fun v g => ∃ x, v = some (.int x) ∧ mmi_fr h g ∧ g.1 165 20 = 0 ∧ mmP h g A LQ nl x (.error (1 + 8 * n))) := by
                have K83x : ∀ x1 x2, mm_E (d + 7) YX11_mint 83 [some (.ref 165), x1, x2, none] [] g3 (fun v g => ∃ x, v = some (.int x) ∧ mmi_fr h g ∧ g.1 165 20 = 0 ∧ mmP h g A LQ nl x (.error (1 + 8 * n))) := fun x1 x2 => K83e g3 (1 + 8 * n) (.error (1 + 8 * n)) x1 x2 (fg2.trans f4.mn.mi) (fun e h1 h2 => eK3 e (by omega)) (eK3 180 (by omega)) (eK3 181 (by omega)) (q.2.2.2 + 1) t4 (by omega) (by omega) rfl
                refine mm_Es (fun _ _ => mm_iload_n dX11_mint_38 rfl rfl) ?_
                refine mm_Eb (fun _ _ => mm_if_eq 58 dX11_mint_39 (by decide)) (fun c_39 => ?_) (fun c_39 => ?_)
                · refine mm_Es (fun _ _ => mm_aload_n dX11_mint_58 rfl rfl) ?_
                  refine mm_Es (fun _ _ => mm_getI dX11_mint_59 fX11_208 sh_165 rfl) ?_
                  refine mm_Ebn (fun _ _ => mm_if_ne 83 dX11_mint_62 (by decide)) (fun c_62 => ?_) (fun c_62 => ?_)
                  · exact absurd (by rw [t3.2.2.1]; rfl) c_62
                  · refine mm_Es (fun _ _ => mm_aload_n dX11_mint_65 rfl rfl) ?_
                    refine mm_Es (fun _ _ => mm_getS dX11_mint_66 fX11_31 sh_165 rfl gr_165_8) ?_
                    refine mm_Es (fun _ _ => mm_iconst (x := 1) dX11_mint_69 (by decide)) ?_
                    refine mm_Es (fun _ _ => mm_iald (1) dX11_mint_70 sh_173 rfl (by decide)) ?_
                    refine mm_Ebn (fun _ _ => mm_if_ne 83 dX11_mint_71 (by decide)) (fun c_71 => ?_) (fun c_71 => ?_)
                    · exact absurd (by rw [hV3.2.1, hmk]; rfl) c_71
                    · refine mm_Es (fun _ _ => mm_aload_n dX11_mint_74 rfl rfl) ?_
                      refine mm_Es (fun _ _ => mm_iconst (x := 0) dX11_mint_75 (by decide)) ?_
                      refine mm_Es (fun _ _ => mm_aload_n dX11_mint_76 rfl rfl) ?_
                      refine mm_Es (fun _ _ => mm_getI dX11_mint_77 fX11_181 sh_165 rfl) ?_
                      refine mm_Ec (st' := [.int (nI n), .int (nI 0), .ref 165]) rfl (by rw [t3.1] <;> rfl) rfl ?_
                      refine mm_Es (fun _ _ => mm_cV (Y1 := YX11_fails) dX11_mint_80 lX11_247 vX11_fails (MF) sh_165 rfl rfl (by simp [Value.category])) ?_
                      exact K83x _ _
                · exact absurd c_39 (by decide)
              refine mm_Es (fun _ _ => mm_iload_n dX11_mint_38 rfl rfl) ?_
              refine mm_Eb (fun _ _ => mm_if_eq 58 dX11_mint_39 (by decide)) (fun c_39 => ?_) (fun c_39 => ?_)
              · exact absurd c_39 (by decide)
              · refine mm_Es (fun _ _ => mm_aload_n dX11_mint_42 rfl rfl) ?_
                refine mm_Es (fun _ _ => mm_iload_n dX11_mint_43 rfl rfl) ?_
                refine mm_Es (fun _ _ => mm_cV (Y1 := YX11_mintClause) dX11_mint_44 lX11_329 vX11_mintClause (M1) sh_165 rfl rfl (by simp [Value.category])) ?_
                refine mm_Es (fun _ _ => mm_iinc dX11_mint_47 rfl (nI_inc i) rfl) ?_
                refine mm_Es (fun _ _ => mm_aload_n dX11_mint_50 rfl rfl) ?_
                refine mm_Es (fun _ _ => mm_cV (Y1 := YX11_goesOn) dX11_mint_51 lX11_332 vX11_goesOn (M2) sh_165 rfl rfl (by simp [Value.category])) ?_
                refine mm_Es (fun _ _ => mm_istore_n dX11_mint_54 rfl (by decide) rfl) ?_
                refine mm_Es (fun _ _ => mm_goto 38 dX11_mint_55 (by decide)) ?_
                exact KQ
            · rw [if_pos ⟨hk0, hmk⟩]
              have K := fun x1 x2 => K83 g2 _ q.1 x1 x2 (Or.inr fg2) (fun e he => eK2 e (by omega)) t3 hV3 ok1 ok2
              have KQ : mm_E (d + 7) YX11_mint 38 [some (.ref 165), some (.int (nI (i + 1))), some (.int 0), none] [] g2 (fun v g => ∃ x, v = some (.int x) ∧ mmi_fr h g ∧ g.1 165 20 = 0 ∧ mmP h g A LQ nl x (.ok q.1)) := by
                refine mm_Es (fun _ _ => mm_iload_n dX11_mint_38 rfl rfl) ?_
                refine mm_Eb (fun _ _ => mm_if_eq 58 dX11_mint_39 (by decide)) (fun c_39 => ?_) (fun c_39 => ?_)
                · refine mm_Es (fun _ _ => mm_aload_n dX11_mint_58 rfl rfl) ?_
                  refine mm_Es (fun _ _ => mm_getI dX11_mint_59 fX11_208 sh_165 rfl) ?_
                  refine mm_Ebn (fun _ _ => mm_if_ne 83 dX11_mint_62 (by decide)) (fun c_62 => ?_) (fun c_62 => ?_)
                  · exact absurd (by rw [t3.2.2.1]; rfl) c_62
                  · refine mm_Es (fun _ _ => mm_aload_n dX11_mint_65 rfl rfl) ?_
                    refine mm_Es (fun _ _ => mm_getS dX11_mint_66 fX11_31 sh_165 rfl gr_165_8) ?_
                    refine mm_Es (fun _ _ => mm_iconst (x := 1) dX11_mint_69 (by decide)) ?_
                    refine mm_Es (fun _ _ => mm_iald (1) dX11_mint_70 sh_173 rfl (by decide)) ?_
                    refine mm_Ebn (fun _ _ => mm_if_ne 83 dX11_mint_71 (by decide)) (fun c_71 => ?_) (fun c_71 => ?_)
                    · exact K _ _
                    · exact absurd ((nI_eq (b := 0) (by omega) (by omega)).mp (hV3.2.1.symm.trans c_71)) hmk
                · exact absurd c_39 (by decide)
              refine mm_Es (fun _ _ => mm_iload_n dX11_mint_38 rfl rfl) ?_
              refine mm_Eb (fun _ _ => mm_if_eq 58 dX11_mint_39 (by decide)) (fun c_39 => ?_) (fun c_39 => ?_)
              · exact absurd c_39 (by decide)
              · refine mm_Es (fun _ _ => mm_aload_n dX11_mint_42 rfl rfl) ?_
                refine mm_Es (fun _ _ => mm_iload_n dX11_mint_43 rfl rfl) ?_
                refine mm_Es (fun _ _ => mm_cV (Y1 := YX11_mintClause) dX11_mint_44 lX11_329 vX11_mintClause (M1) sh_165 rfl rfl (by simp [Value.category])) ?_
                refine mm_Es (fun _ _ => mm_iinc dX11_mint_47 rfl (nI_inc i) rfl) ?_
                refine mm_Es (fun _ _ => mm_aload_n dX11_mint_50 rfl rfl) ?_
                refine mm_Es (fun _ _ => mm_cV (Y1 := YX11_goesOn) dX11_mint_51 lX11_332 vX11_goesOn (M2) sh_165 rfl rfl (by simp [Value.category])) ?_
                refine mm_Es (fun _ _ => mm_istore_n dX11_mint_54 rfl (by decide) rfl) ?_
                refine mm_Es (fun _ _ => mm_goto 38 dX11_mint_55 (by decide)) ?_
                exact KQ
  have MS : mm_M (d + 6) YX11_starts [.ref 165] h none (mm_up (mm_up (mm_up (mm_up (mm_up h.1 165 21 0) 165 22 0) 165 25 0) 165 26 0) 165 27 0, h.2.1, h.2.2) := by
    refine mm_M.of [some (.ref 165)] rfl rfl (Nat.le_of_ble_eq_true rfl) ?_
    refine mm_aload_n dX11_starts_0 rfl rfl ?_
    refine mm_iconst (x := 0) dX11_starts_1 (by decide) ?_
    refine mm_putI dX11_starts_2 fX11_211 sh_165 rfl rfl rfl ?_
    refine mm_aload_n dX11_starts_5 rfl rfl ?_
    refine mm_iconst (x := 0) dX11_starts_6 (by decide) ?_
    refine mm_putI dX11_starts_7 fX11_208 sh_165 rfl rfl rfl ?_
    refine mm_aload_n dX11_starts_10 rfl rfl ?_
    refine mm_iconst (x := 0) dX11_starts_11 (by decide) ?_
    refine mm_putI dX11_starts_12 fX11_241 sh_165 rfl rfl rfl ?_
    refine mm_aload_n dX11_starts_15 rfl rfl ?_
    refine mm_iconst (x := 0) dX11_starts_16 (by decide) ?_
    refine mm_putI dX11_starts_17 fX11_282 sh_165 rfl rfl rfl ?_
    refine mm_aload_n dX11_starts_20 rfl rfl ?_
    refine mm_iconst (x := 0) dX11_starts_21 (by decide) ?_
    refine mm_putI dX11_starts_22 fX11_244 sh_165 rfl rfl rfl ?_
    exact mm_retE dX11_starts_25 rfl rfl
  obtain ⟨ga, ega⟩ : ∃ g : mm_H, g = (mm_up (mm_up (mm_up (mm_up (mm_up (mm_up (mm_up h.1 165 21 0) 165 22 0) 165 25 0) 165 26 0) 165 27 0) 165 30 0) 165 31 0, h.2.1, h.2.2) := ⟨_, rfl⟩
  have fa : mmi_fr h ga := by
    rw [ega]
    refine ⟨((((((((frm.refl _ h).up (c := 165) rfl).up (c := 165) rfl).up (c := 165) rfl).up (c := 165) rfl).up (c := 165) rfl).up (c := 165) rfl).up (c := 165) rfl), fun j hj => ?_⟩
    obtain ⟨j1, j2, j3, j4, j5, j6, j7, j8⟩ := hj
    dsimp only
    rw [mm_up_k j8, mm_up_k j7, mm_up_k j6, mm_up_k j5, mm_up_k j4, mm_up_k j3, mm_up_k j2]
  have ta : ∀ g, frm (onep 173) ga g → MT B n g 0 0 ∧ g.1 165 30 = 0 ∧ g.1 165 31 = 0 := fun g fg => by
    have e : g.1 165 = ga.1 165 := fg.i rfl
    unfold MT
    rw [e, show g.1 185 = ga.1 185 from fg.i rfl, ega]
    dsimp only
    refine ⟨⟨?_, ?_, ?_, fun i hi => ?_, hn, hby⟩, ?_, ?_⟩
    · rw [mm_up_k (by decide), mm_up_k (by decide), mm_up_k (by decide), mm_up_k (by decide), mm_up_k (by decide), mm_up_k (by decide), mm_up_k (by decide)]; exact h1
    · rw [mm_up_k (by decide), mm_up_k (by decide), mm_up_k (by decide), mm_up_k (by decide), mm_up_k (by decide), mm_up_k (by decide), mm_up_e]; rfl
    · rw [mm_up_k (by decide), mm_up_k (by decide), mm_up_k (by decide), mm_up_k (by decide), mm_up_k (by decide), mm_up_e]; rfl
    · rw [mm_up_n (by decide), mm_up_n (by decide), mm_up_n (by decide), mm_up_n (by decide), mm_up_n (by decide), mm_up_n (by decide), mm_up_n (by decide)]; exact hB i hi
    · rw [mm_up_k (by decide), mm_up_e]
    · rw [mm_up_e]
  have K16 : ∀ m i, i + m = 4 → ∀ gg, frm (onep 173) ga gg → (∀ j, j < i → gg.1 173 j = 0) → mm_E (d + 7) YX11_mint 16 [some (.ref 165), some (.int (nI i)), none, none] [] gg (fun v g => ∃ x, v = some (.int x) ∧ mmi_fr h g ∧ g.1 165 20 = 0 ∧ mmP h g A LQ nl x (mrun B n 30 A0 0 0 (sk B n 0))) := by
    intro m
    induction m with
    | zero =>
      intro i hi gg fg z
      have hi : i = 4 := by omega
      subst hi
      obtain ⟨t0, b0, d0⟩ := ta gg fg
      have fgg : mmi_fr h gg := fa.trans ⟨fg.mono (fun c hc => by simp only [pMM, Bool.or_eq_false_iff, beq_eq_false_iff_ne, rg, decide_eq_false_iff_not] at hc; simp only [onep, beq_eq_false_iff_ne]; omega), fun j _ => by rw [fg.i rfl]⟩
      have K := K38 30 A0 0 0 0 gg 0 rfl rfl (Or.inr fgg) (fun e he => by rw [fg.i (by simp only [onep, beq_eq_false_iff_ne]; omega), ega]; dsimp only; rw [mm_up_n (by omega), mm_up_n (by omega), mm_up_n (by omega), mm_up_n (by omega), mm_up_n (by omega), mm_up_n (by omega), mm_up_n (by omega)]) ⟨t0, Nat.zero_le _, ⟨z 0 (by decide), z 1 (by decide), z 2 (by decide), z 3 (by decide), fun c hc => absurd hc (Nat.not_lt_zero c), fun c hc => absurd hc (Nat.not_lt_zero c)⟩, b0, d0, by decide, by decide, by decide, by decide⟩ A0_ok.1 A0_ok.2
      refine mm_Es (fun _ _ => mm_iload_n dX11_mint_16 rfl rfl) ?_
      refine mm_Es (fun _ _ => mm_iconst (x := 4) dX11_mint_17 (by decide)) ?_
      refine mm_Eb (fun _ _ => mm_icmp_ge 34 dX11_mint_18 (by decide)) (fun c_18 => ?_) (fun c_18 => ?_)
      · refine mm_Es (fun _ _ => mm_iconst (x := 0) dX11_mint_34 (by decide)) ?_
        refine mm_Es (fun _ _ => mm_istore_n dX11_mint_35 rfl (by decide) rfl) ?_
        refine mm_Es (fun _ _ => mm_iconst (x := 1) dX11_mint_36 (by decide)) ?_
        refine mm_Es (fun _ _ => mm_istore_n dX11_mint_37 rfl (by decide) rfl) ?_
        exact K
      · exact absurd (by decide) c_18
    | succ m ih =>
      intro i hi gg fg z
      have K := ih (i + 1) (by omega) (mm_up gg.1 173 i 0, gg.2.1, gg.2.2) (fg.up (c := 173) rfl) (fun j hj => by
        dsimp only
        by_cases w : j = i
        · rw [w, mm_up_e]
        · rw [mm_up_k w]; exact z j (by omega))
      refine mm_Es (fun _ _ => mm_iload_n dX11_mint_16 rfl rfl) ?_
      refine mm_Es (fun _ _ => mm_iconst (x := 4) dX11_mint_17 (by decide)) ?_
      refine mm_Eb (fun _ _ => mm_icmp_ge 34 dX11_mint_18 (by decide)) (fun c_18 => ?_) (fun c_18 => ?_)
      · exact absurd c_18 (nI_ge (b := 4) (by omega) (by omega))
      · refine mm_Es (fun _ _ => mm_aload_n dX11_mint_21 rfl rfl) ?_
        refine mm_Es (fun _ _ => mm_getS dX11_mint_22 fX11_31 sh_165 rfl gr_165_8) ?_
        refine mm_Es (fun _ _ => mm_iload_n dX11_mint_25 rfl rfl) ?_
        refine mm_Es (fun _ _ => mm_iconst (x := 0) dX11_mint_26 (by decide)) ?_
        refine mm_Es (fun _ _ => mm_iast (i) dX11_mint_27 sh_173 rfl (by omega)) ?_
        refine mm_Es (fun _ _ => mm_iinc dX11_mint_28 rfl (nI_inc i) rfl) ?_
        refine mm_Es (fun _ _ => mm_goto 16 dX11_mint_31 (by decide)) ?_
        exact K
  have K := K16 4 0 rfl ga (frm.refl _ _) (fun j hj => by omega)
  refine mm_Es (fun _ _ => mm_aload_n dX11_mint_0 rfl rfl) ?_
  refine mm_Es (fun _ _ => mm_cV (Y1 := YX11_starts) dX11_mint_1 lX11_326 vX11_starts (MS) sh_165 rfl rfl (by simp [Value.category])) ?_
  refine mm_Es (fun _ _ => mm_aload_n dX11_mint_4 rfl rfl) ?_
  refine mm_Es (fun _ _ => mm_iconst (x := 0) dX11_mint_5 (by decide)) ?_
  refine mm_Es (fun _ _ => mm_putI dX11_mint_6 fX11_310 sh_165 rfl rfl rfl) ?_
  refine mm_Es (fun _ _ => mm_aload_n dX11_mint_9 rfl rfl) ?_
  refine mm_Es (fun _ _ => mm_iconst (x := 0) dX11_mint_10 (by decide)) ?_
  refine mm_Es (fun _ _ => mm_putI dX11_mint_11 fX11_314 sh_165 rfl rfl rfl) ?_
  refine mm_Es (fun _ _ => mm_iconst (x := 0) dX11_mint_14 (by decide)) ?_
  refine mm_Es (fun _ _ => mm_istore_n dX11_mint_15 rfl (by decide) rfl) ?_
  exact mm_Ec rfl rfl ega.symm K
