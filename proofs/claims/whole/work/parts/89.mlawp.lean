/-! law: the reference. -/
set_option maxRecDepth 100000 in
set_option maxHeartbeats 4000000 in
theorem mX11_goesOn_x (d : Nat) (h : mm_H) (B : Nat → Int32) (n p c : Nat) (t : MT B n h p c) (hp : p ≤ n + 1) (c0 : ¬ c = 0) (c4 : c < 4000) : ∃ g q, mm_M (d + 2) YX11_goesOn [.ref 165] h (some (.int 0)) g ∧ mt_fr h g ∧ MT B n g q c := by
  have hn4 := t.2.2.2.2.1
  have MB := mX11_blanks d h B n p c t (by omega)
  obtain ⟨g1, eg1⟩ : ∃ g : mm_H, g = (mm_up h.1 165 21 (nI (sk B n p)), h.2.1, h.2.2) := ⟨_, rfl⟩
  have t1 : MT B n g1 (sk B n p) c := by rw [eg1]; exact t.p _
  have f1 : mt_fr h g1 := by rw [eg1]; exact mt_p h _
  rw [← eg1] at MB
  have f0 : ¬ g1.1 165 22 = 0 := fun z => c0 ((nI_eq (b := 0) (by omega) (by omega)).mp (t1.2.2.1.symm.trans z))
  have ep : g1.1 165 21 = nI (sk B n p) := t1.2.1
  refine ⟨(mm_up g1.1 165 21 (nI (sk B n p + 1)), g1.2.1, g1.2.2), sk B n p + 1, ?_, f1.trans (mt_p g1 _), t1.p _⟩
  refine mm_M.of [some (.ref 165), none] rfl rfl (Nat.le_of_ble_eq_true rfl) ?_
  refine mm_aload_n dX11_goesOn_0 rfl rfl ?_
  refine mm_cV (Y1 := YX11_blanks) dX11_goesOn_1 lX11_231 vX11_blanks (MB) sh_165 rfl rfl (by simp [Value.category]) ?_
  refine mm_aload_n dX11_goesOn_4 rfl rfl ?_
  refine mm_getI dX11_goesOn_5 fX11_208 sh_165 rfl ?_
  refine mm_if_ne 40 dX11_goesOn_8 (by decide) (fun c_8 => ?_) (fun c_8 => ?_)
  · refine mm_aload_n dX11_goesOn_40 rfl rfl ?_
    refine mm_getI dX11_goesOn_41 fX11_208 sh_165 rfl ?_
    refine mm_if_ne 62 dX11_goesOn_44 (by decide) (fun c_44 => ?_) (fun c_44 => ?_)
    · refine mm_iconst (x := 0) dX11_goesOn_62 (by decide) ?_
      refine mm_istore_n dX11_goesOn_63 rfl (by decide) rfl ?_
      refine mm_aload_n dX11_goesOn_64 rfl rfl ?_
      refine mm_dup dX11_goesOn_65 rfl ?_
      refine mm_getI dX11_goesOn_66 fX11_211 sh_165 rfl ?_
      refine mm_iconst (x := 1) dX11_goesOn_69 (by decide) ?_
      refine mm_iadd dX11_goesOn_70 ?_
      refine mm_putI dX11_goesOn_71 fX11_211 sh_165 rfl rfl rfl ?_
      refine mm_iload_n dX11_goesOn_74 rfl rfl ?_
      exact mm_zretE dX11_goesOn_75 rfl (by decide) rfl (by rw [ep, nI_succ])
    · exact absurd c_44 f0
  · exact absurd c_8 f0
set_option maxRecDepth 100000 in
set_option maxHeartbeats 4000000 in
theorem mX11_starts (d : Nat) (h : mm_H) : mm_M d YX11_starts [.ref 165] h none (mm_up (mm_up (mm_up (mm_up (mm_up h.1 165 21 0) 165 22 0) 165 25 0) 165 26 0) 165 27 0, h.2.1, h.2.2) := by
  refine mm_M.of [some (.ref 165)] rfl rfl (Nat.le_of_ble_eq_true rfl) ?_
  refine mm_aload_n dX11_starts_0 rfl rfl ?_
  refine mm_iconst (x := 0) dX11_starts_1 (by decide) ?_
  refine mm_putI dX11_starts_2 fX11_211 sh_165 rfl rfl rfl ?_
  refine mm_aload_n dX11_starts_5 rfl rfl ?_
  refine mm_iconst (x := 0) dX11_starts_6 (by decide) ?_
  refine mm_putI dX11_starts_7 fX11_208 sh_165 rfl rfl rfl ?_
  refine mm_aload_n dX11_starts_10 rfl rfl ?_
  refine mm_iconst (x := 0) dX11_starts_11 (by decide) ?_
  refine mm_putI dX11_starts_12 fX11_241 sh_165 rfl rfl rfl ?_
  refine mm_aload_n dX11_starts_15 rfl rfl ?_
  refine mm_iconst (x := 0) dX11_starts_16 (by decide) ?_
  refine mm_putI dX11_starts_17 fX11_282 sh_165 rfl rfl rfl ?_
  refine mm_aload_n dX11_starts_20 rfl rfl ?_
  refine mm_iconst (x := 0) dX11_starts_21 (by decide) ?_
  refine mm_putI dX11_starts_22 fX11_244 sh_165 rfl rfl rfl ?_
  exact mm_retE dX11_starts_25 rfl rfl
set_option maxRecDepth 100000 in
set_option maxHeartbeats 4000000 in
theorem mX11_law_6 (d : Nat) (h : mm_H) (hc : h.1 165 24 = nI 6) : mm_M d YX11_law [.ref 165] h (some (.int (-1))) h := by
  refine mm_M.of [some (.ref 165), none, none] rfl rfl (Nat.le_of_ble_eq_true rfl) ?_
  refine mm_aload_n dX11_law_0 rfl rfl ?_
  refine mm_getI dX11_law_1 fX11_347 sh_165 rfl ?_
  refine mm_bipush (x := 6) dX11_law_4 (by decide) ?_
  refine mm_icmp_ne 11 dX11_law_6 (by decide) (fun c_6 => ?_) (fun c_6 => ?_)
  · exact absurd (by rw [hc]; rfl) c_6
  · refine mm_iconst (x := (-1)) dX11_law_9 (by decide) ?_
    exact mm_iretE dX11_law_10 rfl rfl rfl
def pMl : Nat → Bool := fun c => c == 165 || rg 186 193 c
def mL_fr (h g : mm_H) : Prop := frm pMl h g ∧ ∀ j, j < 20 ∨ 28 < j → g.1 165 j = h.1 165 j
/-- what the reference's law answers and leaves -/
def mlP (g : mm_H) (A : MD) (LQ : Nat → LD) (nl : Nat) (x : Int32) (q : Except Nat (zl_S × List zl_C)) : Prop := match q with
  | .ok q => x = nI nl ∧ stM A (upQ LQ nl (zl_LD q)) (nl + 1) g
  | .error c => x = -2 - nI c ∧ stM A LQ nl g
set_option maxRecDepth 100000 in
set_option maxHeartbeats 4000000 in
theorem mX11_law (d : Nat) (h : mm_H) (A : MD) (LQ : Nat → LD) (nl : Nat) (S : stM A LQ nl h) (hnl : nl < 6) (h29 : h.1 165 29 = 10) (B : Nat → Int32) (n : Nat) (hn : n ≤ 400) (h1 : h.1 165 20 = nI n) (hB : ∀ i, i < n → h.1 185 i = B i) (hby : ∀ i, byt (B i)) : ∃ x g, mm_M (d + 12) YX11_law [.ref 165] h (some (.int x)) g ∧ mL_fr h g ∧ g.1 165 20 = 0 ∧ mlP g A LQ nl x (zl_q B n 14 (sk B n 0, 0, []) []) := by
  obtain ⟨hA, hV, h24, hn6, hL⟩ := S
  suffices hE : mm_E (d + 12) YX11_law 0 [some (.ref 165), none, none] [] h (fun v g => ∃ x, v = some (.int x) ∧ mL_fr h g ∧ g.1 165 20 = 0 ∧ mlP g A LQ nl x (zl_q B n 14 (sk B n 0, 0, []) [])) by
    obtain ⟨v, g, hR, x, rfl, h1⟩ := hE
    exact ⟨x, g, mm_M.of _ rfl rfl (Nat.le_of_ble_eq_true rfl) hR, h1⟩
  obtain ⟨h2, eh2⟩ : ∃ g : mm_H, g = (mm_up h.1 165 23 (nI nl), h.2.1, h.2.2) := ⟨_, rfl⟩
  have MST := mX11_starts (d + 11) h2
  obtain ⟨h3, eh3⟩ : ∃ g : mm_H, g = (mm_up (mm_up (mm_up (mm_up (mm_up h2.1 165 21 0) 165 22 0) 165 25 0) 165 26 0) 165 27 0, h2.2.1, h2.2.2) := ⟨_, rfl⟩
  rw [← eh3] at MST
  have k3 : ∀ j, j ≠ 21 → j ≠ 22 → j ≠ 23 → j ≠ 25 → j ≠ 26 → j ≠ 27 → h3.1 165 j = h.1 165 j := fun j a b c e f g => by
    rw [eh3]; dsimp only
    rw [mm_up_k g, mm_up_k f, mm_up_k e, mm_up_k b, mm_up_k a, eh2]; dsimp only
    rw [mm_up_k c]
  have o3 : ∀ c, c ≠ 165 → h3.1 c = h.1 c := fun c hc => by
    rw [eh3]; dsimp only
    rw [mm_up_n hc, mm_up_n hc, mm_up_n hc, mm_up_n hc, mm_up_n hc, eh2]; dsimp only
    rw [mm_up_n hc]
  have r3 : h3.2 = h.2 := by rw [eh3, eh2]
  have S3 : zm_S B n h3 nl (sk B n 0, 0, []) 0 := by
    refine ⟨⟨?_, ?_, ?_, fun i hi => ?_, hn, hby⟩, Nat.zero_le _, rfl, ?_, ?_, ?_, ?_, fun k hk => absurd hk (Nat.not_lt_zero k), Nat.zero_le 60⟩
    · rw [k3 20 (by decide) (by decide) (by decide) (by decide) (by decide) (by decide)]; exact h1
    · rw [eh3]; dsimp only; rw [mm_up_k (by decide), mm_up_k (by decide), mm_up_k (by decide), mm_up_k (by decide), mm_up_e]; rfl
    · rw [eh3]; dsimp only; rw [mm_up_k (by decide), mm_up_k (by decide), mm_up_k (by decide), mm_up_e]; rfl
    · rw [o3 185 (by decide)]; exact hB i hi
    · rw [eh3]; dsimp only; rw [mm_up_e]; rfl
    · rw [eh3]; dsimp only; rw [mm_up_k (by decide), mm_up_k (by decide), mm_up_e]; rfl
    · rw [eh3]; dsimp only; rw [mm_up_k (by decide), mm_up_k (by decide), mm_up_k (by decide), mm_up_k (by decide), mm_up_k (by decide), eh2]; dsimp only; rw [mm_up_e]
    · rw [k3 29 (by decide) (by decide) (by decide) (by decide) (by decide) (by decide)]; exact h29
  have d3 : h3.1 165 26 = 0 := by rw [eh3]; dsimp only; rw [mm_up_k (by decide), mm_up_e]
  /- behind the loop -/
  have K47 : ∀ (gg : mm_H) (k ft p : Nat) x2, ml_fr nl h3 gg → MT B n gg p ft → ft < 4000 → gg.1 165 23 = nI nl → ∀ q, (match q with | .error c => ft = c ∧ ¬ c = 0 | .ok (q : zl_S × List zl_C) => ft = 0 ∧ k = q.2.length ∧ (∀ k, k < q.1.2.2.length → gg.1 186 (300 * nl + k) = nI (rs (q.1.2.2.getD k 0)) ∧ gg.1 187 (300 * nl + k) = nI (rn (q.1.2.2.getD k 0))) ∧ LCM gg nl q.2 ∧ lawOK (zl_LD q)) → mm_E (d + 12) YX11_law 47 [some (.ref 165), some (.int (nI k)), x2] [] gg (fun v g => ∃ x, v = some (.int x) ∧ mL_fr h g ∧ g.1 165 20 = 0 ∧ mlP g A LQ nl x q) := by
    intro gg k ft p x2 fg t c4 e23 q hq
    have e22 : gg.1 165 22 = nI ft := t.2.2.1
    have e24 : gg.1 165 24 = nI nl := by rw [fg.2.1 24 (by decide) (by decide) (by decide) (by decide) (by decide) (by decide), k3 24 (by decide) (by decide) (by decide) (by decide) (by decide) (by decide)]; exact h24
    obtain ⟨nl2, en2⟩ : ∃ a, a = (if ft = 0 then nl + 1 else nl) := ⟨_, rfl⟩
    obtain ⟨g5, eg5⟩ : ∃ g : mm_H, g = (mm_up (mm_up (mm_up gg.1 165 20 0) 188 nl (nI k)) 165 24 (nI nl2), gg.2.1, gg.2.2) := ⟨_, rfl⟩
    have n5 : ∀ c, c ≠ 165 → c ≠ 188 → g5.1 c = gg.1 c := fun c h1 h2 => by rw [eg5]; dsimp only; rw [mm_up_n h1, mm_up_n h2, mm_up_n h1]
    have j5 : ∀ j, j ≠ 20 → j ≠ 24 → g5.1 165 j = gg.1 165 j := fun j h1 h2 => by rw [eg5]; dsimp only; rw [mm_up_k h2, mm_up_n (by decide), mm_up_k h1]
    have e188 : ∀ j, j ≠ nl → g5.1 188 j = h.1 188 j := fun j hj => by rw [eg5]; dsimp only; rw [mm_up_n (by decide), mm_up_k hj, mm_up_n (by decide), fg.1.i (c := 188) rfl, o3 188 (by decide)]
    have fL : mL_fr h g5 := by
      refine ⟨⟨fun c hc => ?_, ?_⟩, fun j hj => ?_⟩
      · simp only [pMl, Bool.or_eq_false_iff, beq_eq_false_iff_ne, rg, decide_eq_false_iff_not] at hc
        have pc : pML c = false := by simp only [pML, Bool.or_eq_false_iff, beq_eq_false_iff_ne, rg, decide_eq_false_iff_not]; omega
        exact ⟨by rw [n5 c (by omega) (by omega), fg.1.i pc, o3 c (by omega)], by rw [eg5]; dsimp only; rw [fg.1.l pc, show h3.2.1 = h.2.1 by rw [r3]]⟩
      · rw [eg5]; dsimp only; rw [fg.1.2, show h3.2.2 = h.2.2 by rw [r3]]
      · rw [j5 j (by omega) (by omega), fg.2.1 j (by omega) (by omega) (by omega) (by omega) (by omega) (by omega), k3 j (by omega) (by omega) (by omega) (by omega) (by omega) (by omega)]
    have e20 : g5.1 165 20 = 0 := by rw [eg5]; dsimp only; rw [mm_up_k (by decide), mm_up_n (by decide), mm_up_e]
    have e524 : g5.1 165 24 = nI nl2 := by rw [eg5]; dsimp only; rw [mm_up_e]
    have e522 : g5.1 165 22 = nI ft := by rw [j5 22 (by decide) (by decide)]; exact e22
    have vw : viewM g5 A := viewM_f hV fL.1 (fun c hc => by simp only [pMl, Bool.or_eq_false_iff, beq_eq_false_iff_ne, rg, decide_eq_false_iff_not]; omega)
    have lw : ∀ r, r < nl → lawM g5.1 r (LQ r) := fun r hr => by
      obtain ⟨⟨w1, w2, w3⟩, m1, m2, m3⟩ := hL r hr
      refine ⟨by rw [e188 r (by omega)]; exact m1, fun i hi => ?_, fun c hc => ?_⟩
      · rw [n5 186 (by decide) (by decide), n5 187 (by decide) (by decide), (fg.2.2.1 (300 * r + i) (Or.inl (by omega))).1, (fg.2.2.1 (300 * r + i) (Or.inl (by omega))).2, o3 186 (by decide), o3 187 (by decide)]
        exact m2 i hi
      · obtain ⟨y1, y2, y3, y4⟩ := fg.2.2.2 (12 * r + c) (Or.inl (by omega))
        rw [n5 189 (by decide) (by decide), n5 190 (by decide) (by decide), n5 191 (by decide) (by decide), n5 192 (by decide) (by decide), y1, y2, y3, y4, o3 189 (by decide), o3 190 (by decide), o3 191 (by decide), o3 192 (by decide)]
        exact m3 c hc
    cases q with
    | error c =>
      obtain ⟨ec, c0⟩ := hq
      subst ec
      rw [if_neg c0] at en2
      have hp : (0 : Int32) < nI ft := by rw [Int32.lt_iff_toInt_lt, nI_toInt (show ft < 2 ^ 31 by omega), show (0 : Int32).toInt = 0 from rfl]; omega
      have fin : mL_fr h g5 ∧ g5.1 165 20 = 0 ∧ mlP g5 A LQ nl (-2 - nI ft) (.error ft) := ⟨fL, e20, rfl, hA, vw, by rw [e524, en2], hn6, fun r hr => ⟨(hL r hr).1, lw r hr⟩⟩
      have eadd : nI nl + 0 = nI nl2 := by rw [en2]; simp
      refine mm_Es (fun _ _ => mm_aload_n dX11_law_47 rfl rfl) ?_
      refine mm_Es (fun _ _ => mm_iconst (x := 0) dX11_law_48 (by decide)) ?_
      refine mm_Es (fun _ _ => mm_putI dX11_law_49 fX11_181 sh_165 rfl rfl rfl) ?_
      refine mm_Es (fun _ _ => mm_aload_n dX11_law_52 rfl rfl) ?_
      refine mm_Es (fun _ _ => mm_getS dX11_law_53 fX11_81 sh_165 rfl gr_165_35) ?_
      refine mm_Es (fun _ _ => mm_aload_n dX11_law_56 rfl rfl) ?_
      refine mm_Es (fun _ _ => mm_getI dX11_law_57 fX11_238 sh_165 rfl) ?_
      refine mm_Es (fun _ _ => mm_iload_n dX11_law_60 rfl rfl) ?_
      refine mm_Es (fun _ _ => mm_iast (nl) dX11_law_61 sh_188 (by dsimp only; rw [mm_up_k (by decide)]; exact e23) (by omega)) ?_
      refine mm_Es (fun _ _ => mm_aload_n dX11_law_62 rfl rfl) ?_
      refine mm_Es (fun _ _ => mm_dup dX11_law_63 rfl) ?_
      refine mm_Es (fun _ _ => mm_getI dX11_law_64 fX11_347 sh_165 rfl) ?_
      refine mm_Es (fun _ _ => mm_aload_n dX11_law_67 rfl rfl) ?_
      refine mm_Es (fun _ _ => mm_getI dX11_law_68 fX11_208 sh_165 rfl) ?_
      refine mm_Ebn (fun _ _ => mm_if_ne 78 dX11_law_71 (by decide)) (fun c_71 => ?_) (fun c_71 => ?_)
      · refine mm_Es (fun _ _ => mm_iconst (x := 0) dX11_law_78 (by decide)) ?_
        refine mm_Es (fun _ _ => mm_iadd dX11_law_79) ?_
        refine mm_Es (fun _ _ => mm_putI dX11_law_80 fX11_347 sh_165 rfl rfl rfl) ?_
        refine mm_Es (fun _ _ => mm_cast rfl rfl (g := g5) (by rw [eg5]; dsimp only; rw [mm_up_n (show 165 ≠ 188 by decide), mm_up_k (show 24 ≠ 20 by decide), e24, eadd])) ?_
        refine mm_Es (fun _ _ => mm_aload_n dX11_law_83 rfl rfl) ?_
        refine mm_Es (fun _ _ => mm_getI dX11_law_84 fX11_208 sh_165 rfl) ?_
        refine mm_Eb (fun _ _ => mm_if_le 100 dX11_law_87 (by decide)) (fun c_87 => ?_) (fun c_87 => ?_)
        · exact absurd c_87 (by rw [e522]; exact Int32.not_le.mpr hp)
        · refine mm_Es (fun _ _ => mm_bipush (x := (-2)) dX11_law_90 (by decide)) ?_
          refine mm_Es (fun _ _ => mm_aload_n dX11_law_92 rfl rfl) ?_
          refine mm_Es (fun _ _ => mm_getI dX11_law_93 fX11_208 sh_165 rfl) ?_
          refine mm_Es (fun _ _ => mm_isub dX11_law_96) ?_
          refine mm_Es (fun _ _ => mm_goto 106 dX11_law_97 (by decide)) ?_
          refine mm_Er (mm_ireturn dX11_law_106 rfl) ?_
          exact ⟨-2 - nI ft, by rw [e522], fin⟩
      · exact absurd ((nI_eq (b := 0) (by omega) (by omega)).mp (by dsimp only at c_71; rw [mm_up_n (show 165 ≠ 188 by decide), mm_up_k (show 22 ≠ 20 by decide)] at c_71; exact e22.symm.trans c_71)) c0
    | ok q =>
      obtain ⟨ec, ek, Sq, Lq, hOK⟩ := hq
      subst ec
      rw [if_pos rfl] at en2
      have lq : lawM g5.1 nl (zl_LD q) := by
        obtain ⟨w1, w2, w3⟩ := hOK
        refine ⟨by rw [eg5]; dsimp only; rw [mm_up_n (by decide), mm_up_e, ek]; rfl, fun i hi => ?_, fun c hc => ?_⟩
        · rw [n5 186 (by decide) (by decide), n5 187 (by decide) (by decide)]; exact Sq i hi
        · rw [n5 189 (by decide) (by decide), n5 190 (by decide) (by decide), n5 191 (by decide) (by decide), n5 192 (by decide) (by decide)]; exact Lq c hc
      have fin : mL_fr h g5 ∧ g5.1 165 20 = 0 ∧ mlP g5 A LQ nl (nI nl) (.ok q) := by
        refine ⟨fL, e20, rfl, hA, vw, by rw [e524, en2], hnl, fun r hr => ?_⟩
        by_cases z : r = nl
        · subst z
          rw [show upQ LQ r (zl_LD q) r = zl_LD q from if_pos rfl]
          exact ⟨hOK, lq⟩
        · rw [show upQ LQ nl (zl_LD q) r = LQ r from if_neg z]
          exact ⟨(hL r (by omega)).1, lw r (by omega)⟩
      have eadd : nI nl + 1 = nI nl2 := by rw [en2, nI_succ]
      refine mm_Es (fun _ _ => mm_aload_n dX11_law_47 rfl rfl) ?_
      refine mm_Es (fun _ _ => mm_iconst (x := 0) dX11_law_48 (by decide)) ?_
      refine mm_Es (fun _ _ => mm_putI dX11_law_49 fX11_181 sh_165 rfl rfl rfl) ?_
      refine mm_Es (fun _ _ => mm_aload_n dX11_law_52 rfl rfl) ?_
      refine mm_Es (fun _ _ => mm_getS dX11_law_53 fX11_81 sh_165 rfl gr_165_35) ?_
      refine mm_Es (fun _ _ => mm_aload_n dX11_law_56 rfl rfl) ?_
      refine mm_Es (fun _ _ => mm_getI dX11_law_57 fX11_238 sh_165 rfl) ?_
      refine mm_Es (fun _ _ => mm_iload_n dX11_law_60 rfl rfl) ?_
      refine mm_Es (fun _ _ => mm_iast (nl) dX11_law_61 sh_188 (by dsimp only; rw [mm_up_k (by decide)]; exact e23) (by omega)) ?_
      refine mm_Es (fun _ _ => mm_aload_n dX11_law_62 rfl rfl) ?_
      refine mm_Es (fun _ _ => mm_dup dX11_law_63 rfl) ?_
      refine mm_Es (fun _ _ => mm_getI dX11_law_64 fX11_347 sh_165 rfl) ?_
      refine mm_Es (fun _ _ => mm_aload_n dX11_law_67 rfl rfl) ?_
      refine mm_Es (fun _ _ => mm_getI dX11_law_68 fX11_208 sh_165 rfl) ?_
      refine mm_Ebn (fun _ _ => mm_if_ne 78 dX11_law_71 (by decide)) (fun c_71 => ?_) (fun c_71 => ?_)
      · exact absurd (by dsimp only; rw [mm_up_n (show 165 ≠ 188 by decide), mm_up_k (show 22 ≠ 20 by decide)]; exact e22) c_71
      · refine mm_Es (fun _ _ => mm_iconst (x := 1) dX11_law_74 (by decide)) ?_
        refine mm_Es (fun _ _ => mm_goto 79 dX11_law_75 (by decide)) ?_
        refine mm_Es (fun _ _ => mm_iadd dX11_law_79) ?_
        refine mm_Es (fun _ _ => mm_putI dX11_law_80 fX11_347 sh_165 rfl rfl rfl) ?_
        refine mm_Es (fun _ _ => mm_cast rfl rfl (g := g5) (by rw [eg5]; dsimp only; rw [mm_up_n (show 165 ≠ 188 by decide), mm_up_k (show 24 ≠ 20 by decide), e24, eadd])) ?_
        refine mm_Es (fun _ _ => mm_aload_n dX11_law_83 rfl rfl) ?_
        refine mm_Es (fun _ _ => mm_getI dX11_law_84 fX11_208 sh_165 rfl) ?_
        refine mm_Eb (fun _ _ => mm_if_le 100 dX11_law_87 (by decide)) (fun c_87 => ?_) (fun c_87 => ?_)
        · refine mm_Es (fun _ _ => mm_aload_n dX11_law_100 rfl rfl) ?_
          refine mm_Es (fun _ _ => mm_getI dX11_law_101 fX11_347 sh_165 rfl) ?_
          refine mm_Es (fun _ _ => mm_iconst (x := 1) dX11_law_104 (by decide)) ?_
          refine mm_Es (fun _ _ => mm_isub dX11_law_105) ?_
          refine mm_Er (mm_ireturn dX11_law_106 rfl) ?_
          exact ⟨nI nl, by rw [e524, en2, nI_succ]; simp, fin⟩
        · exact absurd (by rw [e522]; decide) c_87
  have K27 : ∀ f s cs gg p, f + cs.length = 13 → cs.length ≤ 12 → zb_I n s cs → zm_S B n gg nl s p → gg.1 165 26 = 0 → LCM gg nl cs → ml_fr nl h3 gg → mm_E (d + 12) YX11_law 27 [some (.ref 165), some (.int (nI cs.length)), some (.int 1)] [] gg (fun v g => ∃ x, v = some (.int x) ∧ mL_fr h g ∧ g.1 165 20 = 0 ∧ mlP g A LQ nl x (zl_q B n (f + 1) s cs)) := by
    intro f
    induction f with
    | zero => intro s cs gg p h1 h2; omega
    | succ f ih =>
    intro s cs gg p h1 h2 I Sg d0 L fg
    obtain ⟨g1, M1, f1, R1⟩ := mX11_lawClause d gg B n nl p hnl s Sg d0 I.2.2.1 cs L h2
    have fg1 := fg.trans f1
    have e23 : ∀ g2, mt_fr g1 g2 → g2.1 165 23 = nI nl := fun g2 q => by rw [q.2 23 (by decide) (by decide), f1.2.1 23 (by decide) (by decide) (by decide) (by decide) (by decide) (by decide)]; exact Sg.2.2.2.2.2.1
    simp only [zl_q]
    cases e : zl_c B n cs.length s with
    | error c =>
      rw [e] at R1
      rw [zl_b_e]
      obtain ⟨p1, t1, hp1, c0, c4, -⟩ := R1
      obtain ⟨g2, q2, M2, f2, t2⟩ := mX11_goesOn_x (d + 9) g1 B n p1 c t1 hp1 c0 c4
      have K := K47 g2 (cs.length + 1) c q2 (some (.int 0)) (fg1.trans f2.ml) t2 c4 (e23 g2 f2) (.error c) ⟨rfl, c0⟩
      refine mm_Es (fun _ _ => mm_iload_n dX11_law_27 rfl rfl) ?_
      refine mm_Eb (fun _ _ => mm_if_eq 47 dX11_law_28 (by decide)) (fun c_28 => ?_) (fun c_28 => ?_)
      · exact absurd c_28 (by decide)
      · refine mm_Es (fun _ _ => mm_aload_n dX11_law_31 rfl rfl) ?_
        refine mm_Es (fun _ _ => mm_iload_n dX11_law_32 rfl rfl) ?_
        refine mm_Es (fun _ _ => mm_cV (Y1 := YX11_lawClause) dX11_law_33 lX11_350 vX11_lawClause (M1) sh_165 rfl rfl (by simp [Value.category])) ?_
        refine mm_Es (fun _ _ => mm_iinc dX11_law_36 rfl (nI_inc cs.length) rfl) ?_
        refine mm_Es (fun _ _ => mm_aload_n dX11_law_39 rfl rfl) ?_
        refine mm_Es (fun _ _ => mm_cV (Y1 := YX11_goesOn) dX11_law_40 lX11_332 vX11_goesOn (M2) sh_165 rfl rfl (by simp [Value.category])) ?_
        refine mm_Es (fun _ _ => mm_istore_n dX11_law_43 rfl (by decide) rfl) ?_
        refine mm_Es (fun _ _ => mm_goto 27 dX11_law_44 (by decide)) ?_
        refine mm_Es (fun _ _ => mm_iload_n dX11_law_27 rfl rfl) ?_
        refine mm_Eb (fun _ _ => mm_if_eq 47 dX11_law_28 (by decide)) (fun c_28 => ?_) (fun c_28 => ?_)
        · exact K
        · exact absurd c_28 (by decide)
    | ok q =>
      rw [e] at R1
      rw [zl_b_k]
      obtain ⟨⟨p1, S1⟩, d1, L1⟩ := R1
      obtain ⟨b1, b2⟩ := I.c e
      have hle1 := S1.le
      have el : (cs ++ [q.2]).length = cs.length + 1 := by rw [List.length_append]; rfl
      have eq1 : sk B n p1 = q.1.1 := S1.2.2.1
      obtain ⟨x, g2, M2, f2, t2, ex⟩ := mX11_goesOn (d + 9) g1 B n p1 0 S1.1 S1.2.1 (by decide)
      rw [eq1] at t2 ex
      have d2 : g2.1 165 26 = 0 := by rw [f2.2 26 (by decide) (by decide)]; exact d1
      have LM : LCM g2 nl (cs ++ [q.2]) := fun c hc => by
        rw [f2.1.i (c := 189) rfl, f2.1.i (c := 190) rfl, f2.1.i (c := 191) rfl, f2.1.i (c := 192) rfl]; exact L1 c hc
      by_cases k3' : kd B n q.1.1 = 3
      · rw [if_pos k3']
        obtain ⟨q1, q2, q3⟩ := en_1 (B := B) (n := n) (p := q.1.1) (by omega)
        rw [pI_1 ⟨rfl, q1, k3'⟩] at ex
        rw [ex] at M2
        rw [if_neg (fun z => z.2.2 k3')] at t2
        have S2 : zm_S B n g2 nl (zl_a B n q.1) (q.1.1 + 1) := S1.a f2 t2 (by omega) q3
        have K := ih (zl_a B n q.1) (cs ++ [q.2]) g2 (q.1.1 + 1) (by omega) (by omega) (b2.a (by omega)) S2 d2 LM (fg1.trans f2.ml)
        rw [el] at K
        refine mm_Es (fun _ _ => mm_iload_n dX11_law_27 rfl rfl) ?_
        refine mm_Eb (fun _ _ => mm_if_eq 47 dX11_law_28 (by decide)) (fun c_28 => ?_) (fun c_28 => ?_)
        · exact absurd c_28 (by decide)
        · refine mm_Es (fun _ _ => mm_aload_n dX11_law_31 rfl rfl) ?_
          refine mm_Es (fun _ _ => mm_iload_n dX11_law_32 rfl rfl) ?_
          refine mm_Es (fun _ _ => mm_cV (Y1 := YX11_lawClause) dX11_law_33 lX11_350 vX11_lawClause (M1) sh_165 rfl rfl (by simp [Value.category])) ?_
          refine mm_Es (fun _ _ => mm_iinc dX11_law_36 rfl (nI_inc cs.length) rfl) ?_
          refine mm_Es (fun _ _ => mm_aload_n dX11_law_39 rfl rfl) ?_
          refine mm_Es (fun _ _ => mm_cV (Y1 := YX11_goesOn) dX11_law_40 lX11_332 vX11_goesOn (M2) sh_165 rfl rfl (by simp [Value.category])) ?_
          refine mm_Es (fun _ _ => mm_istore_n dX11_law_43 rfl (by decide) rfl) ?_
          refine mm_Es (fun _ _ => mm_goto 27 dX11_law_44 (by decide)) ?_
          exact K
      · rw [if_neg k3']
        rw [pI_0 (fun z => k3' z.2.2)] at ex
        rw [ex] at M2
        by_cases k0 : kd B n q.1.1 = 0
        · rw [if_pos k0]
          have eqn : q.1.1 = n := (kd_0 hle1).mp k0
          rw [if_neg (fun z => by have := z.2.1; omega)] at t2
          have hOK := zl_LD_ok hn (q := (q.1, cs ++ [q.2])) b2 (by show (cs ++ [q.2]).length ≤ 12; omega)
          have K := K47 g2 (cs.length + 1) 0 (q.1.1 + 1) (some (.int 0)) (fg1.trans f2.ml) t2 (by decide) (e23 g2 f2) (.ok (q.1, cs ++ [q.2])) ⟨rfl, el.symm, (by
            have b7 := S1.2.2.2.2.2.2.2.1
            intro k hk
            rw [f2.1.i (c := 186) rfl, f2.1.i (c := 187) rfl]; exact b7 k hk), LM, hOK⟩
          refine mm_Es (fun _ _ => mm_iload_n dX11_law_27 rfl rfl) ?_
          refine mm_Eb (fun _ _ => mm_if_eq 47 dX11_law_28 (by decide)) (fun c_28 => ?_) (fun c_28 => ?_)
          · exact absurd c_28 (by decide)
          · refine mm_Es (fun _ _ => mm_aload_n dX11_law_31 rfl rfl) ?_
            refine mm_Es (fun _ _ => mm_iload_n dX11_law_32 rfl rfl) ?_
            refine mm_Es (fun _ _ => mm_cV (Y1 := YX11_lawClause) dX11_law_33 lX11_350 vX11_lawClause (M1) sh_165 rfl rfl (by simp [Value.category])) ?_
            refine mm_Es (fun _ _ => mm_iinc dX11_law_36 rfl (nI_inc cs.length) rfl) ?_
            refine mm_Es (fun _ _ => mm_aload_n dX11_law_39 rfl rfl) ?_
            refine mm_Es (fun _ _ => mm_cV (Y1 := YX11_goesOn) dX11_law_40 lX11_332 vX11_goesOn (M2) sh_165 rfl rfl (by simp [Value.category])) ?_
            refine mm_Es (fun _ _ => mm_istore_n dX11_law_43 rfl (by decide) rfl) ?_
            refine mm_Es (fun _ _ => mm_goto 27 dX11_law_44 (by decide)) ?_
            refine mm_Es (fun _ _ => mm_iload_n dX11_law_27 rfl rfl) ?_
            refine mm_Eb (fun _ _ => mm_if_eq 47 dX11_law_28 (by decide)) (fun c_28 => ?_) (fun c_28 => ?_)
            · exact K
            · exact absurd c_28 (by decide)
        · rw [if_neg k0]
          have hlt : q.1.1 < n := kd_pos (B := B) hle1 k0
          rw [if_pos ⟨rfl, hlt, k3'⟩] at t2
          have K := K47 g2 (cs.length + 1) (1 + 8 * q.1.1) (q.1.1 + 1) (some (.int 0)) (fg1.trans f2.ml) t2 (by omega) (e23 g2 f2) (.error (1 + 8 * q.1.1)) ⟨rfl, by omega⟩
          refine mm_Es (fun _ _ => mm_iload_n dX11_law_27 rfl rfl) ?_
          refine mm_Eb (fun _ _ => mm_if_eq 47 dX11_law_28 (by decide)) (fun c_28 => ?_) (fun c_28 => ?_)
          · exact absurd c_28 (by decide)
          · refine mm_Es (fun _ _ => mm_aload_n dX11_law_31 rfl rfl) ?_
            refine mm_Es (fun _ _ => mm_iload_n dX11_law_32 rfl rfl) ?_
            refine mm_Es (fun _ _ => mm_cV (Y1 := YX11_lawClause) dX11_law_33 lX11_350 vX11_lawClause (M1) sh_165 rfl rfl (by simp [Value.category])) ?_
            refine mm_Es (fun _ _ => mm_iinc dX11_law_36 rfl (nI_inc cs.length) rfl) ?_
            refine mm_Es (fun _ _ => mm_aload_n dX11_law_39 rfl rfl) ?_
            refine mm_Es (fun _ _ => mm_cV (Y1 := YX11_goesOn) dX11_law_40 lX11_332 vX11_goesOn (M2) sh_165 rfl rfl (by simp [Value.category])) ?_
            refine mm_Es (fun _ _ => mm_istore_n dX11_law_43 rfl (by decide) rfl) ?_
            refine mm_Es (fun _ _ => mm_goto 27 dX11_law_44 (by decide)) ?_
            refine mm_Es (fun _ _ => mm_iload_n dX11_law_27 rfl rfl) ?_
            refine mm_Eb (fun _ _ => mm_if_eq 47 dX11_law_28 (by decide)) (fun c_28 => ?_) (fun c_28 => ?_)
            · exact K
            · exact absurd c_28 (by decide)
  have sk0 := sk_ge (B := B) (n := n) (p := 0) (Nat.zero_le _)
  have K := K27 13 (sk B n 0, 0, []) [] h3 0 rfl (by decide) (zb_I0 sk0.2) S3 d3 (fun c hc => absurd hc (Nat.not_lt_zero c)) (ml_fr.refl nl h3)
  refine mm_Es (fun _ _ => mm_aload_n dX11_law_0 rfl rfl) ?_
  refine mm_Es (fun _ _ => mm_getI dX11_law_1 fX11_347 sh_165 rfl) ?_
  refine mm_Es (fun _ _ => mm_bipush (x := 6) dX11_law_4 (by decide)) ?_
  refine mm_Ebn (fun _ _ => mm_icmp_ne 11 dX11_law_6 (by decide)) (fun c_6 => ?_) (fun c_6 => ?_)
  · refine mm_Es (fun _ _ => mm_aload_n dX11_law_11 rfl rfl) ?_
    refine mm_Es (fun _ _ => mm_aload_n dX11_law_12 rfl rfl) ?_
    refine mm_Es (fun _ _ => mm_getI dX11_law_13 fX11_347 sh_165 rfl) ?_
    refine mm_Es (fun _ _ => mm_putI dX11_law_16 fX11_238 sh_165 rfl rfl rfl) ?_
    refine mm_Es (fun _ _ => mm_cast rfl rfl (g := h2) (by rw [eh2, h24])) ?_
    refine mm_Es (fun _ _ => mm_aload_n dX11_law_19 rfl rfl) ?_
    refine mm_Es (fun _ _ => mm_cV (Y1 := YX11_starts) dX11_law_20 lX11_326 vX11_starts (MST) sh_165 rfl rfl (by simp [Value.category])) ?_
    refine mm_Es (fun _ _ => mm_iconst (x := 0) dX11_law_23 (by decide)) ?_
    refine mm_Es (fun _ _ => mm_istore_n dX11_law_24 rfl (by decide) rfl) ?_
    refine mm_Es (fun _ _ => mm_iconst (x := 1) dX11_law_25 (by decide)) ?_
    refine mm_Es (fun _ _ => mm_istore_n dX11_law_26 rfl (by decide) rfl) ?_
    exact K
  · exact absurd ((nI_eq (b := 6) (by omega) (by omega)).mp (h24.symm.trans c_6)) (by omega)
