/-! The class's chords: isSame, addChord, numberOfTones, learn. -/
theorem take_sI {l : List Int32} {i : Nat} (h : i < l.length) : l.take (i + 1) = l.take i ++ [l.getD i 0] := by
  rw [List.take_add_one, List.getD_eq_getElem?_getD, List.getElem?_eq_getElem h]
  rfl
theorem nI_as (a b : Nat) : nI (a + b) - nI a = nI b := by rw [Nat.add_comm, ← nI_add, Int32.add_sub_cancel]
set_option maxRecDepth 100000 in
set_option maxHeartbeats 4000000 in
theorem mX0_isSame (d : Nat) (h : mm_H) (n : Nat) (ch : Nat → List Int32) (wt : Nat → Int32) (m : Nat) (W : Nat → Nat) (hI : cinv n ch wt h m W) (i : Nat) (hi : i < m) (cell : Nat) (hsh : mm_sh cell = (1, 12)) (l : List Int32) (hl : l.length ≤ 12) (hr : ∀ j, j < l.length → h.1 cell j = l.getD j 0) : mm_M d YX0_isSame [.ref 135, .int (nI (i + 1)), .ref cell, .int (nI l.length)] h (some (.int (bI (ch (W i) = l)))) h := by
  obtain ⟨c1, c2, c3, c4, c5, c6, c7, c8, c9, c10⟩ := hI
  have o1 := c6 i (by omega)
  have o2 := c6 (i + 1) (by omega)
  have os := offs_s (fun i => ch (W i)) i
  have om := offs_le (cw := (fun i => ch (W i))) (show i + 1 ≤ m by omega)
  obtain ⟨o, eo⟩ : ∃ o, o = offs (fun i => ch (W i)) i := ⟨_, rfl⟩
  rw [← eo] at o1 os
  have e2 : h.1 138 (i + 1 + 1) - nI o = nI (ch (W i)).length := by
    rw [o2, os]
    exact nI_as _ _
  have hx : ∀ j, j < (ch (W i)).length → h.1 139 (o + j) = (ch (W i)).getD j 0 := by rw [eo]; exact c7 i hi
  by_cases hn : (ch (W i)).length = l.length
  · have K28 : ∀ k j, j + k = l.length → (∀ q, q < j → (ch (W i)).getD q 0 = l.getD q 0) → mm_R d YX0_isSame 28 [some (.ref 135), some (.int (nI (i + 1))), some (.ref cell), some (.int (nI l.length)), some (.int (nI o)), some (.int (nI j))] [] h (some (.int (bI (ch (W i) = l)))) h := by
      intro k
      induction k with
      | zero =>
        intro j hj he
        have hj : j = l.length := by omega
        subst hj
        have heq : ch (W i) = l := list_ext_getD hn (fun q hq => he q (by omega))
        refine mm_iload dX0_isSame_28 rfl ?_
        refine mm_iload_n dX0_isSame_30 rfl rfl ?_
        refine mm_icmp_ge 59 dX0_isSame_31 (by decide) (fun c_31 => ?_) (fun c_31 => ?_)
        · refine mm_iconst (x := 1) dX0_isSame_59 (by decide) ?_
          exact mm_zretE dX0_isSame_60 rfl (bI_nar _) (bI_1 heq).symm rfl
        · exact absurd (Int32.le_refl _) c_31
      | succ k ih =>
        intro j hj he
        have hjn : j < l.length := by omega
        have hx2 := hx j (by omega)
        have hr2 := hr j hjn
        refine mm_iload dX0_isSame_28 rfl ?_
        refine mm_iload_n dX0_isSame_30 rfl rfl ?_
        refine mm_icmp_ge 59 dX0_isSame_31 (by decide) (fun c_31 => ?_) (fun c_31 => ?_)
        · exact absurd c_31 (nI_ge hjn (by omega))
        · refine mm_aload_n dX0_isSame_34 rfl rfl ?_
          refine mm_getS dX0_isSame_35 fX0_25 sh_135 rfl gr_135_8 ?_
          refine mm_iload dX0_isSame_38 rfl ?_
          refine mm_iload dX0_isSame_40 rfl ?_
          refine mm_iadd dX0_isSame_42 ?_
          refine mm_iald (o + j) dX0_isSame_43 sh_139 (nI_add o j) (by omega) ?_
          refine mm_aload_n dX0_isSame_44 rfl rfl ?_
          refine mm_iload dX0_isSame_45 rfl ?_
          refine mm_iald (j) dX0_isSame_47 hsh rfl (by omega) ?_
          refine mm_icmp_eq 53 dX0_isSame_48 (by decide) (fun c_48 => ?_) (fun c_48 => ?_)
          · have K := ih (j + 1) (by omega) (fun q hq => by
              by_cases z : q = j
              · subst z; rw [hx2, hr2] at c_48; exact c_48
              · exact he q (by omega))
            refine mm_iinc dX0_isSame_53 rfl rfl rfl ?_
            refine mm_goto 28 dX0_isSame_56 (by decide) ?_
            exact mm_cast (by rw [nI_succ j]; rfl) rfl rfl K
          · have hne : ¬ ch (W i) = l := fun z => c_48 (by rw [hx2, hr2, z])
            refine mm_iconst (x := 0) dX0_isSame_51 (by decide) ?_
            exact mm_zretE dX0_isSame_52 rfl (bI_nar _) (bI_0 hne).symm rfl
    refine mm_M.of [some (.ref 135), some (.int (nI (i + 1))), some (.ref cell), some (.int (nI l.length)), none, none] rfl rfl (Nat.le_of_ble_eq_true rfl) ?_
    refine mm_aload_n dX0_isSame_0 rfl rfl ?_
    refine mm_getS dX0_isSame_1 fX0_22 sh_135 rfl gr_135_7 ?_
    refine mm_iload_n dX0_isSame_4 rfl rfl ?_
    refine mm_iald (i + 1) dX0_isSame_5 sh_138 rfl (by omega) ?_
    refine mm_istore dX0_isSame_6 (by decide) rfl ?_
    refine mm_aload_n dX0_isSame_8 rfl rfl ?_
    refine mm_getS dX0_isSame_9 fX0_22 sh_135 rfl gr_135_7 ?_
    refine mm_iload_n dX0_isSame_12 rfl rfl ?_
    refine mm_iconst (x := 1) dX0_isSame_13 (by decide) ?_
    refine mm_iadd dX0_isSame_14 ?_
    refine mm_iald (i + 1 + 1) dX0_isSame_15 sh_138 (nI_1 (i + 1)) (by omega) ?_
    refine mm_iload dX0_isSame_16 rfl ?_
    refine mm_isub dX0_isSame_18 ?_
    refine mm_iload_n dX0_isSame_19 rfl rfl ?_
    refine mm_icmp_eq 25 dX0_isSame_20 (by decide) (fun c_20 => ?_) (fun c_20 => ?_)
    · refine mm_iconst (x := 0) dX0_isSame_25 (by decide) ?_
      refine mm_istore dX0_isSame_26 (by decide) rfl ?_
      exact mm_cast (by rw [o1]; rfl) rfl rfl (K28 l.length 0 (by omega) (fun q hq => by omega))
    · exact absurd (by rw [o1, e2, hn]) c_20
  · refine mm_M.of [some (.ref 135), some (.int (nI (i + 1))), some (.ref cell), some (.int (nI l.length)), none, none] rfl rfl (Nat.le_of_ble_eq_true rfl) ?_
    refine mm_aload_n dX0_isSame_0 rfl rfl ?_
    refine mm_getS dX0_isSame_1 fX0_22 sh_135 rfl gr_135_7 ?_
    refine mm_iload_n dX0_isSame_4 rfl rfl ?_
    refine mm_iald (i + 1) dX0_isSame_5 sh_138 rfl (by omega) ?_
    refine mm_istore dX0_isSame_6 (by decide) rfl ?_
    refine mm_aload_n dX0_isSame_8 rfl rfl ?_
    refine mm_getS dX0_isSame_9 fX0_22 sh_135 rfl gr_135_7 ?_
    refine mm_iload_n dX0_isSame_12 rfl rfl ?_
    refine mm_iconst (x := 1) dX0_isSame_13 (by decide) ?_
    refine mm_iadd dX0_isSame_14 ?_
    refine mm_iald (i + 1 + 1) dX0_isSame_15 sh_138 (nI_1 (i + 1)) (by omega) ?_
    refine mm_iload dX0_isSame_16 rfl ?_
    refine mm_isub dX0_isSame_18 ?_
    refine mm_iload_n dX0_isSame_19 rfl rfl ?_
    refine mm_icmp_eq 25 dX0_isSame_20 (by decide) (fun c_20 => ?_) (fun c_20 => ?_)
    · exact absurd (by rw [o1, e2] at c_20; exact nI_inj (by omega) (by omega) c_20) hn
    · refine mm_iconst (x := 0) dX0_isSame_23 (by decide) ?_
      exact mm_zretE dX0_isSame_24 rfl (bI_nar _) (bI_0 (fun z => hn (by rw [z]))).symm rfl
/-- a chord laid behind the others -/
def pAdd : Nat → Bool := fun c => c == 135 || c == 138 || c == 139
def added (m o t : Nat) (h g : mm_H) : Prop := frm pAdd h g ∧ g.1 135 = upd (h.1 135) 6 (nI (m + 1)) ∧ g.1 138 = upd (h.1 138) (m + 2) (nI (o + t)) ∧ ∀ j, g.1 139 j = if o ≤ j ∧ j < o + t then h.1 152 (j - o) else h.1 139 j
set_option maxRecDepth 100000 in
set_option maxHeartbeats 4000000 in
theorem mX0_addChord (d : Nat) (h : mm_H) (m o t : Nat) (hm : m < 4096) (h1 : h.1 135 6 = nI m) (h2 : h.1 138 (m + 1) = nI o) (h3 : h.1 145 13 = nI t) (ht : t ≤ 12) (ho : o + t ≤ 24576) : ∃ g, mm_M d YX0_addChord [.ref 135] h none g ∧ added m o t h g := by
  refine mm_EM.v (mm_EM.of [some (.ref 135), none, none] rfl rfl (Nat.le_of_ble_eq_true rfl) ?_)
  have K22 : ∀ k i, i + k = t → ∀ g, frm pAdd h g ∧ g.1 135 = upd (h.1 135) 6 (nI (m + 1)) ∧ g.1 138 = h.1 138 ∧ (∀ j, g.1 139 j = if o ≤ j ∧ j < o + i then h.1 152 (j - o) else h.1 139 j) → mm_E d YX0_addChord 22 [some (.ref 135), some (.int (nI o)), some (.int (nI i))] [] g (fun v g => v = none ∧ added m o t h g) := by
    intro k
    induction k with
    | zero =>
      intro i hi g S
      have hi : i = t := by omega
      subst hi
      obtain ⟨fS, s1, s2, s3⟩ := S
      have e145 : g.1 145 = h.1 145 := fS.i rfl
      have e1356 : g.1 135 6 = nI (m + 1) := by rw [s1]; simp [upd]
      refine mm_Es (fun _ _ => mm_iload_n dX0_addChord_22 rfl rfl) ?_
      refine mm_Es (fun _ _ => mm_aload_n dX0_addChord_23 rfl rfl) ?_
      refine mm_Es (fun _ _ => mm_getS dX0_addChord_24 fX0_56 sh_135 rfl gr_135_0) ?_
      refine mm_Es (fun _ _ => mm_getI dX0_addChord_27 fX0_99 sh_145 rfl) ?_
      refine mm_Eb (fun _ _ => mm_icmp_ge 56 dX0_addChord_30 (by decide)) (fun c_30 => ?_) (fun c_30 => ?_)
      · refine mm_Es (fun _ _ => mm_aload_n dX0_addChord_56 rfl rfl) ?_
        refine mm_Es (fun _ _ => mm_getS dX0_addChord_57 fX0_22 sh_135 rfl gr_135_7) ?_
        refine mm_Es (fun _ _ => mm_aload_n dX0_addChord_60 rfl rfl) ?_
        refine mm_Es (fun _ _ => mm_getI dX0_addChord_61 fX0_64 sh_135 rfl) ?_
        refine mm_Es (fun _ _ => mm_iconst (x := 1) dX0_addChord_64 (by decide)) ?_
        refine mm_Es (fun _ _ => mm_iadd dX0_addChord_65) ?_
        refine mm_Es (fun _ _ => mm_iload_n dX0_addChord_66 rfl rfl) ?_
        refine mm_Es (fun _ _ => mm_aload_n dX0_addChord_67 rfl rfl) ?_
        refine mm_Es (fun _ _ => mm_getS dX0_addChord_68 fX0_56 sh_135 rfl gr_135_0) ?_
        refine mm_Es (fun _ _ => mm_getI dX0_addChord_71 fX0_99 sh_145 rfl) ?_
        refine mm_Es (fun _ _ => mm_iadd dX0_addChord_74) ?_
        refine mm_Es (fun _ _ => mm_iast (m + 2) dX0_addChord_75 sh_138 (by rw [e1356]; exact nI_1 (m + 1)) (by omega)) ?_
        refine mm_Er (mm_return dX0_addChord_76 rfl) ?_
        refine ⟨rfl, fS.up rfl, ?_, ?_, ?_⟩
        · dsimp only; rw [mm_up_n (by decide)]; exact s1
        · dsimp only; rw [mm_up_s, s2, e145, h3, nI_add]
        · dsimp only; rw [mm_up_n (by decide)]; exact s3
      · exact absurd (by rw [e145, h3]; exact Int32.le_refl _) c_30
    | succ k ih =>
      intro i hi g S
      obtain ⟨fS, s1, s2, s3⟩ := S
      have e145 : g.1 145 = h.1 145 := fS.i rfl
      have e152 : g.1 152 = h.1 152 := fS.i rfl
      have K := ih (i + 1) (by omega) (mm_up g.1 139 (o + i) (h.1 152 i), g.2.1, g.2.2) ⟨fS.up rfl, by dsimp only; rw [mm_up_n (by decide)]; exact s1, by dsimp only; rw [mm_up_n (by decide)]; exact s2, fun j => by
        dsimp only
        rw [mm_up_s]
        unfold upd
        by_cases z : j = o + i
        · have z1 : o ≤ j ∧ j < o + (i + 1) := by omega
          rw [if_pos z, if_pos z1]
          rw [z, Nat.add_sub_cancel_left]
        · rw [if_neg z, s3]
          by_cases z1 : o ≤ j ∧ j < o + i
          · have z2 : o ≤ j ∧ j < o + (i + 1) := by omega
            rw [if_pos z1, if_pos z2]
          · have z2 : ¬ (o ≤ j ∧ j < o + (i + 1)) := by omega
            rw [if_neg z1, if_neg z2]⟩
      refine mm_Es (fun _ _ => mm_iload_n dX0_addChord_22 rfl rfl) ?_
      refine mm_Es (fun _ _ => mm_aload_n dX0_addChord_23 rfl rfl) ?_
      refine mm_Es (fun _ _ => mm_getS dX0_addChord_24 fX0_56 sh_135 rfl gr_135_0) ?_
      refine mm_Es (fun _ _ => mm_getI dX0_addChord_27 fX0_99 sh_145 rfl) ?_
      refine mm_Eb (fun _ _ => mm_icmp_ge 56 dX0_addChord_30 (by decide)) (fun c_30 => ?_) (fun c_30 => ?_)
      · exact absurd (by rw [e145, h3] at c_30; exact c_30) (nI_ge (show i < t by omega) (by omega))
      · refine mm_Es (fun _ _ => mm_aload_n dX0_addChord_33 rfl rfl) ?_
        refine mm_Es (fun _ _ => mm_getS dX0_addChord_34 fX0_25 sh_135 rfl gr_135_8) ?_
        refine mm_Es (fun _ _ => mm_iload_n dX0_addChord_37 rfl rfl) ?_
        refine mm_Es (fun _ _ => mm_iload_n dX0_addChord_38 rfl rfl) ?_
        refine mm_Es (fun _ _ => mm_iadd dX0_addChord_39) ?_
        refine mm_Es (fun _ _ => mm_aload_n dX0_addChord_40 rfl rfl) ?_
        refine mm_Es (fun _ _ => mm_getS dX0_addChord_41 fX0_56 sh_135 rfl gr_135_0) ?_
        refine mm_Es (fun _ _ => mm_getS dX0_addChord_44 fX0_102 sh_145 rfl gr_145_10) ?_
        refine mm_Es (fun _ _ => mm_iload_n dX0_addChord_47 rfl rfl) ?_
        refine mm_Es (fun _ _ => mm_iald (i) dX0_addChord_48 sh_152 rfl (by omega)) ?_
        refine mm_Es (fun _ _ => mm_iast (o + i) dX0_addChord_49 sh_139 (nI_add o i) (by omega)) ?_
        refine mm_Es (fun _ _ => mm_iinc dX0_addChord_50 rfl (nI_inc i) rfl) ?_
        refine mm_Es (fun _ _ => mm_goto 22 dX0_addChord_53 (by decide)) ?_
        exact mm_Ec rfl rfl (by rw [e152]) K
  have K := K22 t 0 (by omega) (mm_up h.1 135 6 (nI (m + 1)), h.2.1, h.2.2) ⟨(frm.refl _ h).up rfl, by dsimp only; rw [mm_up_s], by dsimp only; rw [mm_up_n (by decide)], fun j => by
    dsimp only
    rw [mm_up_n (by decide), if_neg (by omega)]⟩
  have h1' : h.1 135 6 + 1 = nI (m + 1) := by rw [h1]; exact nI_1 m
  refine mm_Es (fun _ _ => mm_aload_n dX0_addChord_0 rfl rfl) ?_
  refine mm_Es (fun _ _ => mm_dup dX0_addChord_1 rfl) ?_
  refine mm_Es (fun _ _ => mm_getI dX0_addChord_2 fX0_64 sh_135 rfl) ?_
  refine mm_Es (fun _ _ => mm_iconst (x := 1) dX0_addChord_5 (by decide)) ?_
  refine mm_Es (fun _ _ => mm_iadd dX0_addChord_6) ?_
  refine mm_Es (fun _ _ => mm_putI dX0_addChord_7 fX0_64 sh_135 rfl rfl rfl) ?_
  refine mm_Es (fun _ _ => mm_cast (g := (mm_up h.1 135 6 (nI (m + 1)), h.2.1, h.2.2)) rfl rfl (by rw [h1'])) ?_
  refine mm_Es (fun _ _ => mm_aload_n dX0_addChord_10 rfl rfl) ?_
  refine mm_Es (fun _ _ => mm_getS dX0_addChord_11 fX0_22 sh_135 rfl gr_135_7) ?_
  refine mm_Es (fun _ _ => mm_aload_n dX0_addChord_14 rfl rfl) ?_
  refine mm_Es (fun _ _ => mm_getI dX0_addChord_15 fX0_64 sh_135 rfl) ?_
  refine mm_Es (fun _ _ => mm_iald (m + 1) dX0_addChord_18 sh_138 (by dsimp only; rw [mm_up_e]) (by omega)) ?_
  refine mm_Es (fun _ _ => mm_istore_n dX0_addChord_19 rfl (by decide) rfl) ?_
  refine mm_Es (fun _ _ => mm_iconst (x := 0) dX0_addChord_20 (by decide)) ?_
  refine mm_Es (fun _ _ => mm_istore_n dX0_addChord_21 rfl (by decide) rfl) ?_
  exact mm_Ec (by dsimp only; rw [mm_up_n (by decide), h2]; rfl) rfl rfl K
theorem offs_c {cw cw' : Nat → List Int32} (n : Nat) (h : ∀ i, i < n → cw i = cw' i) : offs cw n = offs cw' n := sm_c n (fun i hi => by rw [h i hi])
/-- one more chord -/
theorem cinv_ext {n : Nat} {ch : Nat → List Int32} {wt : Nat → Int32} {h g : mm_H} {m : Nat} {W : Nat → Nat} (hn : n ≤ 12) (hI : cinv n ch wt h m W) {a : Nat} (ha : a < 2 ^ n) (hnew : ∀ i, i < m → ¬ ch (W i) = ch a) (hpc : ∀ x, x < 2 ^ n → (ch x).length ≤ pc x)
    (g1 : g.1 135 6 = nI (m + 1)) (g2 : g.1 138 = upd (h.1 138) (m + 2) (nI (offs (fun i => ch (W i)) m + (ch a).length))) (g3 : ∀ j, g.1 139 j = if offs (fun i => ch (W i)) m ≤ j ∧ j < offs (fun i => ch (W i)) m + (ch a).length then (ch a).getD (j - offs (fun i => ch (W i)) m) 0 else h.1 139 j)
    (g4 : g.1 140 = upd (h.1 140) (pl n (ch a)) (nI (m + 1))) (g5 : g.1 141 = upd (h.1 141) (m + 1) (nI (lastP n (fun i => ch (W i)) (pl n (ch a)) m))) (g6 : g.1 136 = h.1 136) (g7 : g.1 137 = h.1 137) : cinv n ch wt g (m + 1) (fun i => if i = m then a else W i) := by
  obtain ⟨c1, c2, c3, c4, c5, c6, c7, c8, c9, c10⟩ := hI
  obtain ⟨W', eW⟩ : ∃ W' : Nat → Nat, W' = fun i => if i = m then a else W i := ⟨_, rfl⟩
  rw [← eW]
  have w1 : W' m = a := by rw [eW]; simp
  have w2 : ∀ i, i < m → W' i = W i := fun i hi => by rw [eW]; simp; intro z; omega
  have d1 : ∀ i, i < m + 1 → W' i < 2 ^ n := fun i hi => by
    by_cases z : i = m
    · rw [z, w1]; exact ha
    · rw [w2 i (by omega)]; exact c1 i (by omega)
  have d2 : ∀ i j, i < m + 1 → j < m + 1 → ch (W' i) = ch (W' j) → i = j := fun i j hi hj e => by
    by_cases zi : i = m
    · by_cases zj : j = m
      · omega
      · rw [zi, w1, w2 j (by omega)] at e; exact absurd e.symm (hnew j (by omega))
    · by_cases zj : j = m
      · rw [zj, w1, w2 i (by omega)] at e; exact absurd e (hnew i (by omega))
      · rw [w2 i (by omega), w2 j (by omega)] at e; exact c2 i j (by omega) (by omega) e
  have d0 : ∀ i j, i < m + 1 → j < m + 1 → W' i = W' j → i = j := fun i j hi hj e => d2 i j hi hj (by rw [e])
  have hp := p2_lt hn
  have dm : m + 1 ≤ 4096 := by
    have := sm_inj (f := fun _ => 1) (2 ^ n) (m + 1) W' d1 d0
    rw [sm_1, sm_1] at this
    omega
  have eo : ∀ i, i ≤ m → offs (fun i => ch (W' i)) i = offs (fun i => ch (W i)) i := fun i hi => offs_c i (fun j hj => by rw [w2 j (by omega)])
  have el : ∀ p i, i ≤ m → lastP n (fun i => ch (W' i)) p i = lastP n (fun i => ch (W i)) p i := fun p i hi => lastP_c i (fun j hj => by rw [w2 j (by omega)])
  have es : offs (fun i => ch (W' i)) (m + 1) = offs (fun i => ch (W i)) m + (ch a).length := by rw [offs_s, eo m (Nat.le_refl _), w1]
  refine ⟨d1, d2, dm, ?_, g1, fun i hi => ?_, fun i hi j hj => ?_, fun x hx => ?_, fun p hp2 => ?_, fun i hi => ?_⟩
  · have h1 := sm_inj (f := fun x => (ch x).length) (2 ^ n) (m + 1) W' d1 d0
    have h2 := sm_le (f := fun x => (ch x).length) (g := pc) (2 ^ n) hpc
    have h3 := sm_mono (f := pc) hp
    rw [sm_pc] at h3
    show sm (fun i => (ch (W' i)).length) (m + 1) ≤ 24576
    omega
  · rw [g2]
    unfold upd
    by_cases z : i = m + 1
    · subst z; rw [if_pos rfl, es]
    · rw [if_neg (by omega), eo i (by omega)]; exact c6 i (by omega)
  · rw [g3]
    by_cases z : i = m
    · subst z
      rw [w1] at hj ⊢
      rw [eo i (Nat.le_refl _), if_pos (by omega), Nat.add_sub_cancel_left]
    · have hi2 : i < m := by omega
      rw [w2 i hi2] at hj ⊢
      rw [eo i (by omega)]
      have o1 := offs_s (fun i => ch (W i)) i
      have o2 := offs_le (cw := fun i => ch (W i)) (show i + 1 ≤ m by omega)
      rw [if_neg (by omega)]
      exact c7 i hi2 j hj
  · rw [g6, g7]
    rcases c8 x hx with q | ⟨i, q1, q2, q3, q4⟩
    · exact Or.inl q
    · exact Or.inr ⟨i, by omega, q2, by rw [w2 i q1]; exact q3, q4⟩
  · rw [g4]
    simp only [lastP, w1, upd, el p m (Nat.le_refl _)]
    by_cases z : p = pl n (ch a)
    · rw [if_pos z, if_pos z.symm]
    · rw [if_neg z, if_neg (fun q => z q.symm)]; exact c9 p hp2
  · rw [g5]
    unfold upd
    by_cases z : i = m
    · subst z; rw [if_pos rfl, w1, el _ i (Nat.le_refl _)]
    · rw [if_neg (by omega), w2 i (by omega), el _ i (by omega)]; exact c10 i (by omega)
def pNum : Nat → Bool := fun c => c == 135 || rg 138 141 c
set_option maxRecDepth 100000 in
set_option maxHeartbeats 4000000 in
theorem mX0_numberOfTones (d : Nat) (h : mm_H) (n : Nat) (ch : Nat → List Int32) (wt : Nat → Int32) (m : Nat) (W : Nat → Nat) (hI : cinv n ch wt h m W) (hn : n ≤ 12) (h65 : h.1 65 0 = nI n) (a : Nat) (ha : a < 2 ^ n) (hpc : ∀ x, x < 2 ^ n → (ch x).length ≤ pc x) (hc : h.1 145 13 = nI (ch a).length) (hr : ∀ j, j < (ch a).length → h.1 152 j = (ch a).getD j 0) : ∃ x g, mm_M (d + 1) YX0_numberOfTones [.ref 135] h (some (.int x)) g ∧ ∃ m2 W2 i, x = nI (i + 1) ∧ i < m2 ∧ ch (W2 i) = ch a ∧ cinv n ch wt g m2 W2 ∧ frm pNum h g ∧ ∀ j, j ≠ 6 → g.1 135 j = h.1 135 j := by
  refine mm_EM.i (mm_EM.of [some (.ref 135), none, none, none, none] rfl rfl (Nat.le_of_ble_eq_true rfl) ?_)
  have hI' := hI
  obtain ⟨c1, c2, c3, c4, c5, c6, c7, c8, c9, c10⟩ := hI'
  have h4k := p2_lt hn
  have hal : (ch a).length ≤ 12 := Nat.le_trans (hpc a ha) (pc_le (by omega))
  obtain ⟨pl1, pl2⟩ := pl_lt hn (ch a)
  have K116 : (∀ i, i < m → ¬ ch (W i) = ch a) → ∀ x1 x3 x4, mm_E (d + 1) YX0_numberOfTones 116 [some (.ref 135), x1, some (.int (nI (pl n (ch a)))), x3, x4] [] h (fun v g => ∃ x, v = some (.int x) ∧ ∃ m2 W2 i, x = nI (i + 1) ∧ i < m2 ∧ ch (W2 i) = ch a ∧ cinv n ch wt g m2 W2 ∧ frm pNum h g ∧ ∀ j, j ≠ 6 → g.1 135 j = h.1 135 j) := by
    intro hnew x1 x3 x4
    have hm : m < 4096 := by
      have := sm_inj (f := fun _ => 1) (2 ^ n) (m + 1) (fun i => if i = m then a else W i) (fun i hi => by
        by_cases z : i = m
        · rw [if_pos z]; exact ha
        · rw [if_neg z]; exact c1 i (by omega)) (fun i j hi hj e => by
        by_cases zi : i = m
        · by_cases zj : j = m
          · omega
          · rw [if_pos zi, if_neg zj] at e; exact absurd (by rw [e]) (hnew j (by omega))
        · by_cases zj : j = m
          · rw [if_neg zi, if_pos zj] at e; exact absurd (by rw [e]) (hnew i (by omega))
          · rw [if_neg zi, if_neg zj] at e; exact c2 i j (by omega) (by omega) (by rw [e]))
      rw [sm_1, sm_1] at this
      omega
    have hof : offs (fun i => ch (W i)) m + (ch a).length ≤ 24576 := by
      have h1 := sm_inj (f := fun x => (ch x).length) (2 ^ n) (m + 1) (fun i => if i = m then a else W i) (fun i hi => by
        by_cases z : i = m
        · rw [if_pos z]; exact ha
        · rw [if_neg z]; exact c1 i (by omega)) (fun i j hi hj e => by
        by_cases zi : i = m
        · by_cases zj : j = m
          · omega
          · rw [if_pos zi, if_neg zj] at e; exact absurd (by rw [e]) (hnew j (by omega))
        · by_cases zj : j = m
          · rw [if_neg zi, if_pos zj] at e; exact absurd (by rw [e]) (hnew i (by omega))
          · rw [if_neg zi, if_neg zj] at e; exact c2 i j (by omega) (by omega) (by rw [e]))
      have h2 := sm_le (f := fun x => (ch x).length) (g := pc) (2 ^ n) hpc
      have h3 := sm_mono (f := pc) h4k
      rw [sm_pc] at h3
      simp only [sm, if_true] at h1
      have h5 : sm (fun i => (ch (if i = m then a else W i)).length) m = offs (fun i => ch (W i)) m := sm_c m (fun i hi => by rw [if_neg (by omega)])
      omega
    obtain ⟨g1, M1, fA, a1, a2, a3⟩ := mX0_addChord d h m (offs (fun i => ch (W i)) m) (ch a).length hm c5 (c6 m (Nat.le_refl _)) hc hal hof
    have b1 : g1.1 135 6 = nI (m + 1) := by rw [a1]; simp [upd]
    have b2 : g1.1 140 = h.1 140 := fA.i rfl
    have b3 : g1.1 141 = h.1 141 := fA.i rfl
    have b4 := c9 _ pl1
    obtain ⟨G, hG⟩ : ∃ G : mm_H, G = (mm_up (mm_up g1.1 141 (m + 1) (nI (lastP n (fun i => ch (W i)) (pl n (ch a)) m))) 140 (pl n (ch a)) (nI (m + 1)), g1.2.1, g1.2.2) := ⟨_, rfl⟩
    have Gn : ∀ c, c ≠ 140 → c ≠ 141 → G.1 c = g1.1 c := by intro c h1 h2; rw [hG]; dsimp only; rw [mm_up_n h1, mm_up_n h2]
    have hcv : cinv n ch wt G (m + 1) (fun i => if i = m then a else W i) := by
      refine cinv_ext hn hI ha hnew hpc ?_ ?_ ?_ ?_ ?_ ?_ ?_
      · rw [Gn 135 (by decide) (by decide)]; exact b1
      · rw [Gn 138 (by decide) (by decide)]; exact a2
      · intro j
        rw [Gn 139 (by decide) (by decide), a3]
        by_cases z : offs (fun i => ch (W i)) m ≤ j ∧ j < offs (fun i => ch (W i)) m + (ch a).length
        · rw [if_pos z, if_pos z]; exact hr _ (by omega)
        · rw [if_neg z, if_neg z]
      · rw [hG]; dsimp only; rw [mm_up_s, mm_up_n (by decide), b2]
      · rw [hG]; dsimp only; rw [mm_up_n (by decide), mm_up_s, b3]
      · rw [Gn 136 (by decide) (by decide)]; exact fA.i rfl
      · rw [Gn 137 (by decide) (by decide)]; exact fA.i rfl
    have hfr : frm pNum h G := by
      rw [hG]
      have f1 : frm pNum h g1 := fA.mono (fun c hc => by
        simp only [pNum, Bool.or_eq_false_iff, rg, decide_eq_false_iff_not, beq_eq_false_iff_ne] at hc
        simp only [pAdd, Bool.or_eq_false_iff, beq_eq_false_iff_ne]
        omega)
      exact (f1.up (c := 141) rfl).up (c := 140) rfl
    refine mm_Es (fun _ _ => mm_aload_n dX0_numberOfTones_116 rfl rfl) ?_
    refine mm_Es (fun _ _ => mm_cV (Y1 := YX0_addChord) dX0_numberOfTones_117 lX0_109 vX0_addChord (M1) sh_135 rfl rfl (by simp [Value.category])) ?_
    refine mm_Es (fun _ _ => mm_aload_n dX0_numberOfTones_120 rfl rfl) ?_
    refine mm_Es (fun _ _ => mm_getS dX0_numberOfTones_121 fX0_31 sh_135 rfl gr_135_10) ?_
    refine mm_Es (fun _ _ => mm_aload_n dX0_numberOfTones_124 rfl rfl) ?_
    refine mm_Es (fun _ _ => mm_getI dX0_numberOfTones_125 fX0_64 sh_135 rfl) ?_
    refine mm_Es (fun _ _ => mm_aload_n dX0_numberOfTones_128 rfl rfl) ?_
    refine mm_Es (fun _ _ => mm_getS dX0_numberOfTones_129 fX0_28 sh_135 rfl gr_135_9) ?_
    refine mm_Es (fun _ _ => mm_iload_n dX0_numberOfTones_132 rfl rfl) ?_
    refine mm_Es (fun _ _ => mm_iald (pl n (ch a)) dX0_numberOfTones_133 sh_140 rfl (by omega)) ?_
    refine mm_Es (fun _ _ => mm_iast (m + 1) dX0_numberOfTones_134 sh_141 b1 (by omega)) ?_
    refine mm_Es (fun _ _ => mm_cast (g := (mm_up g1.1 141 (m + 1) (nI (lastP n (fun i => ch (W i)) (pl n (ch a)) m)), g1.2.1, g1.2.2)) rfl rfl (by rw [b2, b4])) ?_
    refine mm_Es (fun _ _ => mm_aload_n dX0_numberOfTones_135 rfl rfl) ?_
    refine mm_Es (fun _ _ => mm_getS dX0_numberOfTones_136 fX0_28 sh_135 rfl gr_135_9) ?_
    refine mm_Es (fun _ _ => mm_iload_n dX0_numberOfTones_139 rfl rfl) ?_
    refine mm_Es (fun _ _ => mm_aload_n dX0_numberOfTones_140 rfl rfl) ?_
    refine mm_Es (fun _ _ => mm_getI dX0_numberOfTones_141 fX0_64 sh_135 rfl) ?_
    refine mm_Es (fun _ _ => mm_iast (pl n (ch a)) dX0_numberOfTones_144 sh_140 rfl (by omega)) ?_
    refine mm_Es (fun _ _ => mm_cast (g := G) rfl rfl (by rw [hG]; dsimp only; rw [mm_up_n (show 135 ≠ 141 by decide), b1])) ?_
    refine mm_Es (fun _ _ => mm_aload_n dX0_numberOfTones_145 rfl rfl) ?_
    refine mm_Es (fun _ _ => mm_getI dX0_numberOfTones_146 fX0_64 sh_135 rfl) ?_
    refine mm_Er (mm_ireturn dX0_numberOfTones_149 rfl) ?_
    refine ⟨_, rfl, m + 1, _, m, ?_, by omega, by simp, hcv, hfr, fun j hj => ?_⟩
    · rw [Gn 135 (by decide) (by decide), b1]
    · rw [Gn 135 (by decide) (by decide), a1]; simp [upd, hj]
  have K67 : ∀ k c, c ≤ k → ∀ i, c + i ≤ m → (∀ j, c ≤ j → j < m → pl n (ch (W j)) = pl n (ch a) → ¬ ch (W j) = ch a) → (∀ q, c = q + 1 → pl n (ch (W q)) = pl n (ch a)) → ∀ x1, mm_E (d + 1) YX0_numberOfTones 67 [some (.ref 135), x1, some (.int (nI (pl n (ch a)))), some (.int (nI c)), some (.int (nI i))] [] h (fun v g => ∃ x, v = some (.int x) ∧ ∃ m2 W2 i, x = nI (i + 1) ∧ i < m2 ∧ ch (W2 i) = ch a ∧ cinv n ch wt g m2 W2 ∧ frm pNum h g ∧ ∀ j, j ≠ 6 → g.1 135 j = h.1 135 j) := by
    intro k
    induction k with
    | zero =>
      intro c hck i hci hno hat x1
      have hc0 : c = 0 := by omega
      subst hc0
      have K := K116 (fun j hj e => hno j (Nat.zero_le _) hj (by rw [e]) e) x1
      refine mm_Es (fun _ _ => mm_iload dX0_numberOfTones_67 rfl) ?_
      refine mm_Es (fun _ _ => mm_sipush (x := 4096) dX0_numberOfTones_69 (by decide)) ?_
      refine mm_Eb (fun _ _ => mm_icmp_ge 116 dX0_numberOfTones_72 (by decide)) (fun c_72 => ?_) (fun c_72 => ?_)
      · exact K _ _
      · refine mm_Es (fun _ _ => mm_iload_n dX0_numberOfTones_75 rfl rfl) ?_
        refine mm_Eb (fun _ _ => mm_if_eq 116 dX0_numberOfTones_76 (by decide)) (fun c_76 => ?_) (fun c_76 => ?_)
        · exact K _ _
        · exact absurd rfl c_76
    | succ k ih =>
      intro c hck i hci hno hat x1
      rcases Nat.eq_zero_or_pos c with z | z
      · subst z
        exact ih 0 (Nat.zero_le _) i hci hno hat x1
      · obtain ⟨q, rfl⟩ : ∃ q, c = q + 1 := ⟨c - 1, by omega⟩
        have hq : q < m := by omega
        have hpq := hat q rfl
        have M1 := mX0_isSame d h n ch wt m W hI q hq 152 sh_152 (ch a) hal hr
        have hnx := c10 q hq
        rw [hpq] at hnx
        have hl := lastP_le (n := n) (cw := (fun i => ch (W i))) (p := pl n (ch a)) q
        have K : ¬ ch (W q) = ch a → mm_E (d + 1) YX0_numberOfTones 67 [some (.ref 135), x1, some (.int (nI (pl n (ch a)))), some (.int (nI (lastP n (fun i => ch (W i)) (pl n (ch a)) q))), some (.int (nI (i + 1)))] [] h (fun v g => ∃ x, v = some (.int x) ∧ ∃ m2 W2 i, x = nI (i + 1) ∧ i < m2 ∧ ch (W2 i) = ch a ∧ cinv n ch wt g m2 W2 ∧ frm pNum h g ∧ ∀ j, j ≠ 6 → g.1 135 j = h.1 135 j) := fun hne => by
          refine ih _ (by omega) (i + 1) (by omega) (fun j h1 h2 h3 => ?_) (fun q2 hq2 => lastP_at (n := n) (cw := (fun i => ch (W i))) (p := pl n (ch a)) (c := q2) _ hq2) x1
          by_cases e1 : j < q
          · exact absurd h3 (lastP_gap (n := n) (cw := (fun i => ch (W i))) (p := pl n (ch a)) q j h1 e1)
          · by_cases e2 : j = q
            · subst e2; exact hne
            · exact hno j (by omega) h2 h3
        refine mm_Es (fun _ _ => mm_iload dX0_numberOfTones_67 rfl) ?_
        refine mm_Es (fun _ _ => mm_sipush (x := 4096) dX0_numberOfTones_69 (by decide)) ?_
        refine mm_Eb (fun _ _ => mm_icmp_ge 116 dX0_numberOfTones_72 (by decide)) (fun c_72 => ?_) (fun c_72 => ?_)
        · exact absurd c_72 (nI_ge (b := 4096) (show i < 4096 by omega) (by decide))
        · refine mm_Es (fun _ _ => mm_iload_n dX0_numberOfTones_75 rfl rfl) ?_
          refine mm_Eb (fun _ _ => mm_if_eq 116 dX0_numberOfTones_76 (by decide)) (fun c_76 => ?_) (fun c_76 => ?_)
          · exact absurd c_76 (nI_ne0 (by omega) (by omega))
          · refine mm_Es (fun _ _ => mm_aload_n dX0_numberOfTones_79 rfl rfl) ?_
            refine mm_Es (fun _ _ => mm_iload_n dX0_numberOfTones_80 rfl rfl) ?_
            refine mm_Es (fun _ _ => mm_aload_n dX0_numberOfTones_81 rfl rfl) ?_
            refine mm_Es (fun _ _ => mm_getS dX0_numberOfTones_82 fX0_56 sh_135 rfl gr_135_0) ?_
            refine mm_Es (fun _ _ => mm_getS dX0_numberOfTones_85 fX0_102 sh_145 rfl gr_145_10) ?_
            refine mm_Es (fun _ _ => mm_aload_n dX0_numberOfTones_88 rfl rfl) ?_
            refine mm_Es (fun _ _ => mm_getS dX0_numberOfTones_89 fX0_56 sh_135 rfl gr_135_0) ?_
            refine mm_Es (fun _ _ => mm_getI dX0_numberOfTones_92 fX0_99 sh_145 rfl) ?_
            refine mm_Es (fun _ _ => mm_cast (st' := [.int (nI (ch a).length), .ref 152, .int (nI (q + 1)), .ref 135]) rfl (by rw [hc]) rfl) ?_
            refine mm_Es (fun _ _ => mm_cV (Y1 := YX0_isSame) dX0_numberOfTones_95 lX0_105 vX0_isSame (M1) sh_135 rfl rfl (by simp [Value.category])) ?_
            refine mm_Eb (fun _ _ => mm_if_eq 103 dX0_numberOfTones_98 (by decide)) (fun c_98 => ?_) (fun c_98 => ?_)
            · have K := K (bI_e0.mp c_98)
              refine mm_Es (fun _ _ => mm_aload_n dX0_numberOfTones_103 rfl rfl) ?_
              refine mm_Es (fun _ _ => mm_getS dX0_numberOfTones_104 fX0_31 sh_135 rfl gr_135_10) ?_
              refine mm_Es (fun _ _ => mm_iload_n dX0_numberOfTones_107 rfl rfl) ?_
              refine mm_Es (fun _ _ => mm_iald (q + 1) dX0_numberOfTones_108 sh_141 rfl (by omega)) ?_
              refine mm_Es (fun _ _ => mm_istore_n dX0_numberOfTones_109 rfl (by decide) rfl) ?_
              refine mm_Es (fun _ _ => mm_iinc dX0_numberOfTones_110 rfl (nI_inc i) rfl) ?_
              refine mm_Es (fun _ _ => mm_goto 67 dX0_numberOfTones_113 (by decide)) ?_
              exact mm_Ec (by rw [hnx]; rfl) rfl rfl K
            · have hy := bI_n0.mp c_98
              refine mm_Es (fun _ _ => mm_iload_n dX0_numberOfTones_101 rfl rfl) ?_
              refine mm_Er (mm_ireturn dX0_numberOfTones_102 rfl) ?_
              exact ⟨_, rfl, m, W, q, rfl, hq, hy, hI, frm.refl _ _, fun j hj => rfl⟩
  have K38 : ∀ x2 , mm_E (d + 1) YX0_numberOfTones 38 [some (.ref 135), some (.int (hsh (ch a))), x2, none, none] [] h (fun v g => ∃ x, v = some (.int x) ∧ ∃ m2 W2 i, x = nI (i + 1) ∧ i < m2 ∧ ch (W2 i) = ch a ∧ cinv n ch wt g m2 W2 ∧ frm pNum h g ∧ ∀ j, j ≠ 6 → g.1 135 j = h.1 135 j) := by
    intro x2
    have hll := lastP_le (n := n) (cw := (fun i => ch (W i))) (p := pl n (ch a)) m
    have K := K67 m (lastP n (fun i => ch (W i)) (pl n (ch a)) m) hll 0 (by omega) (fun j h1 h2 h3 => absurd h3 (lastP_gap (n := n) (cw := (fun i => ch (W i))) (p := pl n (ch a)) m j h1 h2)) (fun q hq => lastP_at (n := n) (cw := (fun i => ch (W i))) (p := pl n (ch a)) (c := q) m hq) (some (.int (hsh (ch a))))
    refine mm_Es (fun _ _ => mm_iload_n dX0_numberOfTones_38 rfl rfl) ?_
    refine mm_Es (fun _ _ => mm_iload_n dX0_numberOfTones_39 rfl rfl) ?_
    refine mm_Es (fun _ _ => mm_bipush (x := 12) dX0_numberOfTones_40 (by decide)) ?_
    refine mm_Es (fun _ _ => mm_iushr dX0_numberOfTones_42 rfl) ?_
    refine mm_Es (fun _ _ => mm_ixor dX0_numberOfTones_43) ?_
    refine mm_Es (fun _ _ => mm_iconst (x := 1) dX0_numberOfTones_44 (by decide)) ?_
    refine mm_Es (fun _ _ => mm_aload_n dX0_numberOfTones_45 rfl rfl) ?_
    refine mm_Es (fun _ _ => mm_getS dX0_numberOfTones_46 fX0_43 sh_135 rfl gr_135_1) ?_
    refine mm_Es (fun _ _ => mm_getI dX0_numberOfTones_49 fX0_67 sh_65 rfl) ?_
    refine mm_Es (fun _ _ => mm_ishl dX0_numberOfTones_52) ?_
    refine mm_Es (fun _ _ => mm_iconst (x := 1) dX0_numberOfTones_53 (by decide)) ?_
    refine mm_Es (fun _ _ => mm_isub dX0_numberOfTones_54) ?_
    refine mm_Es (fun _ _ => mm_iand dX0_numberOfTones_55) ?_
    refine mm_Es (fun _ _ => mm_cast (st' := [.int (nI (pl n (ch a)))]) rfl (by rw [h65, sh1 hn, ← pl2]; rfl) rfl) ?_
    refine mm_Es (fun _ _ => mm_istore_n dX0_numberOfTones_56 rfl (by decide) rfl) ?_
    refine mm_Es (fun _ _ => mm_aload_n dX0_numberOfTones_57 rfl rfl) ?_
    refine mm_Es (fun _ _ => mm_getS dX0_numberOfTones_58 fX0_28 sh_135 rfl gr_135_9) ?_
    refine mm_Es (fun _ _ => mm_iload_n dX0_numberOfTones_61 rfl rfl) ?_
    refine mm_Es (fun _ _ => mm_iald (pl n (ch a)) dX0_numberOfTones_62 sh_140 rfl (by omega)) ?_
    refine mm_Es (fun _ _ => mm_istore_n dX0_numberOfTones_63 rfl (by decide) rfl) ?_
    refine mm_Es (fun _ _ => mm_iconst (x := 0) dX0_numberOfTones_64 (by decide)) ?_
    refine mm_Es (fun _ _ => mm_istore dX0_numberOfTones_65 (by decide) rfl) ?_
    exact mm_Ec (by rw [c9 _ pl1]; rfl) rfl rfl K
  have K4 : ∀ k i, i + k = (ch a).length → mm_E (d + 1) YX0_numberOfTones 4 [some (.ref 135), some (.int (hsh ((ch a).take i))), some (.int (nI i)), none, none] [] h (fun v g => ∃ x, v = some (.int x) ∧ ∃ m2 W2 i, x = nI (i + 1) ∧ i < m2 ∧ ch (W2 i) = ch a ∧ cinv n ch wt g m2 W2 ∧ frm pNum h g ∧ ∀ j, j ≠ 6 → g.1 135 j = h.1 135 j) := by
    intro k
    induction k with
    | zero =>
      intro i hi
      have hi : i = (ch a).length := by omega
      subst hi
      rw [List.take_length]
      refine mm_Es (fun _ _ => mm_iload_n dX0_numberOfTones_4 rfl rfl) ?_
      refine mm_Es (fun _ _ => mm_aload_n dX0_numberOfTones_5 rfl rfl) ?_
      refine mm_Es (fun _ _ => mm_getS dX0_numberOfTones_6 fX0_56 sh_135 rfl gr_135_0) ?_
      refine mm_Es (fun _ _ => mm_getI dX0_numberOfTones_9 fX0_99 sh_145 rfl) ?_
      refine mm_Eb (fun _ _ => mm_icmp_ge 38 dX0_numberOfTones_12 (by decide)) (fun c_12 => ?_) (fun c_12 => ?_)
      · exact K38 _
      · exact absurd (by rw [hc]; exact Int32.le_refl _) c_12
    | succ k ih =>
      intro i hi
      have hin : i < (ch a).length := by omega
      have K := ih (i + 1) (by omega)
      have e : hsh ((ch a).take (i + 1)) = hsh ((ch a).take i) * 31 + (ch a).getD i 0 + 1 := by
        unfold hsh
        rw [take_sI hin, List.foldl_append]
        rfl
      rw [e] at K
      refine mm_Es (fun _ _ => mm_iload_n dX0_numberOfTones_4 rfl rfl) ?_
      refine mm_Es (fun _ _ => mm_aload_n dX0_numberOfTones_5 rfl rfl) ?_
      refine mm_Es (fun _ _ => mm_getS dX0_numberOfTones_6 fX0_56 sh_135 rfl gr_135_0) ?_
      refine mm_Es (fun _ _ => mm_getI dX0_numberOfTones_9 fX0_99 sh_145 rfl) ?_
      refine mm_Eb (fun _ _ => mm_icmp_ge 38 dX0_numberOfTones_12 (by decide)) (fun c_12 => ?_) (fun c_12 => ?_)
      · exact absurd (by rw [hc] at c_12; exact c_12) (nI_ge hin (by omega))
      · refine mm_Es (fun _ _ => mm_iload_n dX0_numberOfTones_15 rfl rfl) ?_
        refine mm_Es (fun _ _ => mm_bipush (x := 31) dX0_numberOfTones_16 (by decide)) ?_
        refine mm_Es (fun _ _ => mm_imul dX0_numberOfTones_18) ?_
        refine mm_Es (fun _ _ => mm_aload_n dX0_numberOfTones_19 rfl rfl) ?_
        refine mm_Es (fun _ _ => mm_getS dX0_numberOfTones_20 fX0_56 sh_135 rfl gr_135_0) ?_
        refine mm_Es (fun _ _ => mm_getS dX0_numberOfTones_23 fX0_102 sh_145 rfl gr_145_10) ?_
        refine mm_Es (fun _ _ => mm_iload_n dX0_numberOfTones_26 rfl rfl) ?_
        refine mm_Es (fun _ _ => mm_iald (i) dX0_numberOfTones_27 sh_152 rfl (by omega)) ?_
        refine mm_Es (fun _ _ => mm_iadd dX0_numberOfTones_28) ?_
        refine mm_Es (fun _ _ => mm_iconst (x := 1) dX0_numberOfTones_29 (by decide)) ?_
        refine mm_Es (fun _ _ => mm_iadd dX0_numberOfTones_30) ?_
        refine mm_Es (fun _ _ => mm_istore_n dX0_numberOfTones_31 rfl (by decide) rfl) ?_
        refine mm_Es (fun _ _ => mm_iinc dX0_numberOfTones_32 rfl (nI_inc i) rfl) ?_
        refine mm_Es (fun _ _ => mm_goto 4 dX0_numberOfTones_35 (by decide)) ?_
        exact mm_Ec (by rw [hr i hin]; rfl) rfl rfl K
  refine mm_Es (fun _ _ => mm_iconst (x := 0) dX0_numberOfTones_0 (by decide)) ?_
  refine mm_Es (fun _ _ => mm_istore_n dX0_numberOfTones_1 rfl (by decide) rfl) ?_
  refine mm_Es (fun _ _ => mm_iconst (x := 0) dX0_numberOfTones_2 (by decide)) ?_
  refine mm_Es (fun _ _ => mm_istore_n dX0_numberOfTones_3 rfl (by decide) rfl) ?_
  exact K4 (ch a).length 0 (by omega)
