/-! pay, done: of both. -/
theorem pyF_inv {wt : Nat → Int32} {price : Int32} {La Lb : List Nat} : (pyF wt price La Lb) = py0 ∨ ∃ a b, a ∈ La ∧ b ∈ Lb ∧ pyF wt price La Lb = (pc a + pc b, a, b) := by
  have inner : ∀ (L : List Nat) (a : Nat) (s : PY), L.foldl (pyS wt price a) s = s ∨ ∃ b, b ∈ L ∧ L.foldl (pyS wt price a) s = (pc a + pc b, a, b) := by
    intro L a
    induction L with
    | nil => intro s; exact Or.inl rfl
    | cons b L ih =>
      intro s
      simp only [List.foldl_cons]
      rcases ih (pyS wt price a s b) with q | ⟨b2, q1, q2⟩
      · rw [q]
        unfold pyS
        split
        · exact Or.inr ⟨b, List.mem_cons_self, rfl⟩
        · exact Or.inl rfl
      · exact Or.inr ⟨b2, List.mem_cons_of_mem _ q1, q2⟩
  have outer : ∀ (L : List Nat) (s : PY), L.foldl (fun s a => Lb.foldl (pyS wt price a) s) s = s ∨ ∃ a b, a ∈ L ∧ b ∈ Lb ∧ L.foldl (fun s a => Lb.foldl (pyS wt price a) s) s = (pc a + pc b, a, b) := by
    intro L
    induction L with
    | nil => intro s; exact Or.inl rfl
    | cons a L ih =>
      intro s
      simp only [List.foldl_cons]
      rcases ih (Lb.foldl (pyS wt price a) s) with q | ⟨a2, b2, q1, q2, q3⟩
      · rw [q]
        rcases inner Lb a s with y | ⟨b, y1, y2⟩
        · exact Or.inl y
        · exact Or.inr ⟨a, b, List.mem_cons_self, y1, y2⟩
      · exact Or.inr ⟨a2, b2, List.mem_cons_of_mem _ q1, q2, q3⟩
  exact outer La py0
def pyA (s : PY) (w : Int32) : Int32 := if s.1 = 13 then -2 else if w = 0 then nI s.1 else if w = 1 then nI s.2.1 else nI s.2.2
/-- the best payment for a price -/
noncomputable def pyB (A : MD) (Q : LD) (k : Nat) (one other price : Int32) : PY := pyF (wtA A) price (safL (chd A Q k) (wtA A) (hN (mr A 4) one (mn A))) (safL (chd A Q k) (wtA A) (hN (mr A 4) other (mn A)))
theorem pyB_inv {A : MD} (hA : mdOK A) {Q : LD} {k : Nat} {one other price : Int32} (hne : ¬ one = other) : (pyB A Q k one other price).1 ≤ 13 ∧ (¬ (pyB A Q k one other price).1 = 13 → (pyB A Q k one other price).1 = pc (pyB A Q k one other price).2.1 + pc (pyB A Q k one other price).2.2 ∧ (pyB A Q k one other price).2.1 < 2 ^ mn A ∧ (pyB A Q k one other price).2.2 < 2 ^ mn A ∧ (pyB A Q k one other price).2.1 &&& (pyB A Q k one other price).2.2 = 0) := by
  have hp := p2_lt hA.1
  have ho := hN_lt (mr A 4) one (mn A)
  have ht := hN_lt (mr A 4) other (mn A)
  rcases pyF_inv (wt := wtA A) (price := price) (La := safL (chd A Q k) (wtA A) (hN (mr A 4) one (mn A))) (Lb := safL (chd A Q k) (wtA A) (hN (mr A 4) other (mn A))) with q | ⟨a, b, q1, q2, q3⟩
  · have e : pyB A Q k one other price = py0 := q
    rw [e]
    exact ⟨Nat.le_refl _, fun z => absurd rfl z⟩
  · have e : pyB A Q k one other price = (pc a + pc b, a, b) := q3
    rw [e]
    have s1 := ((safL_mem (by omega)).2 a q1).1
    have s2 := ((safL_mem (by omega)).2 b q2).1
    have l1 := sub_le s1
    have l2 := sub_le s2
    have := held_pc hne (by omega) (by omega) s1 s2
    exact ⟨by dsimp only; omega, fun _ => ⟨rfl, by dsimp only; omega, by dsimp only; omega, held_disj hne s1 s2⟩⟩
abbrev dealP (A : MD) (nl : Nat) (r c a b : Int32) : Prop := (0 ≤ r.toInt ∧ r.toInt < nl) ∧ (0 ≤ c.toInt ∧ c.toInt < mk A) ∧ (0 ≤ a.toInt ∧ a.toInt < 6) ∧ (0 ≤ b.toInt ∧ b.toInt < 6) ∧ ¬ a = b
abbrev dealN (a b : Int32) : Prop := (0 ≤ a.toInt ∧ a.toInt < 6) ∧ (0 ≤ b.toInt ∧ b.toInt < 6) ∧ ¬ a = b
set_option maxRecDepth 100000 in
set_option maxHeartbeats 4000000 in
theorem mX10_pay_n (d : Nat) (h : mm_H) (A : MD) (LQ : Nat → LD) (nl G : Nat) (S : stC A LQ nl h G) (r k a b p w : Int32) (hb : ¬ (dealP A nl r k a b ∧ (0 ≤ p.toInt ∧ p.toInt ≤ 9999) ∧ (0 ≤ w.toInt ∧ w.toInt ≤ 2))) : mm_M (d + 2) YX10_pay [.ref 0, .int r, .int k, .int a, .int b, .int p, .int w] h (some (.int (-1))) h := by
  refine mm_M.of [some (.ref 0), some (.int r), some (.int k), some (.int a), some (.int b), some (.int p), some (.int w)] rfl rfl (Nat.le_of_ble_eq_true rfl) ?_
  refine mm_aload_n dX10_pay_0 rfl rfl ?_
  refine mm_iload_n dX10_pay_1 rfl rfl ?_
  refine mm_iload_n dX10_pay_2 rfl rfl ?_
  refine mm_iload dX10_pay_3 rfl ?_
  refine mm_cV (Y1 := YX10_canDeal) dX10_pay_5 lX10_237 vX10_canDeal (mX10_canDeal d h nl S.2.2.1 S.2.2.2.1 r a b) sh_0 rfl rfl (by simp [Value.category]) ?_
  refine mm_if_eq 27 dX10_pay_8 (by decide) (fun c_8 => ?_) (fun c_8 => ?_)
  · refine mm_iconst (x := (-1)) dX10_pay_27 (by decide) ?_
    exact mm_iretE dX10_pay_28 rfl rfl rfl
  · refine mm_aload_n dX10_pay_11 rfl rfl ?_
    refine mm_iload_n dX10_pay_12 rfl rfl ?_
    refine mm_cV (Y1 := YX10_isCounter) dX10_pay_13 lX10_153 vX10_isCounter (mX10_isCounter (d + 1) h (mk A) S.2.1.2.1 S.1.2.1 k) sh_0 rfl rfl (by simp [Value.category]) ?_
    refine mm_if_eq 27 dX10_pay_16 (by decide) (fun c_16 => ?_) (fun c_16 => ?_)
    · refine mm_iconst (x := (-1)) dX10_pay_27 (by decide) ?_
      exact mm_iretE dX10_pay_28 rfl rfl rfl
    · refine mm_iload dX10_pay_19 rfl ?_
      refine mm_cS (Y1 := YX10_isPrice) dX10_pay_21 lX10_240 sX10_isPrice (mX10_isPrice (d + 1) h p) rfl rfl (by simp [Value.category]) ?_
      refine mm_if_ne 29 dX10_pay_24 (by decide) (fun c_24 => ?_) (fun c_24 => ?_)
      · refine mm_iload dX10_pay_29 rfl ?_
        refine mm_if_lt 40 dX10_pay_31 (by decide) (fun c_31 => ?_) (fun c_31 => ?_)
        · refine mm_iconst (x := (-1)) dX10_pay_40 (by decide) ?_
          exact mm_iretE dX10_pay_41 rfl rfl rfl
        · refine mm_iload dX10_pay_34 rfl ?_
          refine mm_iconst (x := 2) dX10_pay_36 (by decide) ?_
          refine mm_icmp_le 42 dX10_pay_37 (by decide) (fun c_37 => ?_) (fun c_37 => ?_)
          · exact absurd (by have q := bI_n0.mp c_8; exact ⟨⟨q.1, bI_n0.mp c_16, q.2⟩, bI_n0.mp c_24, by rw [Int32.lt_iff_toInt_lt, ti_0] at c_31; omega, by rw [Int32.le_iff_toInt_le, ti_2] at c_37; exact c_37⟩) hb
          · refine mm_iconst (x := (-1)) dX10_pay_40 (by decide) ?_
            exact mm_iretE dX10_pay_41 rfl rfl rfl
      · refine mm_iconst (x := (-1)) dX10_pay_27 (by decide) ?_
        exact mm_iretE dX10_pay_28 rfl rfl rfl
set_option maxRecDepth 100000 in
set_option maxHeartbeats 4000000 in
theorem mX10_pay_y (d : Nat) (h : mm_H) (A : MD) (LQ : Nat → LD) (nl G : Nat) (S : stC A LQ nl h G) (hGb : G + 2 < 2 ^ 31) (r k : Nat) (hr : r < nl) (hk : k < mk A) (one other price w : Int32) (hd : dealN one other) (hpr : 0 ≤ price.toInt ∧ price.toInt ≤ 9999) (hw : 0 ≤ w.toInt ∧ w.toInt ≤ 2) : ∃ g, mm_M (d + 7) YX10_pay [.ref 0, .int (nI r), .int (nI k), .int one, .int other, .int price, .int w] h (some (.int (pyA (pyB A (LQ r) k one other price) w))) g ∧ cfr h g ∧ stC A LQ nl g (G + 2) := by
  have S0 := S
  obtain ⟨g1, M1, a1, a2, a3⟩ := aimC (d + 5) h A LQ nl G S r k hr hk
  have N1 := mX10_canDeal (d + 5) h nl S.2.2.1 S.2.2.2.1 (nI r) one other
  have N2 := mX10_isCounter (d + 6) h (mk A) S.2.1.2.1 S.1.2.1 (nI k)
  obtain ⟨hA, hV, h6, hn6, hL, -, hcG⟩ := S
  have h12 := hA.1
  have h4 := hA.2.1
  have hp := p2_lt h12
  obtain ⟨g2, M2, b1, b2, b3, b4⟩ := mX9_findPayment d g1 A hA (LQ r) r (by omega) (hL r hr).1 k hk a1.1 G a2 hGb one other price hd.2.2
  obtain ⟨s, es⟩ : ∃ s, s = pyB A (LQ r) k one other price := ⟨_, rfl⟩
  have eF : pyF (wtA A) price (safL (chd A (LQ r) k) (wtA A) (hN (mr A 4) one (mn A))) (safL (chd A (LQ r) k) (wtA A) (hN (mr A 4) other (mn A))) = s := es.symm
  rw [eF] at M2 b4
  obtain ⟨i1, i2⟩ := pyB_inv (Q := LQ r) (k := k) (price := price) hA hd.2.2
  rw [← es] at i1 i2 ⊢
  refine ⟨g2, ?_, a3.trans b3.cfr, S0.next (a3.trans b3.cfr) hr hk (b3.at a1 b1) b2⟩
  refine mm_M.of [some (.ref 0), some (.int (nI r)), some (.int (nI k)), some (.int one), some (.int other), some (.int price), some (.int w)] rfl rfl (Nat.le_of_ble_eq_true rfl) ?_
  have B31 : ¬ w < 0 := by rw [Int32.lt_iff_toInt_lt, ti_0]; omega
  have B37 : w ≤ 2 := by rw [Int32.le_iff_toInt_le, ti_2]; omega
  by_cases hf : s.1 = 13
  · have e2 : pyA s w = -2 := by unfold pyA; rw [if_pos hf]
    rw [e2]
    refine mm_aload_n dX10_pay_0 rfl rfl ?_
    refine mm_iload_n dX10_pay_1 rfl rfl ?_
    refine mm_iload_n dX10_pay_2 rfl rfl ?_
    refine mm_iload dX10_pay_3 rfl ?_
    refine mm_cV (Y1 := YX10_canDeal) dX10_pay_5 lX10_237 vX10_canDeal (N1) sh_0 rfl rfl (by simp [Value.category]) ?_
    refine mm_if_eq 27 dX10_pay_8 (by decide) (fun c_8 => ?_) (fun c_8 => ?_)
    · exact absurd (by exact ⟨⟨by rw [nI_toInt (by omega)]; omega, by rw [nI_toInt (by omega)]; omega⟩, hd⟩) (bI_e0.mp c_8)
    · refine mm_aload_n dX10_pay_11 rfl rfl ?_
      refine mm_iload_n dX10_pay_12 rfl rfl ?_
      refine mm_cV (Y1 := YX10_isCounter) dX10_pay_13 lX10_153 vX10_isCounter (N2) sh_0 rfl rfl (by simp [Value.category]) ?_
      refine mm_if_eq 27 dX10_pay_16 (by decide) (fun c_16 => ?_) (fun c_16 => ?_)
      · exact absurd ⟨by rw [nI_toInt (by omega)]; omega, by rw [nI_toInt (by omega)]; omega⟩ (bI_e0.mp c_16)
      · refine mm_iload dX10_pay_19 rfl ?_
        refine mm_cS (Y1 := YX10_isPrice) dX10_pay_21 lX10_240 sX10_isPrice (mX10_isPrice (d + 6) h price) rfl rfl (by simp [Value.category]) ?_
        refine mm_if_ne 29 dX10_pay_24 (by decide) (fun c_24 => ?_) (fun c_24 => ?_)
        · refine mm_iload dX10_pay_29 rfl ?_
          refine mm_if_lt 40 dX10_pay_31 (by decide) (fun c_31 => ?_) (fun c_31 => ?_)
          · exact absurd c_31 B31
          · refine mm_iload dX10_pay_34 rfl ?_
            refine mm_iconst (x := 2) dX10_pay_36 (by decide) ?_
            refine mm_icmp_le 42 dX10_pay_37 (by decide) (fun c_37 => ?_) (fun c_37 => ?_)
            · refine mm_aload_n dX10_pay_42 rfl rfl ?_
              refine mm_getS dX10_pay_43 fX10_69 sh_0 rfl gr_0_10 ?_
              refine mm_aload_n dX10_pay_46 rfl rfl ?_
              refine mm_getS dX10_pay_47 fX10_38 sh_0 rfl gr_0_5 ?_
              refine mm_iload_n dX10_pay_50 rfl rfl ?_
              refine mm_aald (r) dX10_pay_51 (Or.inl rfl) sh_2 rfl (by omega) (gr_2 (by omega)) ?_
              refine mm_iload_n dX10_pay_52 rfl rfl ?_
              refine mm_cV (Y1 := YX0_aim) dX10_pay_53 lX10_183 vX0_aim (M1) sh_135 rfl rfl (by simp [Value.category]) ?_
              refine mm_aload_n dX10_pay_56 rfl rfl ?_
              refine mm_getS dX10_pay_57 fX10_78 sh_0 rfl gr_0_11 ?_
              refine mm_iload_n dX10_pay_60 rfl rfl ?_
              refine mm_iload dX10_pay_61 rfl ?_
              refine mm_iload dX10_pay_63 rfl ?_
              refine mm_cV (Y1 := YX9_findPayment) dX10_pay_65 lX10_243 vX9_findPayment (M2) sh_155 rfl rfl (by simp [Value.category]) ?_
              refine mm_if_ne 74 dX10_pay_68 (by decide) (fun c_68 => ?_) (fun c_68 => ?_)
              · exfalso; have := bI_n0.mp c_68; omega
              · refine mm_bipush (x := (-2)) dX10_pay_71 (by decide) ?_
                exact mm_iretE dX10_pay_73 rfl rfl rfl
            · exact absurd B37 c_37
        · exact absurd hpr (bI_e0.mp c_24)
  · obtain ⟨j1, j2, j3, -⟩ := i2 hf
    have hle : s.1 ≤ 12 := by omega
    obtain ⟨e5, e6⟩ := b4 hle
    have MT : mm_M (d + 6) YX9_coinsTogether [.ref 155] g2 (some (.int (nI s.1))) g2 := by
      refine mm_M.of [some (.ref 155)] rfl rfl (Nat.le_of_ble_eq_true rfl) ?_
      refine mm_aload_n dX9_coinsTogether_0 rfl rfl ?_
      refine mm_getI dX9_coinsTogether_1 fX9_30 sh_155 rfl ?_
      refine mm_cast (st' := [.int (nI s.2.1)]) rfl (by rw [e5]) rfl ?_
      refine mm_cS (Y1 := YJ6_bitCount_0f7a4) dX9_coinsTogether_4 lX9_34 sJ6_bitCount_0f7a4 (mJ6_bitCount_0f7a4 (d + 5) g2 s.2.1 (by omega)) rfl rfl (by simp [Value.category]) ?_
      refine mm_aload_n dX9_coinsTogether_7 rfl rfl ?_
      refine mm_getI dX9_coinsTogether_8 fX9_40 sh_155 rfl ?_
      refine mm_cast (st' := [.int (nI s.2.2), .int (nI (pc s.2.1))]) rfl (by rw [e6]; rfl) rfl ?_
      refine mm_cS (Y1 := YJ6_bitCount_0f7a4) dX9_coinsTogether_11 lX9_34 sJ6_bitCount_0f7a4 (mJ6_bitCount_0f7a4 (d + 5) g2 s.2.2 (by omega)) rfl rfl (by simp [Value.category]) ?_
      refine mm_iadd dX9_coinsTogether_14 ?_
      exact mm_iretE dX9_coinsTogether_15 rfl (by rw [nI_add, j1]) rfl
    rcases w02 hw with rfl | rfl | rfl
    · skip
      refine mm_aload_n dX10_pay_0 rfl rfl ?_
      refine mm_iload_n dX10_pay_1 rfl rfl ?_
      refine mm_iload_n dX10_pay_2 rfl rfl ?_
      refine mm_iload dX10_pay_3 rfl ?_
      refine mm_cV (Y1 := YX10_canDeal) dX10_pay_5 lX10_237 vX10_canDeal (N1) sh_0 rfl rfl (by simp [Value.category]) ?_
      refine mm_if_eq 27 dX10_pay_8 (by decide) (fun c_8 => ?_) (fun c_8 => ?_)
      · exact absurd (by exact ⟨⟨by rw [nI_toInt (by omega)]; omega, by rw [nI_toInt (by omega)]; omega⟩, hd⟩) (bI_e0.mp c_8)
      · refine mm_aload_n dX10_pay_11 rfl rfl ?_
        refine mm_iload_n dX10_pay_12 rfl rfl ?_
        refine mm_cV (Y1 := YX10_isCounter) dX10_pay_13 lX10_153 vX10_isCounter (N2) sh_0 rfl rfl (by simp [Value.category]) ?_
        refine mm_if_eq 27 dX10_pay_16 (by decide) (fun c_16 => ?_) (fun c_16 => ?_)
        · exact absurd ⟨by rw [nI_toInt (by omega)]; omega, by rw [nI_toInt (by omega)]; omega⟩ (bI_e0.mp c_16)
        · refine mm_iload dX10_pay_19 rfl ?_
          refine mm_cS (Y1 := YX10_isPrice) dX10_pay_21 lX10_240 sX10_isPrice (mX10_isPrice (d + 6) h price) rfl rfl (by simp [Value.category]) ?_
          refine mm_if_ne 29 dX10_pay_24 (by decide) (fun c_24 => ?_) (fun c_24 => ?_)
          · refine mm_iload dX10_pay_29 rfl ?_
            refine mm_if_lt 40 dX10_pay_31 (by decide) (fun c_31 => ?_) (fun c_31 => ?_)
            · exact absurd c_31 (by decide)
            · refine mm_iload dX10_pay_34 rfl ?_
              refine mm_iconst (x := 2) dX10_pay_36 (by decide) ?_
              refine mm_icmp_le 42 dX10_pay_37 (by decide) (fun c_37 => ?_) (fun c_37 => ?_)
              · refine mm_aload_n dX10_pay_42 rfl rfl ?_
                refine mm_getS dX10_pay_43 fX10_69 sh_0 rfl gr_0_10 ?_
                refine mm_aload_n dX10_pay_46 rfl rfl ?_
                refine mm_getS dX10_pay_47 fX10_38 sh_0 rfl gr_0_5 ?_
                refine mm_iload_n dX10_pay_50 rfl rfl ?_
                refine mm_aald (r) dX10_pay_51 (Or.inl rfl) sh_2 rfl (by omega) (gr_2 (by omega)) ?_
                refine mm_iload_n dX10_pay_52 rfl rfl ?_
                refine mm_cV (Y1 := YX0_aim) dX10_pay_53 lX10_183 vX0_aim (M1) sh_135 rfl rfl (by simp [Value.category]) ?_
                refine mm_aload_n dX10_pay_56 rfl rfl ?_
                refine mm_getS dX10_pay_57 fX10_78 sh_0 rfl gr_0_11 ?_
                refine mm_iload_n dX10_pay_60 rfl rfl ?_
                refine mm_iload dX10_pay_61 rfl ?_
                refine mm_iload dX10_pay_63 rfl ?_
                refine mm_cV (Y1 := YX9_findPayment) dX10_pay_65 lX10_243 vX9_findPayment (M2) sh_155 rfl rfl (by simp [Value.category]) ?_
                refine mm_if_ne 74 dX10_pay_68 (by decide) (fun c_68 => ?_) (fun c_68 => ?_)
                · refine mm_iload dX10_pay_74 rfl ?_
                  refine mm_lookup (off := 28) 104 dX10_pay_76 (by decide) (by decide) (by decide) ?_
                  refine mm_aload_n dX10_pay_104 rfl rfl ?_
                  refine mm_getS dX10_pay_105 fX10_78 sh_0 rfl gr_0_11 ?_
                  refine mm_cV (Y1 := YX9_coinsTogether) dX10_pay_108 lX10_246 vX9_coinsTogether (MT) sh_155 rfl rfl (by simp [Value.category]) ?_
                  exact mm_iretE dX10_pay_111 rfl (by unfold pyA; rw [if_neg hf, if_pos rfl]) rfl
                · exact absurd hle (bI_e0.mp c_68)
              · exact absurd c_37 (by decide)
          · exact absurd hpr (bI_e0.mp c_24)
    · skip
      refine mm_aload_n dX10_pay_0 rfl rfl ?_
      refine mm_iload_n dX10_pay_1 rfl rfl ?_
      refine mm_iload_n dX10_pay_2 rfl rfl ?_
      refine mm_iload dX10_pay_3 rfl ?_
      refine mm_cV (Y1 := YX10_canDeal) dX10_pay_5 lX10_237 vX10_canDeal (N1) sh_0 rfl rfl (by simp [Value.category]) ?_
      refine mm_if_eq 27 dX10_pay_8 (by decide) (fun c_8 => ?_) (fun c_8 => ?_)
      · exact absurd (by exact ⟨⟨by rw [nI_toInt (by omega)]; omega, by rw [nI_toInt (by omega)]; omega⟩, hd⟩) (bI_e0.mp c_8)
      · refine mm_aload_n dX10_pay_11 rfl rfl ?_
        refine mm_iload_n dX10_pay_12 rfl rfl ?_
        refine mm_cV (Y1 := YX10_isCounter) dX10_pay_13 lX10_153 vX10_isCounter (N2) sh_0 rfl rfl (by simp [Value.category]) ?_
        refine mm_if_eq 27 dX10_pay_16 (by decide) (fun c_16 => ?_) (fun c_16 => ?_)
        · exact absurd ⟨by rw [nI_toInt (by omega)]; omega, by rw [nI_toInt (by omega)]; omega⟩ (bI_e0.mp c_16)
        · refine mm_iload dX10_pay_19 rfl ?_
          refine mm_cS (Y1 := YX10_isPrice) dX10_pay_21 lX10_240 sX10_isPrice (mX10_isPrice (d + 6) h price) rfl rfl (by simp [Value.category]) ?_
          refine mm_if_ne 29 dX10_pay_24 (by decide) (fun c_24 => ?_) (fun c_24 => ?_)
          · refine mm_iload dX10_pay_29 rfl ?_
            refine mm_if_lt 40 dX10_pay_31 (by decide) (fun c_31 => ?_) (fun c_31 => ?_)
            · exact absurd c_31 (by decide)
            · refine mm_iload dX10_pay_34 rfl ?_
              refine mm_iconst (x := 2) dX10_pay_36 (by decide) ?_
              refine mm_icmp_le 42 dX10_pay_37 (by decide) (fun c_37 => ?_) (fun c_37 => ?_)
              · refine mm_aload_n dX10_pay_42 rfl rfl ?_
                refine mm_getS dX10_pay_43 fX10_69 sh_0 rfl gr_0_10 ?_
                refine mm_aload_n dX10_pay_46 rfl rfl ?_
                refine mm_getS dX10_pay_47 fX10_38 sh_0 rfl gr_0_5 ?_
                refine mm_iload_n dX10_pay_50 rfl rfl ?_
                refine mm_aald (r) dX10_pay_51 (Or.inl rfl) sh_2 rfl (by omega) (gr_2 (by omega)) ?_
                refine mm_iload_n dX10_pay_52 rfl rfl ?_
                refine mm_cV (Y1 := YX0_aim) dX10_pay_53 lX10_183 vX0_aim (M1) sh_135 rfl rfl (by simp [Value.category]) ?_
                refine mm_aload_n dX10_pay_56 rfl rfl ?_
                refine mm_getS dX10_pay_57 fX10_78 sh_0 rfl gr_0_11 ?_
                refine mm_iload_n dX10_pay_60 rfl rfl ?_
                refine mm_iload dX10_pay_61 rfl ?_
                refine mm_iload dX10_pay_63 rfl ?_
                refine mm_cV (Y1 := YX9_findPayment) dX10_pay_65 lX10_243 vX9_findPayment (M2) sh_155 rfl rfl (by simp [Value.category]) ?_
                refine mm_if_ne 74 dX10_pay_68 (by decide) (fun c_68 => ?_) (fun c_68 => ?_)
                · refine mm_iload dX10_pay_74 rfl ?_
                  refine mm_lookup (off := 36) 112 dX10_pay_76 (by decide) (by decide) (by decide) ?_
                  refine mm_aload_n dX10_pay_112 rfl rfl ?_
                  refine mm_getS dX10_pay_113 fX10_78 sh_0 rfl gr_0_11 ?_
                  refine mm_getI dX10_pay_116 fX10_249 sh_155 rfl ?_
                  exact mm_iretE dX10_pay_119 rfl (by rw [e5]; unfold pyA; rw [if_neg hf, if_neg (by decide), if_pos rfl]) rfl
                · exact absurd hle (bI_e0.mp c_68)
              · exact absurd c_37 (by decide)
          · exact absurd hpr (bI_e0.mp c_24)
    · skip
      refine mm_aload_n dX10_pay_0 rfl rfl ?_
      refine mm_iload_n dX10_pay_1 rfl rfl ?_
      refine mm_iload_n dX10_pay_2 rfl rfl ?_
      refine mm_iload dX10_pay_3 rfl ?_
      refine mm_cV (Y1 := YX10_canDeal) dX10_pay_5 lX10_237 vX10_canDeal (N1) sh_0 rfl rfl (by simp [Value.category]) ?_
      refine mm_if_eq 27 dX10_pay_8 (by decide) (fun c_8 => ?_) (fun c_8 => ?_)
      · exact absurd (by exact ⟨⟨by rw [nI_toInt (by omega)]; omega, by rw [nI_toInt (by omega)]; omega⟩, hd⟩) (bI_e0.mp c_8)
      · refine mm_aload_n dX10_pay_11 rfl rfl ?_
        refine mm_iload_n dX10_pay_12 rfl rfl ?_
        refine mm_cV (Y1 := YX10_isCounter) dX10_pay_13 lX10_153 vX10_isCounter (N2) sh_0 rfl rfl (by simp [Value.category]) ?_
        refine mm_if_eq 27 dX10_pay_16 (by decide) (fun c_16 => ?_) (fun c_16 => ?_)
        · exact absurd ⟨by rw [nI_toInt (by omega)]; omega, by rw [nI_toInt (by omega)]; omega⟩ (bI_e0.mp c_16)
        · refine mm_iload dX10_pay_19 rfl ?_
          refine mm_cS (Y1 := YX10_isPrice) dX10_pay_21 lX10_240 sX10_isPrice (mX10_isPrice (d + 6) h price) rfl rfl (by simp [Value.category]) ?_
          refine mm_if_ne 29 dX10_pay_24 (by decide) (fun c_24 => ?_) (fun c_24 => ?_)
          · refine mm_iload dX10_pay_29 rfl ?_
            refine mm_if_lt 40 dX10_pay_31 (by decide) (fun c_31 => ?_) (fun c_31 => ?_)
            · exact absurd c_31 (by decide)
            · refine mm_iload dX10_pay_34 rfl ?_
              refine mm_iconst (x := 2) dX10_pay_36 (by decide) ?_
              refine mm_icmp_le 42 dX10_pay_37 (by decide) (fun c_37 => ?_) (fun c_37 => ?_)
              · refine mm_aload_n dX10_pay_42 rfl rfl ?_
                refine mm_getS dX10_pay_43 fX10_69 sh_0 rfl gr_0_10 ?_
                refine mm_aload_n dX10_pay_46 rfl rfl ?_
                refine mm_getS dX10_pay_47 fX10_38 sh_0 rfl gr_0_5 ?_
                refine mm_iload_n dX10_pay_50 rfl rfl ?_
                refine mm_aald (r) dX10_pay_51 (Or.inl rfl) sh_2 rfl (by omega) (gr_2 (by omega)) ?_
                refine mm_iload_n dX10_pay_52 rfl rfl ?_
                refine mm_cV (Y1 := YX0_aim) dX10_pay_53 lX10_183 vX0_aim (M1) sh_135 rfl rfl (by simp [Value.category]) ?_
                refine mm_aload_n dX10_pay_56 rfl rfl ?_
                refine mm_getS dX10_pay_57 fX10_78 sh_0 rfl gr_0_11 ?_
                refine mm_iload_n dX10_pay_60 rfl rfl ?_
                refine mm_iload dX10_pay_61 rfl ?_
                refine mm_iload dX10_pay_63 rfl ?_
                refine mm_cV (Y1 := YX9_findPayment) dX10_pay_65 lX10_243 vX9_findPayment (M2) sh_155 rfl rfl (by simp [Value.category]) ?_
                refine mm_if_ne 74 dX10_pay_68 (by decide) (fun c_68 => ?_) (fun c_68 => ?_)
                · refine mm_iload dX10_pay_74 rfl ?_
                  refine mm_lookup (off := 44) 120 dX10_pay_76 (by decide) (by decide) (by decide) ?_
                  refine mm_aload_n dX10_pay_120 rfl rfl ?_
                  refine mm_getS dX10_pay_121 fX10_78 sh_0 rfl gr_0_11 ?_
                  refine mm_getI dX10_pay_124 fX10_252 sh_155 rfl ?_
                  exact mm_iretE dX10_pay_127 rfl (by rw [e6]; unfold pyA; rw [if_neg hf, if_neg (by decide), if_neg (by decide)]) rfl
                · exact absurd hle (bI_e0.mp c_68)
              · exact absurd c_37 (by decide)
          · exact absurd hpr (bI_e0.mp c_24)
set_option maxRecDepth 100000 in
set_option maxHeartbeats 4000000 in
theorem mX11_pay_n (d : Nat) (h : mm_H) (A : MD) (LQ : Nat → LD) (nl : Nat) (S : stM A LQ nl h) (r k a b p w : Int32) (hb : ¬ (dealP A nl r k a b ∧ (0 ≤ p.toInt ∧ p.toInt ≤ 9999) ∧ (0 ≤ w.toInt ∧ w.toInt ≤ 2))) : mm_M (d + 3) YX11_pay [.ref 165, .int r, .int k, .int a, .int b, .int p, .int w] h (some (.int (-1))) h := by
  refine mm_M.of [some (.ref 165), some (.int r), some (.int k), some (.int a), some (.int b), some (.int p), some (.int w), none] rfl rfl (Nat.le_of_ble_eq_true rfl) ?_
  refine mm_aload_n dX11_pay_0 rfl rfl ?_
  refine mm_iload_n dX11_pay_1 rfl rfl ?_
  refine mm_iload_n dX11_pay_2 rfl rfl ?_
  refine mm_iload_n dX11_pay_3 rfl rfl ?_
  refine mm_iload dX11_pay_4 rfl ?_
  refine mm_cV (Y1 := YX11_isPay) dX11_pay_6 lX11_473 vX11_isPay (mX11_isPay d h nl (mk A) S.2.2.1 S.2.2.2.1 S.2.1.2.1 S.1.2.1 r k a b) sh_165 rfl rfl (by simp [Value.category]) ?_
  refine mm_if_eq 38 dX11_pay_9 (by decide) (fun c_9 => ?_) (fun c_9 => ?_)
  · refine mm_iconst (x := (-1)) dX11_pay_38 (by decide) ?_
    exact mm_iretE dX11_pay_39 rfl rfl rfl
  · refine mm_iload dX11_pay_12 rfl ?_
    refine mm_i2l dX11_pay_14 rfl ?_
    refine mm_lconst (x := 0) dX11_pay_15 (by decide) ?_
    refine mm_ldc2 dX11_pay_16 kX11_378 ?_
    refine mm_cS (Y1 := YX11_in) dX11_pay_19 lX11_171 sX11_in (mX11_in (d + 2) h _ _ _) rfl rfl (by simp [Value.category]) ?_
    refine mm_if_eq 38 dX11_pay_22 (by decide) (fun c_22 => ?_) (fun c_22 => ?_)
    · refine mm_iconst (x := (-1)) dX11_pay_38 (by decide) ?_
      exact mm_iretE dX11_pay_39 rfl rfl rfl
    · refine mm_iload dX11_pay_25 rfl ?_
      refine mm_i2l dX11_pay_27 rfl ?_
      refine mm_lconst (x := 0) dX11_pay_28 (by decide) ?_
      refine mm_ldc2 dX11_pay_29 kX11_428 ?_
      refine mm_cS (Y1 := YX11_in) dX11_pay_32 lX11_171 sX11_in (mX11_in (d + 2) h _ _ _) rfl rfl (by simp [Value.category]) ?_
      refine mm_if_ne 40 dX11_pay_35 (by decide) (fun c_35 => ?_) (fun c_35 => ?_)
      · exact absurd ⟨bI_n0.mp c_9, by have q := bI_n0.mp c_22; rw [i64_toInt, li_0, li_9999] at q; exact q, by have q := bI_n0.mp c_35; rw [i64_toInt, li_0, li_2] at q; exact q⟩ hb
      · refine mm_iconst (x := (-1)) dX11_pay_38 (by decide) ?_
        exact mm_iretE dX11_pay_39 rfl rfl rfl
set_option maxRecDepth 100000 in
set_option maxHeartbeats 4000000 in
theorem mX11_pay_y (d : Nat) (h : mm_H) (A : MD) (LQ : Nat → LD) (nl : Nat) (S : stM A LQ nl h) (r k : Nat) (hr : r < nl) (hk : k < mk A) (one other price w : Int32) (hd : dealN one other) (hpr : 0 ≤ price.toInt ∧ price.toInt ≤ 9999) (hw : 0 ≤ w.toInt ∧ w.toInt ≤ 2) : ∃ g, mm_M (d + 10) YX11_pay [.ref 165, .int (nI r), .int (nI k), .int one, .int other, .int price, .int w] h (some (.int (pyA (pyB A (LQ r) k one other price) w))) g ∧ mfr h g := by
  have N1 := mX11_isPay (d + 7) h nl (mk A) S.2.2.1 S.2.2.2.1 S.2.1.2.1 S.1.2.1 (nI r) (nI k) one other
  obtain ⟨hA, hV, h6, hn6, hL⟩ := S
  have h12 := hA.1
  have h4 := hA.2.1
  have hp := p2_lt h12
  obtain ⟨g2, M2, b1, b2, b3, b4⟩ := mX11_pays d h A hA hV (LQ r) r (by omega) (hL r hr).1 (hL r hr).2 k hk one other price hd.2.2
  obtain ⟨s, es⟩ : ∃ s, s = pyB A (LQ r) k one other price := ⟨_, rfl⟩
  have eF : pyF (wtA A) price (safL (chd A (LQ r) k) (wtA A) (hN (mr A 4) one (mn A))) (safL (chd A (LQ r) k) (wtA A) (hN (mr A 4) other (mn A))) = s := es.symm
  rw [eF] at M2 b2 b3
  obtain ⟨i1, i2⟩ := pyB_inv (Q := LQ r) (k := k) (price := price) hA hd.2.2
  rw [← es] at i1 i2 ⊢
  refine ⟨g2, ?_, b1⟩
  refine mm_M.of [some (.ref 165), some (.int (nI r)), some (.int (nI k)), some (.int one), some (.int other), some (.int price), some (.int w), none] rfl rfl (Nat.le_of_ble_eq_true rfl) ?_
  refine mm_aload_n dX11_pay_0 rfl rfl ?_
  refine mm_iload_n dX11_pay_1 rfl rfl ?_
  refine mm_iload_n dX11_pay_2 rfl rfl ?_
  refine mm_iload_n dX11_pay_3 rfl rfl ?_
  refine mm_iload dX11_pay_4 rfl ?_
  refine mm_cV (Y1 := YX11_isPay) dX11_pay_6 lX11_473 vX11_isPay (N1) sh_165 rfl rfl (by simp [Value.category]) ?_
  refine mm_if_eq 38 dX11_pay_9 (by decide) (fun c_9 => ?_) (fun c_9 => ?_)
  · exact absurd ⟨⟨by rw [nI_toInt (by omega)]; omega, by rw [nI_toInt (by omega)]; omega⟩, ⟨by rw [nI_toInt (by omega)]; omega, by rw [nI_toInt (by omega)]; omega⟩, hd⟩ (bI_e0.mp c_9)
  · refine mm_iload dX11_pay_12 rfl ?_
    refine mm_i2l dX11_pay_14 rfl ?_
    refine mm_lconst (x := 0) dX11_pay_15 (by decide) ?_
    refine mm_ldc2 dX11_pay_16 kX11_378 ?_
    refine mm_cS (Y1 := YX11_in) dX11_pay_19 lX11_171 sX11_in (mX11_in (d + 9) h _ _ _) rfl rfl (by simp [Value.category]) ?_
    refine mm_if_eq 38 dX11_pay_22 (by decide) (fun c_22 => ?_) (fun c_22 => ?_)
    · exact absurd (by rw [i64_toInt, li_0, li_9999]; exact hpr) (bI_e0.mp c_22)
    · refine mm_iload dX11_pay_25 rfl ?_
      refine mm_i2l dX11_pay_27 rfl ?_
      refine mm_lconst (x := 0) dX11_pay_28 (by decide) ?_
      refine mm_ldc2 dX11_pay_29 kX11_428 ?_
      refine mm_cS (Y1 := YX11_in) dX11_pay_32 lX11_171 sX11_in (mX11_in (d + 9) h _ _ _) rfl rfl (by simp [Value.category]) ?_
      refine mm_if_ne 40 dX11_pay_35 (by decide) (fun c_35 => ?_) (fun c_35 => ?_)
      · refine mm_aload_n dX11_pay_40 rfl rfl ?_
        refine mm_iload_n dX11_pay_41 rfl rfl ?_
        refine mm_iload_n dX11_pay_42 rfl rfl ?_
        refine mm_iload_n dX11_pay_43 rfl rfl ?_
        refine mm_iload dX11_pay_44 rfl ?_
        refine mm_iload dX11_pay_46 rfl ?_
        refine mm_cV (Y1 := YX11_pays) dX11_pay_48 lX11_477 vX11_pays (M2) sh_165 rfl rfl (by simp [Value.category]) ?_
        refine mm_istore dX11_pay_51 (by decide) rfl ?_
        refine mm_iload dX11_pay_53 rfl ?_
        refine mm_bipush (x := (-2)) dX11_pay_55 (by decide) ?_
        refine mm_icmp_eq 65 dX11_pay_57 (by decide) (fun c_57 => ?_) (fun c_57 => ?_)
        · have hf := (o13_e i1).mp c_57
          refine mm_iload dX11_pay_65 rfl ?_
          refine mm_goto 87 dX11_pay_67 (by decide) ?_
          exact mm_iretE dX11_pay_87 rfl (by unfold pyA; first | (rw [if_pos hf]; exact c_57) | (rw [if_neg hf, if_pos c_62]; exact o13_n hf) | (rw [if_neg hf, if_neg c_62, if_pos c_73]; exact (b2 hf).1) | (rw [if_neg hf, if_neg c_62, if_neg c_73]; exact (b2 hf).2)) rfl
        · have hf : ¬ s.1 = 13 := fun z => c_57 ((o13_e i1).mpr z)
          refine mm_iload dX11_pay_60 rfl ?_
          refine mm_if_ne 70 dX11_pay_62 (by decide) (fun c_62 => ?_) (fun c_62 => ?_)
          · refine mm_iload dX11_pay_70 rfl ?_
            refine mm_iconst (x := 1) dX11_pay_72 (by decide) ?_
            refine mm_icmp_ne 83 dX11_pay_73 (by decide) (fun c_73 => ?_) (fun c_73 => ?_)
            · refine mm_aload_n dX11_pay_83 rfl rfl ?_
              refine mm_getI dX11_pay_84 fX11_470 sh_165 rfl ?_
              exact mm_iretE dX11_pay_87 rfl (by unfold pyA; first | (rw [if_pos hf]; exact c_57) | (rw [if_neg hf, if_pos c_62]; exact o13_n hf) | (rw [if_neg hf, if_neg c_62, if_pos c_73]; exact (b2 hf).1) | (rw [if_neg hf, if_neg c_62, if_neg c_73]; exact (b2 hf).2)) rfl
            · refine mm_aload_n dX11_pay_76 rfl rfl ?_
              refine mm_getI dX11_pay_77 fX11_467 sh_165 rfl ?_
              refine mm_goto 87 dX11_pay_80 (by decide) ?_
              exact mm_iretE dX11_pay_87 rfl (by unfold pyA; first | (rw [if_pos hf]; exact c_57) | (rw [if_neg hf, if_pos c_62]; exact o13_n hf) | (rw [if_neg hf, if_neg c_62, if_pos c_73]; exact (b2 hf).1) | (rw [if_neg hf, if_neg c_62, if_neg c_73]; exact (b2 hf).2)) rfl
          · refine mm_iload dX11_pay_65 rfl ?_
            refine mm_goto 87 dX11_pay_67 (by decide) ?_
            exact mm_iretE dX11_pay_87 rfl (by unfold pyA; first | (rw [if_pos hf]; exact c_57) | (rw [if_neg hf, if_pos c_62]; exact o13_n hf) | (rw [if_neg hf, if_neg c_62, if_pos c_73]; exact (b2 hf).1) | (rw [if_neg hf, if_neg c_62, if_neg c_73]; exact (b2 hf).2)) rfl
      · exact absurd (by rw [i64_toInt, li_0, li_2]; exact hw) (bI_e0.mp c_35)
/-- the mint after a payment is done -/
def mdD (A : MD) (s : PY) (one other : Int32) : MD := (fun i c => if i = 4 then (if c < mn A ∧ sp_bit (nI s.2.2) c = 1 then one else if c < mn A ∧ sp_bit (nI s.2.1) c = 1 then other else mr A 4 c) else if i = 5 then (if c < mn A then mr A 5 c + sp_bit (nI s.2.1 ||| nI s.2.2) c else mr A 5 c) else mr A i c, A.2)
theorem mdD_n (A : MD) (s : PY) (one other : Int32) : mn (mdD A s one other) = mn A ∧ mk (mdD A s one other) = mk A ∧ mb (mdD A s one other) = mb A ∧ mf (mdD A s one other) = mf A ∧ ∀ i, i ≠ 4 → i ≠ 5 → mr (mdD A s one other) i = mr A i := by
  refine ⟨rfl, rfl, rfl, rfl, fun i h4 h5 => ?_⟩
  funext c
  simp only [mdD, mr]
  rw [if_neg h4, if_neg h5]
theorem mdD_ok {A : MD} (hA : mdOK A) (s : PY) (one other : Int32) : mdOK (mdD A s one other) := by
  obtain ⟨e1, e2, e3, e4, e5⟩ := mdD_n A s one other
  unfold mdOK
  rw [e1, e2, e5 1 (by decide) (by decide), e5 2 (by decide) (by decide), e5 3 (by decide) (by decide)]
  exact hA
theorem sp_can_c {fa fb : Nat → Int32} {set : Int32} {n : Nat} (h : ∀ c, c < n → fa c = fb c) : sp_can fa set n ↔ sp_can fb set n := by
  unfold sp_can
  exact ⟨fun z j hj hb => by rw [← h j hj]; exact z j hj hb, fun z j hj hb => by rw [h j hj]; exact z j hj hb⟩
theorem sp_canI_c {fa fb : Nat → Int32} {set : Int32} {n : Nat} (h : ∀ c, c < n → fa c = fb c) : sp_canI fa set n = 0 ↔ sp_canI fb set n = 0 := by
  rw [sp_canI_iff, sp_canI_iff]
  exact ⟨fun ⟨j, a, b, c⟩ => ⟨j, a, b, by rw [← h j a]; exact c⟩, fun ⟨j, a, b, c⟩ => ⟨j, a, b, by rw [h j a]; exact c⟩⟩
def flOK (A : MD) : Prop := ∀ c, c < mn A → 0 ≤ (mr A 5 c).toInt ∧ (mr A 5 c).toInt ≤ 9999
theorem can_iff {A : MD} (hf : flOK A) {set : Int32} : sp_can (mr A 5) set (mn A) ↔ ¬ sp_canI (mr A 5) set (mn A) = 0 := by
  rw [sp_canI_iff]
  constructor
  · rintro z ⟨j, a, b, c⟩
    have := z j a b
    rw [c] at this
    exact absurd this (by decide)
  · intro z j a b
    have := hf j a
    have ne : ¬ mr A 5 j = 9999 := fun q => z ⟨j, a, b, q⟩
    rw [Int32.lt_iff_toInt_lt, ti_9999]
    have : (mr A 5 j).toInt ≠ 9999 := fun q => ne (Int32.toInt_inj.mp (q.trans ti_9999.symm))
    omega
/-- outside the class's own rows only holders and falls have changed -/
def dfr (h g : mm_H) : Prop := (∀ c, rg 135 164 c = false → c ≠ 70 → c ≠ 71 → g.1 c = h.1 c ∧ g.2.1 c = h.2.1 c) ∧ ∀ c, c ≠ 135 → c ≠ 145 → g.2.2 c = h.2.2 c
set_option maxRecDepth 100000 in
set_option maxHeartbeats 4000000 in
theorem mX10_done_n (d : Nat) (h : mm_H) (A : MD) (LQ : Nat → LD) (nl G : Nat) (S : stC A LQ nl h G) (r k a b p : Int32) (hb : ¬ (dealP A nl r k a b ∧ (0 ≤ p.toInt ∧ p.toInt ≤ 9999))) : mm_M (d + 2) YX10_done [.ref 0, .int r, .int k, .int a, .int b, .int p] h (some (.int (-1))) h := by
  refine mm_M.of [some (.ref 0), some (.int r), some (.int k), some (.int a), some (.int b), some (.int p)] rfl rfl (Nat.le_of_ble_eq_true rfl) ?_
  refine mm_aload_n dX10_done_0 rfl rfl ?_
  refine mm_iload_n dX10_done_1 rfl rfl ?_
  refine mm_iload_n dX10_done_2 rfl rfl ?_
  refine mm_iload dX10_done_3 rfl ?_
  refine mm_cV (Y1 := YX10_canDeal) dX10_done_5 lX10_237 vX10_canDeal (mX10_canDeal d h nl S.2.2.1 S.2.2.2.1 r a b) sh_0 rfl rfl (by simp [Value.category]) ?_
  refine mm_if_eq 27 dX10_done_8 (by decide) (fun c_8 => ?_) (fun c_8 => ?_)
  · refine mm_iconst (x := (-1)) dX10_done_27 (by decide) ?_
    exact mm_iretE dX10_done_28 rfl rfl rfl
  · refine mm_aload_n dX10_done_11 rfl rfl ?_
    refine mm_iload_n dX10_done_12 rfl rfl ?_
    refine mm_cV (Y1 := YX10_isCounter) dX10_done_13 lX10_153 vX10_isCounter (mX10_isCounter (d + 1) h (mk A) S.2.1.2.1 S.1.2.1 k) sh_0 rfl rfl (by simp [Value.category]) ?_
    refine mm_if_eq 27 dX10_done_16 (by decide) (fun c_16 => ?_) (fun c_16 => ?_)
    · refine mm_iconst (x := (-1)) dX10_done_27 (by decide) ?_
      exact mm_iretE dX10_done_28 rfl rfl rfl
    · refine mm_iload dX10_done_19 rfl ?_
      refine mm_cS (Y1 := YX10_isPrice) dX10_done_21 lX10_240 sX10_isPrice (mX10_isPrice (d + 1) h p) rfl rfl (by simp [Value.category]) ?_
      refine mm_if_ne 29 dX10_done_24 (by decide) (fun c_24 => ?_) (fun c_24 => ?_)
      · exact absurd (by have q := bI_n0.mp c_8; exact ⟨⟨q.1, bI_n0.mp c_16, q.2⟩, bI_n0.mp c_24⟩) hb
      · refine mm_iconst (x := (-1)) dX10_done_27 (by decide) ?_
        exact mm_iretE dX10_done_28 rfl rfl rfl
set_option maxRecDepth 100000 in
set_option maxHeartbeats 4000000 in
theorem mX10_done_f (d : Nat) (h : mm_H) (A : MD) (LQ : Nat → LD) (nl G : Nat) (S : stC A LQ nl h G) (hGb : G + 2 < 2 ^ 31) (r k : Nat) (hr : r < nl) (hk : k < mk A) (one other price : Int32) (hd : dealN one other) (hpr : 0 ≤ price.toInt ∧ price.toInt ≤ 9999) (hno : (pyB A (LQ r) k one other price).1 = 13 ∨ ¬ sp_can (mr A 5) (nI (pyB A (LQ r) k one other price).2.1 ||| nI (pyB A (LQ r) k one other price).2.2) (mn A)) : ∃ g, mm_M (d + 7) YX10_done [.ref 0, .int (nI r), .int (nI k), .int one, .int other, .int price] h (some (.int (-2))) g ∧ cfr h g ∧ stC A LQ nl g (G + 2) := by
  have S0 := S
  obtain ⟨g1, M1, a1, a2, a3⟩ := aimC (d + 5) h A LQ nl G S r k hr hk
  have N1 := mX10_canDeal (d + 5) h nl S.2.2.1 S.2.2.2.1 (nI r) one other
  have N2 := mX10_isCounter (d + 6) h (mk A) S.2.1.2.1 S.1.2.1 (nI k)
  obtain ⟨hA, hV, h6, hn6, hL, -, hcG⟩ := S
  have h12 := hA.1
  have h4 := hA.2.1
  have hp := p2_lt h12
  obtain ⟨g2, M2, b1, b2, b3, b4⟩ := mX9_findPayment d g1 A hA (LQ r) r (by omega) (hL r hr).1 k hk a1.1 G a2 hGb one other price hd.2.2
  obtain ⟨s, es⟩ : ∃ s, s = pyB A (LQ r) k one other price := ⟨_, rfl⟩
  have eF : pyF (wtA A) price (safL (chd A (LQ r) k) (wtA A) (hN (mr A 4) one (mn A))) (safL (chd A (LQ r) k) (wtA A) (hN (mr A 4) other (mn A))) = s := es.symm
  rw [eF] at M2 b4
  obtain ⟨i1, i2⟩ := pyB_inv (Q := LQ r) (k := k) (price := price) hA hd.2.2
  rw [← es] at i1 i2 hno
  refine ⟨g2, ?_, a3.trans b3.cfr, S0.next (a3.trans b3.cfr) hr hk (b3.at a1 b1) b2⟩
  refine mm_M.of [some (.ref 0), some (.int (nI r)), some (.int (nI k)), some (.int one), some (.int other), some (.int price)] rfl rfl (Nat.le_of_ble_eq_true rfl) ?_
  by_cases hf : s.1 = 13
  · skip
    refine mm_aload_n dX10_done_0 rfl rfl ?_
    refine mm_iload_n dX10_done_1 rfl rfl ?_
    refine mm_iload_n dX10_done_2 rfl rfl ?_
    refine mm_iload dX10_done_3 rfl ?_
    refine mm_cV (Y1 := YX10_canDeal) dX10_done_5 lX10_237 vX10_canDeal (N1) sh_0 rfl rfl (by simp [Value.category]) ?_
    refine mm_if_eq 27 dX10_done_8 (by decide) (fun c_8 => ?_) (fun c_8 => ?_)
    · exact absurd (by exact ⟨⟨by rw [nI_toInt (by omega)]; omega, by rw [nI_toInt (by omega)]; omega⟩, hd⟩) (bI_e0.mp c_8)
    · refine mm_aload_n dX10_done_11 rfl rfl ?_
      refine mm_iload_n dX10_done_12 rfl rfl ?_
      refine mm_cV (Y1 := YX10_isCounter) dX10_done_13 lX10_153 vX10_isCounter (N2) sh_0 rfl rfl (by simp [Value.category]) ?_
      refine mm_if_eq 27 dX10_done_16 (by decide) (fun c_16 => ?_) (fun c_16 => ?_)
      · exact absurd ⟨by rw [nI_toInt (by omega)]; omega, by rw [nI_toInt (by omega)]; omega⟩ (bI_e0.mp c_16)
      · refine mm_iload dX10_done_19 rfl ?_
        refine mm_cS (Y1 := YX10_isPrice) dX10_done_21 lX10_240 sX10_isPrice (mX10_isPrice (d + 6) h price) rfl rfl (by simp [Value.category]) ?_
        refine mm_if_ne 29 dX10_done_24 (by decide) (fun c_24 => ?_) (fun c_24 => ?_)
        · refine mm_aload_n dX10_done_29 rfl rfl ?_
          refine mm_getS dX10_done_30 fX10_69 sh_0 rfl gr_0_10 ?_
          refine mm_aload_n dX10_done_33 rfl rfl ?_
          refine mm_getS dX10_done_34 fX10_38 sh_0 rfl gr_0_5 ?_
          refine mm_iload_n dX10_done_37 rfl rfl ?_
          refine mm_aald (r) dX10_done_38 (Or.inl rfl) sh_2 rfl (by omega) (gr_2 (by omega)) ?_
          refine mm_iload_n dX10_done_39 rfl rfl ?_
          refine mm_cV (Y1 := YX0_aim) dX10_done_40 lX10_183 vX0_aim (M1) sh_135 rfl rfl (by simp [Value.category]) ?_
          refine mm_aload_n dX10_done_43 rfl rfl ?_
          refine mm_getS dX10_done_44 fX10_78 sh_0 rfl gr_0_11 ?_
          refine mm_iload_n dX10_done_47 rfl rfl ?_
          refine mm_iload dX10_done_48 rfl ?_
          refine mm_iload dX10_done_50 rfl ?_
          refine mm_cV (Y1 := YX9_findPayment) dX10_done_52 lX10_243 vX9_findPayment (M2) sh_155 rfl rfl (by simp [Value.category]) ?_
          refine mm_if_ne 61 dX10_done_55 (by decide) (fun c_55 => ?_) (fun c_55 => ?_)
          · exfalso; have := bI_n0.mp c_55; omega
          · refine mm_bipush (x := (-2)) dX10_done_58 (by decide) ?_
            exact mm_iretE dX10_done_60 rfl rfl rfl
        · exact absurd hpr (bI_e0.mp c_24)
  · have hle : s.1 ≤ 12 := by omega
    obtain ⟨e5, e6⟩ := b4 hle
    have hcan := hno.resolve_left hf
    have hV2 := b1.1
    have MC := mX5_canDrop_f (d + 6) g2 65 mint65 (mn A) hV2.1 h12 (nI s.2.1 ||| nI s.2.2) (fun z => hcan ((sp_can_c (fun c hc => (hV2.2.2.2.2.1 c hc).2.2.2.2.2)).mp z))
    refine mm_aload_n dX10_done_0 rfl rfl ?_
    refine mm_iload_n dX10_done_1 rfl rfl ?_
    refine mm_iload_n dX10_done_2 rfl rfl ?_
    refine mm_iload dX10_done_3 rfl ?_
    refine mm_cV (Y1 := YX10_canDeal) dX10_done_5 lX10_237 vX10_canDeal (N1) sh_0 rfl rfl (by simp [Value.category]) ?_
    refine mm_if_eq 27 dX10_done_8 (by decide) (fun c_8 => ?_) (fun c_8 => ?_)
    · exact absurd (by exact ⟨⟨by rw [nI_toInt (by omega)]; omega, by rw [nI_toInt (by omega)]; omega⟩, hd⟩) (bI_e0.mp c_8)
    · refine mm_aload_n dX10_done_11 rfl rfl ?_
      refine mm_iload_n dX10_done_12 rfl rfl ?_
      refine mm_cV (Y1 := YX10_isCounter) dX10_done_13 lX10_153 vX10_isCounter (N2) sh_0 rfl rfl (by simp [Value.category]) ?_
      refine mm_if_eq 27 dX10_done_16 (by decide) (fun c_16 => ?_) (fun c_16 => ?_)
      · exact absurd ⟨by rw [nI_toInt (by omega)]; omega, by rw [nI_toInt (by omega)]; omega⟩ (bI_e0.mp c_16)
      · refine mm_iload dX10_done_19 rfl ?_
        refine mm_cS (Y1 := YX10_isPrice) dX10_done_21 lX10_240 sX10_isPrice (mX10_isPrice (d + 6) h price) rfl rfl (by simp [Value.category]) ?_
        refine mm_if_ne 29 dX10_done_24 (by decide) (fun c_24 => ?_) (fun c_24 => ?_)
        · refine mm_aload_n dX10_done_29 rfl rfl ?_
          refine mm_getS dX10_done_30 fX10_69 sh_0 rfl gr_0_10 ?_
          refine mm_aload_n dX10_done_33 rfl rfl ?_
          refine mm_getS dX10_done_34 fX10_38 sh_0 rfl gr_0_5 ?_
          refine mm_iload_n dX10_done_37 rfl rfl ?_
          refine mm_aald (r) dX10_done_38 (Or.inl rfl) sh_2 rfl (by omega) (gr_2 (by omega)) ?_
          refine mm_iload_n dX10_done_39 rfl rfl ?_
          refine mm_cV (Y1 := YX0_aim) dX10_done_40 lX10_183 vX0_aim (M1) sh_135 rfl rfl (by simp [Value.category]) ?_
          refine mm_aload_n dX10_done_43 rfl rfl ?_
          refine mm_getS dX10_done_44 fX10_78 sh_0 rfl gr_0_11 ?_
          refine mm_iload_n dX10_done_47 rfl rfl ?_
          refine mm_iload dX10_done_48 rfl ?_
          refine mm_iload dX10_done_50 rfl ?_
          refine mm_cV (Y1 := YX9_findPayment) dX10_done_52 lX10_243 vX9_findPayment (M2) sh_155 rfl rfl (by simp [Value.category]) ?_
          refine mm_if_ne 61 dX10_done_55 (by decide) (fun c_55 => ?_) (fun c_55 => ?_)
          · refine mm_aload_n dX10_done_61 rfl rfl ?_
            refine mm_getS dX10_done_62 fX10_45 sh_0 rfl gr_0_7 ?_
            refine mm_getS dX10_done_65 fX10_63 sh_61 rfl gr_61_0 ?_
            refine mm_aload_n dX10_done_68 rfl rfl ?_
            refine mm_getS dX10_done_69 fX10_78 sh_0 rfl gr_0_11 ?_
            refine mm_getI dX10_done_72 fX10_249 sh_155 rfl ?_
            refine mm_aload_n dX10_done_75 rfl rfl ?_
            refine mm_getS dX10_done_76 fX10_78 sh_0 rfl gr_0_11 ?_
            refine mm_getI dX10_done_79 fX10_252 sh_155 rfl ?_
            refine mm_cast (st' := [.int (nI s.2.2), .int (nI s.2.1), .ref 65]) rfl (by rw [e5, e6]; rfl) rfl ?_
            refine mm_ior dX10_done_82 ?_
            refine mm_cV (Y1 := YX5_canDrop) dX10_done_83 lX10_168 vX5_canDrop (MC) sh_65 rfl rfl (by simp [Value.category]) ?_
            refine mm_if_ne 92 dX10_done_86 (by decide) (fun c_86 => ?_) (fun c_86 => ?_)
            · exact absurd rfl c_86
            · refine mm_bipush (x := (-2)) dX10_done_89 (by decide) ?_
              exact mm_iretE dX10_done_91 rfl rfl rfl
          · exact absurd hle (bI_e0.mp c_55)
        · exact absurd hpr (bI_e0.mp c_24)
set_option maxRecDepth 100000 in
set_option maxHeartbeats 4000000 in
theorem mX10_done_t (d : Nat) (h : mm_H) (A : MD) (LQ : Nat → LD) (nl G : Nat) (S : stC A LQ nl h G) (hGb : G + 2 < 2 ^ 31) (r k : Nat) (hr : r < nl) (hk : k < mk A) (one other price : Int32) (hd : dealN one other) (hpr : 0 ≤ price.toInt ∧ price.toInt ≤ 9999) (hf : ¬ (pyB A (LQ r) k one other price).1 = 13) (hcan : sp_can (mr A 5) (nI (pyB A (LQ r) k one other price).2.1 ||| nI (pyB A (LQ r) k one other price).2.2) (mn A)) : ∃ g, mm_M (d + 7) YX10_done [.ref 0, .int (nI r), .int (nI k), .int one, .int other, .int price] h (some (.int (nI (pyB A (LQ r) k one other price).1))) g ∧ dfr h g ∧ stC (mdD A (pyB A (LQ r) k one other price) one other) LQ nl g (G + 2) := by
  have S0 := S
  obtain ⟨g1, M1, a1, a2, a3⟩ := aimC (d + 5) h A LQ nl G S r k hr hk
  have N1 := mX10_canDeal (d + 5) h nl S.2.2.1 S.2.2.2.1 (nI r) one other
  have N2 := mX10_isCounter (d + 6) h (mk A) S.2.1.2.1 S.1.2.1 (nI k)
  obtain ⟨hA, hV, h6, hn6, hL, -, hcG⟩ := S
  have h12 := hA.1
  have h4 := hA.2.1
  have hp := p2_lt h12
  obtain ⟨g2, M2, b1, b2, b3, b4⟩ := mX9_findPayment d g1 A hA (LQ r) r (by omega) (hL r hr).1 k hk a1.1 G a2 hGb one other price hd.2.2
  obtain ⟨s, es⟩ : ∃ s, s = pyB A (LQ r) k one other price := ⟨_, rfl⟩
  have eF : pyF (wtA A) price (safL (chd A (LQ r) k) (wtA A) (hN (mr A 4) one (mn A))) (safL (chd A (LQ r) k) (wtA A) (hN (mr A 4) other (mn A))) = s := es.symm
  rw [eF] at M2 b4
  obtain ⟨i1, i2⟩ := pyB_inv (Q := LQ r) (k := k) (price := price) hA hd.2.2
  rw [← es] at i1 i2 hf hcan ⊢
  have hle : s.1 ≤ 12 := by omega
  obtain ⟨j1, j2, j3, j4⟩ := i2 hf
  obtain ⟨e5, e6⟩ := b4 hle
  have hV2 := b1.1
  have MC := mX5_canDrop_t (d + 6) g2 65 mint65 (mn A) hV2.1 h12 (nI s.2.1 ||| nI s.2.2) ((sp_can_c (fun c hc => (hV2.2.2.2.2.1 c hc).2.2.2.2.2)).mpr hcan)
  have MD1 := mX5_drop (d + 6) g2 65 mint65 (mn A) hV2.1 h12 (nI s.2.1 ||| nI s.2.2)
  obtain ⟨g3, eg3⟩ : ∃ g3 : mm_H, g3 = (mm_row g2.1 71 (sp_drop (g2.1 71) (nI s.2.1 ||| nI s.2.2) (mn A)), g2.2.1, g2.2.2) := ⟨_, rfl⟩
  have MD1 : mm_M (d + 6) YX5_drop [.ref 65, .int (nI s.2.1 ||| nI s.2.2)] g2 none g3 := by rw [eg3]; exact MD1
  have n3 : ∀ c, c ≠ 71 → g3.1 c = g2.1 c := fun c hc => by rw [eg3]; dsimp only; rw [mm_row_n hc]
  have MH1 := mX5_hand (d + 6) g3 65 mint65 (mn A) (by rw [n3 65 (by decide)]; exact hV2.1) h12 (nI s.2.1) other
  obtain ⟨g4, eg4⟩ : ∃ g4 : mm_H, g4 = (mm_row g3.1 70 (sp_hand (g3.1 70) (nI s.2.1) other (mn A)), g3.2.1, g3.2.2) := ⟨_, rfl⟩
  have MH1 : mm_M (d + 6) YX5_hand [.ref 65, .int (nI s.2.1), .int other] g3 none g4 := by rw [eg4]; exact MH1
  have n4 : ∀ c, c ≠ 70 → c ≠ 71 → g4.1 c = g2.1 c := fun c hc h2 => by rw [eg4]; dsimp only; rw [mm_row_n hc, n3 c h2]
  have MH2 := mX5_hand (d + 6) g4 65 mint65 (mn A) (by rw [n4 65 (by decide) (by decide)]; exact hV2.1) h12 (nI s.2.2) one
  obtain ⟨g5, eg5⟩ : ∃ g5 : mm_H, g5 = (mm_row g4.1 70 (sp_hand (g4.1 70) (nI s.2.2) one (mn A)), g4.2.1, g4.2.2) := ⟨_, rfl⟩
  have MH2 : mm_M (d + 6) YX5_hand [.ref 65, .int (nI s.2.2), .int one] g4 none g5 := by rw [eg5]; exact MH2
  have n5 : ∀ c, c ≠ 70 → c ≠ 71 → g5.1 c = g2.1 c := fun c hc h2 => by rw [eg5]; dsimp only; rw [mm_row_n hc, n4 c hc h2]
  have MFo := mX0_forget (d + 6) g5
  obtain ⟨g6, eg6⟩ : ∃ g6 : mm_H, g6 = (mm_up g5.1 135 3 (-1), g5.2.1, g5.2.2) := ⟨_, rfl⟩
  rw [← eg6] at MFo
  have n6 : ∀ c, c ≠ 70 → c ≠ 71 → c ≠ 135 → g6.1 c = g2.1 c := fun c hc h2 h3 => by rw [eg6]; dsimp only; rw [mm_up_n h3, n5 c hc h2]
  have r6 : g6.2 = g2.2 := by rw [eg6, eg5, eg4, eg3]
  have MT : mm_M (d + 6) YX9_coinsTogether [.ref 155] g6 (some (.int (nI s.1))) g6 := by
    refine mm_M.of [some (.ref 155)] rfl rfl (Nat.le_of_ble_eq_true rfl) ?_
    refine mm_aload_n dX9_coinsTogether_0 rfl rfl ?_
    refine mm_getI dX9_coinsTogether_1 fX9_30 sh_155 rfl ?_
    refine mm_cast (st' := [.int (nI s.2.1)]) rfl (by rw [n6 155 (by decide) (by decide) (by decide), e5]) rfl ?_
    refine mm_cS (Y1 := YJ6_bitCount_0f7a4) dX9_coinsTogether_4 lX9_34 sJ6_bitCount_0f7a4 (mJ6_bitCount_0f7a4 (d + 5) g6 s.2.1 (by omega)) rfl rfl (by simp [Value.category]) ?_
    refine mm_aload_n dX9_coinsTogether_7 rfl rfl ?_
    refine mm_getI dX9_coinsTogether_8 fX9_40 sh_155 rfl ?_
    refine mm_cast (st' := [.int (nI s.2.2), .int (nI (pc s.2.1))]) rfl (by rw [n6 155 (by decide) (by decide) (by decide), e6]; rfl) rfl ?_
    refine mm_cS (Y1 := YJ6_bitCount_0f7a4) dX9_coinsTogether_11 lX9_34 sJ6_bitCount_0f7a4 (mJ6_bitCount_0f7a4 (d + 5) g6 s.2.2 (by omega)) rfl rfl (by simp [Value.category]) ?_
    refine mm_iadd dX9_coinsTogether_14 ?_
    exact mm_iretE dX9_coinsTogether_15 rfl (by rw [nI_add, j1]) rfl
  have cf2 := a3.trans b3.cfr
  have r71 : g6.1 71 = sp_drop (g2.1 71) (nI s.2.1 ||| nI s.2.2) (mn A) := by
    rw [eg6]; dsimp only; rw [mm_up_n (by decide), eg5]; dsimp only; rw [mm_row_n (by decide), eg4]; dsimp only; rw [mm_row_n (by decide), eg3]; dsimp only; rw [mm_row_s]
  have r70 : g6.1 70 = sp_hand (sp_hand (g2.1 70) (nI s.2.1) other (mn A)) (nI s.2.2) one (mn A) := by
    rw [eg6]; dsimp only; rw [mm_up_n (by decide), eg5]; dsimp only; rw [mm_row_s, eg4]; dsimp only; rw [mm_row_s, n3 70 (by decide)]
  obtain ⟨q1, q2, q3, q4, q5⟩ := mdD_n A s one other
  have hVD : viewC g6 (mdD A s one other) := by
    obtain ⟨v1, v2, v3, v4, v5, v6⟩ := hV2
    refine ⟨?_, ?_, ?_, ?_, fun c hc => ?_, fun c hc => ?_⟩
    · rw [n6 65 (by decide) (by decide) (by decide), q1]; exact v1
    · rw [n6 65 (by decide) (by decide) (by decide), q2]; exact v2
    · rw [n6 65 (by decide) (by decide) (by decide), q3]; exact v3
    · rw [n6 65 (by decide) (by decide) (by decide), q4]; exact v4
    · rw [q1] at hc
      obtain ⟨w1, w2, w3, w4, w5, w6⟩ := v5 c hc
      rw [n6 66 (by decide) (by decide) (by decide), n6 67 (by decide) (by decide) (by decide), n6 68 (by decide) (by decide) (by decide), n6 69 (by decide) (by decide) (by decide), q5 0 (by decide) (by decide), q5 1 (by decide) (by decide), q5 2 (by decide) (by decide), q5 3 (by decide) (by decide), r70, r71]
      refine ⟨w1, w2, w3, w4, ?_, ?_⟩
      · simp only [sp_hand, mdD, mr, if_true]
        rw [w5]; rfl
      · simp only [sp_drop, mdD, mr]
        rw [w6]; rfl
    · rw [q2] at hc
      rw [n6 72 (by decide) (by decide) (by decide), n6 73 (by decide) (by decide) (by decide), q5 6 (by decide) (by decide), q5 7 (by decide) (by decide)]
      exact v6 c hc
  refine ⟨g6, ?_, ⟨fun c h1 h2 h3 => ?_, fun c h1 h2 => ?_⟩, ⟨mdD_ok hA _ _ _, hVD, ?_, hn6, fun q hq => ⟨(hL q hq).1, ?_⟩, ⟨?_, r, by omega, ?_, Or.inl ?_⟩, ?_⟩⟩
  · refine mm_M.of [some (.ref 0), some (.int (nI r)), some (.int (nI k)), some (.int one), some (.int other), some (.int price)] rfl rfl (Nat.le_of_ble_eq_true rfl) ?_
    refine mm_aload_n dX10_done_0 rfl rfl ?_
    refine mm_iload_n dX10_done_1 rfl rfl ?_
    refine mm_iload_n dX10_done_2 rfl rfl ?_
    refine mm_iload dX10_done_3 rfl ?_
    refine mm_cV (Y1 := YX10_canDeal) dX10_done_5 lX10_237 vX10_canDeal (N1) sh_0 rfl rfl (by simp [Value.category]) ?_
    refine mm_if_eq 27 dX10_done_8 (by decide) (fun c_8 => ?_) (fun c_8 => ?_)
    · exact absurd (by exact ⟨⟨by rw [nI_toInt (by omega)]; omega, by rw [nI_toInt (by omega)]; omega⟩, hd⟩) (bI_e0.mp c_8)
    · refine mm_aload_n dX10_done_11 rfl rfl ?_
      refine mm_iload_n dX10_done_12 rfl rfl ?_
      refine mm_cV (Y1 := YX10_isCounter) dX10_done_13 lX10_153 vX10_isCounter (N2) sh_0 rfl rfl (by simp [Value.category]) ?_
      refine mm_if_eq 27 dX10_done_16 (by decide) (fun c_16 => ?_) (fun c_16 => ?_)
      · exact absurd ⟨by rw [nI_toInt (by omega)]; omega, by rw [nI_toInt (by omega)]; omega⟩ (bI_e0.mp c_16)
      · refine mm_iload dX10_done_19 rfl ?_
        refine mm_cS (Y1 := YX10_isPrice) dX10_done_21 lX10_240 sX10_isPrice (mX10_isPrice (d + 6) h price) rfl rfl (by simp [Value.category]) ?_
        refine mm_if_ne 29 dX10_done_24 (by decide) (fun c_24 => ?_) (fun c_24 => ?_)
        · refine mm_aload_n dX10_done_29 rfl rfl ?_
          refine mm_getS dX10_done_30 fX10_69 sh_0 rfl gr_0_10 ?_
          refine mm_aload_n dX10_done_33 rfl rfl ?_
          refine mm_getS dX10_done_34 fX10_38 sh_0 rfl gr_0_5 ?_
          refine mm_iload_n dX10_done_37 rfl rfl ?_
          refine mm_aald (r) dX10_done_38 (Or.inl rfl) sh_2 rfl (by omega) (gr_2 (by omega)) ?_
          refine mm_iload_n dX10_done_39 rfl rfl ?_
          refine mm_cV (Y1 := YX0_aim) dX10_done_40 lX10_183 vX0_aim (M1) sh_135 rfl rfl (by simp [Value.category]) ?_
          refine mm_aload_n dX10_done_43 rfl rfl ?_
          refine mm_getS dX10_done_44 fX10_78 sh_0 rfl gr_0_11 ?_
          refine mm_iload_n dX10_done_47 rfl rfl ?_
          refine mm_iload dX10_done_48 rfl ?_
          refine mm_iload dX10_done_50 rfl ?_
          refine mm_cV (Y1 := YX9_findPayment) dX10_done_52 lX10_243 vX9_findPayment (M2) sh_155 rfl rfl (by simp [Value.category]) ?_
          refine mm_if_ne 61 dX10_done_55 (by decide) (fun c_55 => ?_) (fun c_55 => ?_)
          · refine mm_aload_n dX10_done_61 rfl rfl ?_
            refine mm_getS dX10_done_62 fX10_45 sh_0 rfl gr_0_7 ?_
            refine mm_getS dX10_done_65 fX10_63 sh_61 rfl gr_61_0 ?_
            refine mm_aload_n dX10_done_68 rfl rfl ?_
            refine mm_getS dX10_done_69 fX10_78 sh_0 rfl gr_0_11 ?_
            refine mm_getI dX10_done_72 fX10_249 sh_155 rfl ?_
            refine mm_aload_n dX10_done_75 rfl rfl ?_
            refine mm_getS dX10_done_76 fX10_78 sh_0 rfl gr_0_11 ?_
            refine mm_getI dX10_done_79 fX10_252 sh_155 rfl ?_
            refine mm_cast (st' := [.int (nI s.2.2), .int (nI s.2.1), .ref 65]) rfl (by rw [e5, e6]; rfl) rfl ?_
            refine mm_ior dX10_done_82 ?_
            refine mm_cV (Y1 := YX5_canDrop) dX10_done_83 lX10_168 vX5_canDrop (MC) sh_65 rfl rfl (by simp [Value.category]) ?_
            refine mm_if_ne 92 dX10_done_86 (by decide) (fun c_86 => ?_) (fun c_86 => ?_)
            · refine mm_aload_n dX10_done_92 rfl rfl ?_
              refine mm_getS dX10_done_93 fX10_45 sh_0 rfl gr_0_7 ?_
              refine mm_getS dX10_done_96 fX10_63 sh_61 rfl gr_61_0 ?_
              refine mm_aload_n dX10_done_99 rfl rfl ?_
              refine mm_getS dX10_done_100 fX10_78 sh_0 rfl gr_0_11 ?_
              refine mm_getI dX10_done_103 fX10_249 sh_155 rfl ?_
              refine mm_aload_n dX10_done_106 rfl rfl ?_
              refine mm_getS dX10_done_107 fX10_78 sh_0 rfl gr_0_11 ?_
              refine mm_getI dX10_done_110 fX10_252 sh_155 rfl ?_
              refine mm_cast (st' := [.int (nI s.2.2), .int (nI s.2.1), .ref 65]) rfl (by rw [e5, e6]; rfl) rfl ?_
              refine mm_ior dX10_done_113 ?_
              refine mm_cV (Y1 := YX5_drop) dX10_done_114 lX10_171 vX5_drop (MD1) sh_65 rfl rfl (by simp [Value.category]) ?_
              refine mm_aload_n dX10_done_117 rfl rfl ?_
              refine mm_getS dX10_done_118 fX10_45 sh_0 rfl gr_0_7 ?_
              refine mm_getS dX10_done_121 fX10_63 sh_61 rfl gr_61_0 ?_
              refine mm_aload_n dX10_done_124 rfl rfl ?_
              refine mm_getS dX10_done_125 fX10_78 sh_0 rfl gr_0_11 ?_
              refine mm_getI dX10_done_128 fX10_249 sh_155 rfl ?_
              refine mm_cast (st' := [.int (nI s.2.1), .ref 65]) rfl (by rw [n3 155 (by decide), e5]; rfl) rfl ?_
              refine mm_iload dX10_done_131 rfl ?_
              refine mm_cV (Y1 := YX5_hand) dX10_done_133 lX10_255 vX5_hand (MH1) sh_65 rfl rfl (by simp [Value.category]) ?_
              refine mm_aload_n dX10_done_136 rfl rfl ?_
              refine mm_getS dX10_done_137 fX10_45 sh_0 rfl gr_0_7 ?_
              refine mm_getS dX10_done_140 fX10_63 sh_61 rfl gr_61_0 ?_
              refine mm_aload_n dX10_done_143 rfl rfl ?_
              refine mm_getS dX10_done_144 fX10_78 sh_0 rfl gr_0_11 ?_
              refine mm_getI dX10_done_147 fX10_252 sh_155 rfl ?_
              refine mm_cast (st' := [.int (nI s.2.2), .ref 65]) rfl (by rw [n4 155 (by decide) (by decide), e6]; rfl) rfl ?_
              refine mm_iload_n dX10_done_150 rfl rfl ?_
              refine mm_cV (Y1 := YX5_hand) dX10_done_151 lX10_255 vX5_hand (MH2) sh_65 rfl rfl (by simp [Value.category]) ?_
              refine mm_aload_n dX10_done_154 rfl rfl ?_
              refine mm_getS dX10_done_155 fX10_69 sh_0 rfl gr_0_10 ?_
              refine mm_cV (Y1 := YX0_forget) dX10_done_158 lX10_114 vX0_forget (MFo) sh_135 rfl rfl (by simp [Value.category]) ?_
              refine mm_aload_n dX10_done_161 rfl rfl ?_
              refine mm_getS dX10_done_162 fX10_78 sh_0 rfl gr_0_11 ?_
              refine mm_cV (Y1 := YX9_coinsTogether) dX10_done_165 lX10_246 vX9_coinsTogether (MT) sh_155 rfl rfl (by simp [Value.category]) ?_
              exact mm_iretE dX10_done_168 rfl rfl rfl
            · exact absurd c_86 (by decide)
          · exact absurd hle (bI_e0.mp c_55)
        · exact absurd hpr (bI_e0.mp c_24)
  · have hc135 : c ≠ 135 := fun z => by rw [z] at h1; cases h1
    refine ⟨(n6 c h2 h3 hc135).trans (cf2.1 c h1).1, ?_⟩
    rw [show g6.2.1 = g2.2.1 by rw [r6]]; exact (cf2.1 c h1).2
  · rw [show g6.2.2 = g2.2.2 by rw [r6]]; exact cf2.2 c h1 h2
  · rw [n6 0 (by decide) (by decide) (by decide), (cf2.1 0 rfl).1]; exact h6
  · exact lawC_c (hL q hq).2 (fun c h1 h2 => (n6 c (by omega) (by omega) (by omega)).trans (cf2.1 c (rg_f (by omega))).1)
  · rw [n6 138 (by decide) (by decide) (by decide)]; exact b1.s1
  · rw [show g6.2.2 = g2.2.2 by rw [r6]]; exact (b3.at a1 b1).2.1
  · rw [eg6]; dsimp only; rw [mm_up_e]
  · exact gcn_c b2 (by rw [eg6]; dsimp only; rw [mm_up_k (by decide), n5 135 (by decide) (by decide)]) (n6 142 (by decide) (by decide) (by decide)) (n6 143 (by decide) (by decide) (by decide))
set_option maxRecDepth 100000 in
set_option maxHeartbeats 4000000 in
theorem mX11_done_n (d : Nat) (h : mm_H) (A : MD) (LQ : Nat → LD) (nl : Nat) (S : stM A LQ nl h) (r k a b p : Int32) (hb : ¬ (dealP A nl r k a b ∧ (0 ≤ p.toInt ∧ p.toInt ≤ 9999))) : mm_M (d + 3) YX11_done [.ref 165, .int r, .int k, .int a, .int b, .int p] h (some (.int (-1))) h := by
  refine mm_M.of [some (.ref 165), some (.int r), some (.int k), some (.int a), some (.int b), some (.int p), none, none] rfl rfl (Nat.le_of_ble_eq_true rfl) ?_
  refine mm_aload_n dX11_done_0 rfl rfl ?_
  refine mm_iload_n dX11_done_1 rfl rfl ?_
  refine mm_iload_n dX11_done_2 rfl rfl ?_
  refine mm_iload_n dX11_done_3 rfl rfl ?_
  refine mm_iload dX11_done_4 rfl ?_
  refine mm_cV (Y1 := YX11_isPay) dX11_done_6 lX11_473 vX11_isPay (mX11_isPay d h nl (mk A) S.2.2.1 S.2.2.2.1 S.2.1.2.1 S.1.2.1 r k a b) sh_165 rfl rfl (by simp [Value.category]) ?_
  refine mm_if_eq 25 dX11_done_9 (by decide) (fun c_9 => ?_) (fun c_9 => ?_)
  · refine mm_iconst (x := (-1)) dX11_done_25 (by decide) ?_
    exact mm_iretE dX11_done_26 rfl rfl rfl
  · refine mm_iload dX11_done_12 rfl ?_
    refine mm_i2l dX11_done_14 rfl ?_
    refine mm_lconst (x := 0) dX11_done_15 (by decide) ?_
    refine mm_ldc2 dX11_done_16 kX11_378 ?_
    refine mm_cS (Y1 := YX11_in) dX11_done_19 lX11_171 sX11_in (mX11_in (d + 2) h _ _ _) rfl rfl (by simp [Value.category]) ?_
    refine mm_if_ne 27 dX11_done_22 (by decide) (fun c_22 => ?_) (fun c_22 => ?_)
    · exact absurd ⟨bI_n0.mp c_9, by have q := bI_n0.mp c_22; rw [i64_toInt, li_0, li_9999] at q; exact q⟩ hb
    · refine mm_iconst (x := (-1)) dX11_done_25 (by decide) ?_
      exact mm_iretE dX11_done_26 rfl rfl rfl
set_option maxRecDepth 100000 in
set_option maxHeartbeats 4000000 in
theorem mX11_done_f (d : Nat) (h : mm_H) (A : MD) (LQ : Nat → LD) (nl : Nat) (S : stM A LQ nl h) (r k : Nat) (hr : r < nl) (hk : k < mk A) (one other price : Int32) (hd : dealN one other) (hpr : 0 ≤ price.toInt ∧ price.toInt ≤ 9999) (hno : (pyB A (LQ r) k one other price).1 = 13 ∨ sp_canI (mr A 5) (nI (pyB A (LQ r) k one other price).2.1 ||| nI (pyB A (LQ r) k one other price).2.2) (mn A) = 0) : ∃ g, mm_M (d + 10) YX11_done [.ref 165, .int (nI r), .int (nI k), .int one, .int other, .int price] h (some (.int (-2))) g ∧ mfr h g := by
  have N1 := mX11_isPay (d + 7) h nl (mk A) S.2.2.1 S.2.2.2.1 S.2.1.2.1 S.1.2.1 (nI r) (nI k) one other
  obtain ⟨hA, hV, h6, hn6, hL⟩ := S
  have h12 := hA.1
  have h4 := hA.2.1
  have hp := p2_lt h12
  obtain ⟨g2, M2, b1, b2, b3, b4⟩ := mX11_pays d h A hA hV (LQ r) r (by omega) (hL r hr).1 (hL r hr).2 k hk one other price hd.2.2
  obtain ⟨s, es⟩ : ∃ s, s = pyB A (LQ r) k one other price := ⟨_, rfl⟩
  have eF : pyF (wtA A) price (safL (chd A (LQ r) k) (wtA A) (hN (mr A 4) one (mn A))) (safL (chd A (LQ r) k) (wtA A) (hN (mr A 4) other (mn A))) = s := es.symm
  rw [eF] at M2 b2 b3
  obtain ⟨i1, i2⟩ := pyB_inv (Q := LQ r) (k := k) (price := price) hA hd.2.2
  rw [← es] at i1 i2 hno
  refine ⟨g2, ?_, b1⟩
  refine mm_M.of [some (.ref 165), some (.int (nI r)), some (.int (nI k)), some (.int one), some (.int other), some (.int price), none, none] rfl rfl (Nat.le_of_ble_eq_true rfl) ?_
  by_cases hf : s.1 = 13
  · skip
    refine mm_aload_n dX11_done_0 rfl rfl ?_
    refine mm_iload_n dX11_done_1 rfl rfl ?_
    refine mm_iload_n dX11_done_2 rfl rfl ?_
    refine mm_iload_n dX11_done_3 rfl rfl ?_
    refine mm_iload dX11_done_4 rfl ?_
    refine mm_cV (Y1 := YX11_isPay) dX11_done_6 lX11_473 vX11_isPay (N1) sh_165 rfl rfl (by simp [Value.category]) ?_
    refine mm_if_eq 25 dX11_done_9 (by decide) (fun c_9 => ?_) (fun c_9 => ?_)
    · exact absurd ⟨⟨by rw [nI_toInt (by omega)]; omega, by rw [nI_toInt (by omega)]; omega⟩, ⟨by rw [nI_toInt (by omega)]; omega, by rw [nI_toInt (by omega)]; omega⟩, hd⟩ (bI_e0.mp c_9)
    · refine mm_iload dX11_done_12 rfl ?_
      refine mm_i2l dX11_done_14 rfl ?_
      refine mm_lconst (x := 0) dX11_done_15 (by decide) ?_
      refine mm_ldc2 dX11_done_16 kX11_378 ?_
      refine mm_cS (Y1 := YX11_in) dX11_done_19 lX11_171 sX11_in (mX11_in (d + 9) h _ _ _) rfl rfl (by simp [Value.category]) ?_
      refine mm_if_ne 27 dX11_done_22 (by decide) (fun c_22 => ?_) (fun c_22 => ?_)
      · refine mm_aload_n dX11_done_27 rfl rfl ?_
        refine mm_iload_n dX11_done_28 rfl rfl ?_
        refine mm_iload_n dX11_done_29 rfl rfl ?_
        refine mm_iload_n dX11_done_30 rfl rfl ?_
        refine mm_iload dX11_done_31 rfl ?_
        refine mm_iload dX11_done_33 rfl ?_
        refine mm_cV (Y1 := YX11_pays) dX11_done_35 lX11_477 vX11_pays (M2) sh_165 rfl rfl (by simp [Value.category]) ?_
        refine mm_istore dX11_done_38 (by decide) rfl ?_
        refine mm_iload dX11_done_40 rfl ?_
        refine mm_bipush (x := (-2)) dX11_done_42 (by decide) ?_
        refine mm_icmp_eq 63 dX11_done_44 (by decide) (fun c_44 => ?_) (fun c_44 => ?_)
        · refine mm_bipush (x := (-2)) dX11_done_63 (by decide) ?_
          exact mm_iretE dX11_done_65 rfl rfl rfl
        · exact absurd ((o13_e i1).mpr hf) c_44
      · exact absurd (by rw [i64_toInt, li_0, li_9999]; exact hpr) (bI_e0.mp c_22)
  · obtain ⟨e5, e6⟩ := b2 hf
    have hcan := hno.resolve_left hf
    have hV2 := viewM_f hV b1.1 (fun c hc => pMs_f (by omega) (by omega))
    have MC := mX11_canFall (d + 8) g2 (mn A) hV2.1 h12 (nI s.2.1 ||| nI s.2.2)
    have hcan2 : sp_canI (g2.1 181) (nI s.2.1 ||| nI s.2.2) (mn A) = 0 := (sp_canI_c (fun c hc => (hV2.2.2.2.2.1 c hc).2.2.2.2.2)).mpr hcan
    refine mm_aload_n dX11_done_0 rfl rfl ?_
    refine mm_iload_n dX11_done_1 rfl rfl ?_
    refine mm_iload_n dX11_done_2 rfl rfl ?_
    refine mm_iload_n dX11_done_3 rfl rfl ?_
    refine mm_iload dX11_done_4 rfl ?_
    refine mm_cV (Y1 := YX11_isPay) dX11_done_6 lX11_473 vX11_isPay (N1) sh_165 rfl rfl (by simp [Value.category]) ?_
    refine mm_if_eq 25 dX11_done_9 (by decide) (fun c_9 => ?_) (fun c_9 => ?_)
    · exact absurd ⟨⟨by rw [nI_toInt (by omega)]; omega, by rw [nI_toInt (by omega)]; omega⟩, ⟨by rw [nI_toInt (by omega)]; omega, by rw [nI_toInt (by omega)]; omega⟩, hd⟩ (bI_e0.mp c_9)
    · refine mm_iload dX11_done_12 rfl ?_
      refine mm_i2l dX11_done_14 rfl ?_
      refine mm_lconst (x := 0) dX11_done_15 (by decide) ?_
      refine mm_ldc2 dX11_done_16 kX11_378 ?_
      refine mm_cS (Y1 := YX11_in) dX11_done_19 lX11_171 sX11_in (mX11_in (d + 9) h _ _ _) rfl rfl (by simp [Value.category]) ?_
      refine mm_if_ne 27 dX11_done_22 (by decide) (fun c_22 => ?_) (fun c_22 => ?_)
      · refine mm_aload_n dX11_done_27 rfl rfl ?_
        refine mm_iload_n dX11_done_28 rfl rfl ?_
        refine mm_iload_n dX11_done_29 rfl rfl ?_
        refine mm_iload_n dX11_done_30 rfl rfl ?_
        refine mm_iload dX11_done_31 rfl ?_
        refine mm_iload dX11_done_33 rfl ?_
        refine mm_cV (Y1 := YX11_pays) dX11_done_35 lX11_477 vX11_pays (M2) sh_165 rfl rfl (by simp [Value.category]) ?_
        refine mm_istore dX11_done_38 (by decide) rfl ?_
        refine mm_iload dX11_done_40 rfl ?_
        refine mm_bipush (x := (-2)) dX11_done_42 (by decide) ?_
        refine mm_icmp_eq 63 dX11_done_44 (by decide) (fun c_44 => ?_) (fun c_44 => ?_)
        · exact absurd ((o13_e i1).mp c_44) hf
        · refine mm_aload_n dX11_done_47 rfl rfl ?_
          refine mm_aload_n dX11_done_48 rfl rfl ?_
          refine mm_getI dX11_done_49 fX11_467 sh_165 rfl ?_
          refine mm_aload_n dX11_done_52 rfl rfl ?_
          refine mm_getI dX11_done_53 fX11_470 sh_165 rfl ?_
          refine mm_cast (st' := [.int (nI s.2.2), .int (nI s.2.1), .ref 165]) rfl (by rw [e5, e6]; rfl) rfl ?_
          refine mm_ior dX11_done_56 ?_
          refine mm_cV (Y1 := YX11_canFall) dX11_done_57 lX11_399 vX11_canFall (MC) sh_165 rfl rfl (by simp [Value.category]) ?_
          refine mm_if_ne 66 dX11_done_60 (by decide) (fun c_60 => ?_) (fun c_60 => ?_)
          · exact absurd hcan2 c_60
          · refine mm_bipush (x := (-2)) dX11_done_63 (by decide) ?_
            exact mm_iretE dX11_done_65 rfl rfl rfl
      · exact absurd (by rw [i64_toInt, li_0, li_9999]; exact hpr) (bI_e0.mp c_22)
def pMd : Nat → Bool := fun c => pMs c || c == 180 || c == 181
def mfd (h g : mm_H) : Prop := frm pMd h g ∧ ∀ j, j < 49 → g.1 165 j = h.1 165 j
def sp_hd (fh : Nat → Int32) (s : PY) (one other : Int32) (i : Nat) : Nat → Int32 := fun c => if c < i then (if sp_bit (nI s.2.1) c = 1 then other else if sp_bit (nI s.2.2) c = 1 then one else fh c) else fh c
set_option maxRecDepth 100000 in
theorem bit_tb {a c : Nat} (ha : a < 4096) (hc : c < 12) (h : sp_bit (nI a) c = 1) : a.testBit c = true := by
  have H : ∀ a, a < 4096 → ∀ c, c < 12 → sp_bit (nI a) c = 1 → a.testBit c = true := by
    intro a ha
    exact co_dec (N := 4096) (P := fun a => ∀ c, c < 12 → sp_bit (nI a) c = 1 → a.testBit c = true) (by decide +kernel) ha
  exact H a ha c hc h
theorem bit_disj {a b c : Nat} (ha : a < 4096) (hb : b < 4096) (hc : c < 12) (hd : a &&& b = 0) (h1 : sp_bit (nI a) c = 1) : ¬ sp_bit (nI b) c = 1 := fun h2 => by
  have := congrArg (fun x => x.testBit c) hd
  simp only [Nat.testBit_and, Nat.zero_testBit] at this
  rw [bit_tb ha hc h1, bit_tb hb hc h2] at this
  cases this
set_option maxRecDepth 100000 in
set_option maxHeartbeats 4000000 in
theorem mX11_done_t (d : Nat) (h : mm_H) (A : MD) (LQ : Nat → LD) (nl : Nat) (S : stM A LQ nl h) (r k : Nat) (hr : r < nl) (hk : k < mk A) (one other price : Int32) (hd : dealN one other) (hpr : 0 ≤ price.toInt ∧ price.toInt ≤ 9999) (hf : ¬ (pyB A (LQ r) k one other price).1 = 13) (hcan : ¬ sp_canI (mr A 5) (nI (pyB A (LQ r) k one other price).2.1 ||| nI (pyB A (LQ r) k one other price).2.2) (mn A) = 0) : ∃ g, mm_M (d + 10) YX11_done [.ref 165, .int (nI r), .int (nI k), .int one, .int other, .int price] h (some (.int (nI (pyB A (LQ r) k one other price).1))) g ∧ mfd h g ∧ stM (mdD A (pyB A (LQ r) k one other price) one other) LQ nl g := by
  have N1 := mX11_isPay (d + 7) h nl (mk A) S.2.2.1 S.2.2.2.1 S.2.1.2.1 S.1.2.1 (nI r) (nI k) one other
  obtain ⟨hA, hV, h6, hn6, hL⟩ := S
  have h12 := hA.1
  have h4 := hA.2.1
  have hp := p2_lt h12
  obtain ⟨g2, M2, b1, b2, b3, b4⟩ := mX11_pays d h A hA hV (LQ r) r (by omega) (hL r hr).1 (hL r hr).2 k hk one other price hd.2.2
  obtain ⟨s, es⟩ : ∃ s, s = pyB A (LQ r) k one other price := ⟨_, rfl⟩
  have eF : pyF (wtA A) price (safL (chd A (LQ r) k) (wtA A) (hN (mr A 4) one (mn A))) (safL (chd A (LQ r) k) (wtA A) (hN (mr A 4) other (mn A))) = s := es.symm
  rw [eF] at M2 b2 b3
  obtain ⟨i1, i2⟩ := pyB_inv (Q := LQ r) (k := k) (price := price) hA hd.2.2
  rw [← es] at i1 i2 hf hcan ⊢
  obtain ⟨j1, j2, j3, j4⟩ := i2 hf
  obtain ⟨e5, e6⟩ := b2 hf
  have hV2 := viewM_f hV b1.1 (fun c hc => pMs_f (by omega) (by omega))
  have MC := mX11_canFall (d + 8) g2 (mn A) hV2.1 h12 (nI s.2.1 ||| nI s.2.2)
  have hcan2 : ¬ sp_canI (g2.1 181) (nI s.2.1 ||| nI s.2.2) (mn A) = 0 := fun z => hcan ((sp_canI_c (fun c hc => (hV2.2.2.2.2.1 c hc).2.2.2.2.2)).mp z)
  have MFa := mX11_fallen (d + 8) g2 (mn A) hV2.1 h12 (nI s.2.1 ||| nI s.2.2)
  obtain ⟨g3, eg3⟩ : ∃ g3 : mm_H, g3 = (mm_row g2.1 181 (sp_drop (g2.1 181) (nI s.2.1 ||| nI s.2.2) (mn A)), g2.2.1, g2.2.2) := ⟨_, rfl⟩
  rw [← eg3] at MFa
  have n3 : ∀ c, c ≠ 181 → g3.1 c = g2.1 c := fun c hc => by rw [eg3]; dsimp only; rw [mm_row_n hc]
  obtain ⟨g4, eg4⟩ : ∃ g4 : mm_H, g4 = (mm_row g3.1 180 (sp_hd (g3.1 180) s one other (mn A)), g3.2.1, g3.2.2) := ⟨_, rfl⟩
  have n4 : ∀ c, c ≠ 180 → c ≠ 181 → g4.1 c = g2.1 c := fun c hc h2 => by rw [eg4]; dsimp only; rw [mm_row_n hc, n3 c h2]
  have r4 : g4.2 = g2.2 := by rw [eg4, eg3]
  obtain ⟨q1, q2, q3, q4, q5⟩ := mdD_n A s one other
  have K82 : ∀ i, i ≤ mn A → mm_R (d + 10) YX11_done 82 [some (.ref 165), some (.int (nI r)), some (.int (nI k)), some (.int one), some (.int other), some (.int price), some (.int (nI s.1)), some (.int (nI i))] [] (mm_row g3.1 180 (sp_hd (g3.1 180) s one other i), g3.2.1, g3.2.2) (some (.int (nI s.1))) g4 := by
    have e166 : ∀ f0, mm_row g3.1 180 f0 166 0 = nI (mn A) := fun f0 => by rw [mm_row_n (by decide), n3 166 (by decide)]; exact hV2.1
    have e55 : ∀ f0, mm_row g3.1 180 f0 165 55 = nI s.2.1 := fun f0 => by rw [mm_row_n (by decide), n3 165 (by decide)]; exact e5
    have e56 : ∀ f0, mm_row g3.1 180 f0 165 56 = nI s.2.2 := fun f0 => by rw [mm_row_n (by decide), n3 165 (by decide)]; exact e6
    refine mm_down (mn A) ?_ (fun i hi ih => ?_)
    · refine mm_iload dX11_done_82 rfl ?_
      refine mm_aload_n dX11_done_84 rfl rfl ?_
      refine mm_getS dX11_done_85 fX11_9 sh_165 rfl gr_165_1 ?_
      refine mm_iconst (x := 0) dX11_done_88 (by decide) ?_
      refine mm_iald (0) dX11_done_89 sh_166 rfl (by decide) ?_
      refine mm_icmp_ge 146 dX11_done_90 (by decide) (fun c_90 => ?_) (fun c_90 => ?_)
      · refine mm_iload dX11_done_146 rfl ?_
        exact mm_iretE dX11_done_148 rfl rfl eg4.symm
      · exact absurd (by dsimp only; rw [e166]; exact Int32.le_refl _) c_90
    · refine mm_iload dX11_done_82 rfl ?_
      refine mm_aload_n dX11_done_84 rfl rfl ?_
      refine mm_getS dX11_done_85 fX11_9 sh_165 rfl gr_165_1 ?_
      refine mm_iconst (x := 0) dX11_done_88 (by decide) ?_
      refine mm_iald (0) dX11_done_89 sh_166 rfl (by decide) ?_
      refine mm_icmp_ge 146 dX11_done_90 (by decide) (fun c_90 => ?_) (fun c_90 => ?_)
      · exact absurd (by dsimp only at c_90; rw [e166] at c_90; exact c_90) (nI_ge hi (by omega))
      · refine mm_aload_n dX11_done_93 rfl rfl ?_
        refine mm_getS dX11_done_94 fX11_52 sh_165 rfl gr_165_15 ?_
        refine mm_iload dX11_done_97 rfl ?_
        refine mm_aload_n dX11_done_99 rfl rfl ?_
        refine mm_getI dX11_done_100 fX11_467 sh_165 rfl ?_
        refine mm_iload dX11_done_103 rfl ?_
        refine mm_cast (st' := [.int (nI i), .int (nI s.2.1), .int (nI i), .ref 180]) rfl (by dsimp only; rw [e55]) rfl ?_
        refine mm_cS (Y1 := YX11_has) dX11_done_105 lX11_177 sX11_has (mX11_has (d + 9) (mm_row g3.1 180 (sp_hd (g3.1 180) s one other i), g3.2.1, g3.2.2) (nI s.2.1) i) rfl rfl (by simp [Value.category]) ?_
        refine mm_if_eq 116 dX11_done_108 (by decide) (fun c_108 => ?_) (fun c_108 => ?_)
        · refine mm_aload_n dX11_done_116 rfl rfl ?_
          refine mm_getI dX11_done_117 fX11_470 sh_165 rfl ?_
          refine mm_iload dX11_done_120 rfl ?_
          refine mm_cast (st' := [.int (nI i), .int (nI s.2.2), .int (nI i), .ref 180]) rfl (by dsimp only; rw [e56]; rfl) rfl ?_
          refine mm_cS (Y1 := YX11_has) dX11_done_122 lX11_177 sX11_has (mX11_has (d + 9) (mm_row g3.1 180 (sp_hd (g3.1 180) s one other i), g3.2.1, g3.2.2) (nI s.2.2) i) rfl rfl (by simp [Value.category]) ?_
          refine mm_if_eq 132 dX11_done_125 (by decide) (fun c_125 => ?_) (fun c_125 => ?_)
          · refine mm_aload_n dX11_done_132 rfl rfl ?_
            refine mm_getS dX11_done_133 fX11_52 sh_165 rfl gr_165_15 ?_
            refine mm_iload dX11_done_136 rfl ?_
            refine mm_iald (i) dX11_done_138 sh_180 rfl (by omega) ?_
            refine mm_iast (i) dX11_done_139 sh_180 rfl (by omega) ?_
            refine mm_iinc dX11_done_140 rfl (nI_inc i) rfl ?_
            refine mm_goto 82 dX11_done_143 (by decide) ?_
            refine mm_cast rfl rfl ?_ ih
            dsimp only
            rw [mm_up_row]
            refine congrArg (fun f0 => ((mm_row g3.1 180 f0, g3.2.1, g3.2.2) : mm_H)) ?_
            funext c
            simp only [upd, sp_hd, mm_row_s]
            by_cases z : c = i
            · subst z
              rw [if_pos rfl, if_pos (show c < c + 1 by omega)]
              first | (rw [if_pos (bI_n0.mp c_108)]; done) | (rw [if_neg (bI_e0.mp c_108), if_pos (bI_n0.mp c_125)]; done) | (rw [if_neg (Nat.lt_irrefl c), if_neg (bI_e0.mp c_108), if_neg (bI_e0.mp c_125)]; done)
            · rw [if_neg z]
              by_cases y : c < i
              · rw [if_pos y, if_pos (show c < i + 1 by omega)]
              · rw [if_neg y, if_neg (show ¬ c < i + 1 by omega)]
          · refine mm_iload_n dX11_done_128 rfl rfl ?_
            refine mm_goto 139 dX11_done_129 (by decide) ?_
            refine mm_iast (i) dX11_done_139 sh_180 rfl (by omega) ?_
            refine mm_iinc dX11_done_140 rfl (nI_inc i) rfl ?_
            refine mm_goto 82 dX11_done_143 (by decide) ?_
            refine mm_cast rfl rfl ?_ ih
            dsimp only
            rw [mm_up_row]
            refine congrArg (fun f0 => ((mm_row g3.1 180 f0, g3.2.1, g3.2.2) : mm_H)) ?_
            funext c
            simp only [upd, sp_hd, mm_row_s]
            by_cases z : c = i
            · subst z
              rw [if_pos rfl, if_pos (show c < c + 1 by omega)]
              first | (rw [if_pos (bI_n0.mp c_108)]; done) | (rw [if_neg (bI_e0.mp c_108), if_pos (bI_n0.mp c_125)]; done) | (rw [if_neg (Nat.lt_irrefl c), if_neg (bI_e0.mp c_108), if_neg (bI_e0.mp c_125)]; done)
            · rw [if_neg z]
              by_cases y : c < i
              · rw [if_pos y, if_pos (show c < i + 1 by omega)]
              · rw [if_neg y, if_neg (show ¬ c < i + 1 by omega)]
        · refine mm_iload dX11_done_111 rfl ?_
          refine mm_goto 139 dX11_done_113 (by decide) ?_
          refine mm_iast (i) dX11_done_139 sh_180 rfl (by omega) ?_
          refine mm_iinc dX11_done_140 rfl (nI_inc i) rfl ?_
          refine mm_goto 82 dX11_done_143 (by decide) ?_
          refine mm_cast rfl rfl ?_ ih
          dsimp only
          rw [mm_up_row]
          refine congrArg (fun f0 => ((mm_row g3.1 180 f0, g3.2.1, g3.2.2) : mm_H)) ?_
          funext c
          simp only [upd, sp_hd, mm_row_s]
          by_cases z : c = i
          · subst z
            rw [if_pos rfl, if_pos (show c < c + 1 by omega)]
            first | (rw [if_pos (bI_n0.mp c_108)]; done) | (rw [if_neg (bI_e0.mp c_108), if_pos (bI_n0.mp c_125)]; done) | (rw [if_neg (Nat.lt_irrefl c), if_neg (bI_e0.mp c_108), if_neg (bI_e0.mp c_125)]; done)
          · rw [if_neg z]
            by_cases y : c < i
            · rw [if_pos y, if_pos (show c < i + 1 by omega)]
            · rw [if_neg y, if_neg (show ¬ c < i + 1 by omega)]
  have K := K82 0 (Nat.zero_le _)
  have es0 : sp_hd (g3.1 180) s one other 0 = g3.1 180 := by funext c; unfold sp_hd; rw [if_neg (Nat.not_lt_zero c)]
  rw [es0, mm_row_self] at K
  have fd : mfd h g4 := by
    refine ⟨⟨fun c hc => ?_, by rw [show g4.2.2 = g2.2.2 by rw [r4]]; exact b1.1.2⟩, fun j hj => by rw [n4 165 (by decide) (by decide)]; exact b1.2 j hj⟩
    simp only [pMd, Bool.or_eq_false_iff, beq_eq_false_iff_ne] at hc
    exact ⟨(n4 c hc.1.2 hc.2).trans (b1.1.i hc.1.1), by rw [show g4.2.1 = g2.2.1 by rw [r4]]; exact b1.1.l hc.1.1⟩
  refine ⟨g4, ?_, fd, mdD_ok hA _ _ _, ?_, by rw [fd.2 24 (by decide)]; exact h6, hn6, fun q hq => ⟨(hL q hq).1, lawM_f (hL q hq).2 fd.1 (fun c h1 h2 => by
    simp only [pMd, Bool.or_eq_false_iff, beq_eq_false_iff_ne]; exact ⟨⟨pMs_f (by omega) (by omega), by omega⟩, by omega⟩)⟩⟩
  · refine mm_M.of [some (.ref 165), some (.int (nI r)), some (.int (nI k)), some (.int one), some (.int other), some (.int price), none, none] rfl rfl (Nat.le_of_ble_eq_true rfl) ?_
    refine mm_aload_n dX11_done_0 rfl rfl ?_
    refine mm_iload_n dX11_done_1 rfl rfl ?_
    refine mm_iload_n dX11_done_2 rfl rfl ?_
    refine mm_iload_n dX11_done_3 rfl rfl ?_
    refine mm_iload dX11_done_4 rfl ?_
    refine mm_cV (Y1 := YX11_isPay) dX11_done_6 lX11_473 vX11_isPay (N1) sh_165 rfl rfl (by simp [Value.category]) ?_
    refine mm_if_eq 25 dX11_done_9 (by decide) (fun c_9 => ?_) (fun c_9 => ?_)
    · exact absurd ⟨⟨by rw [nI_toInt (by omega)]; omega, by rw [nI_toInt (by omega)]; omega⟩, ⟨by rw [nI_toInt (by omega)]; omega, by rw [nI_toInt (by omega)]; omega⟩, hd⟩ (bI_e0.mp c_9)
    · refine mm_iload dX11_done_12 rfl ?_
      refine mm_i2l dX11_done_14 rfl ?_
      refine mm_lconst (x := 0) dX11_done_15 (by decide) ?_
      refine mm_ldc2 dX11_done_16 kX11_378 ?_
      refine mm_cS (Y1 := YX11_in) dX11_done_19 lX11_171 sX11_in (mX11_in (d + 9) h _ _ _) rfl rfl (by simp [Value.category]) ?_
      refine mm_if_ne 27 dX11_done_22 (by decide) (fun c_22 => ?_) (fun c_22 => ?_)
      · refine mm_aload_n dX11_done_27 rfl rfl ?_
        refine mm_iload_n dX11_done_28 rfl rfl ?_
        refine mm_iload_n dX11_done_29 rfl rfl ?_
        refine mm_iload_n dX11_done_30 rfl rfl ?_
        refine mm_iload dX11_done_31 rfl ?_
        refine mm_iload dX11_done_33 rfl ?_
        refine mm_cV (Y1 := YX11_pays) dX11_done_35 lX11_477 vX11_pays (M2) sh_165 rfl rfl (by simp [Value.category]) ?_
        refine mm_istore dX11_done_38 (by decide) rfl ?_
        refine mm_iload dX11_done_40 rfl ?_
        refine mm_bipush (x := (-2)) dX11_done_42 (by decide) ?_
        refine mm_icmp_eq 63 dX11_done_44 (by decide) (fun c_44 => ?_) (fun c_44 => ?_)
        · exact absurd ((o13_e i1).mp c_44) hf
        · refine mm_aload_n dX11_done_47 rfl rfl ?_
          refine mm_aload_n dX11_done_48 rfl rfl ?_
          refine mm_getI dX11_done_49 fX11_467 sh_165 rfl ?_
          refine mm_aload_n dX11_done_52 rfl rfl ?_
          refine mm_getI dX11_done_53 fX11_470 sh_165 rfl ?_
          refine mm_cast (st' := [.int (nI s.2.2), .int (nI s.2.1), .ref 165]) rfl (by rw [e5, e6]; rfl) rfl ?_
          refine mm_ior dX11_done_56 ?_
          refine mm_cV (Y1 := YX11_canFall) dX11_done_57 lX11_399 vX11_canFall (MC) sh_165 rfl rfl (by simp [Value.category]) ?_
          refine mm_if_ne 66 dX11_done_60 (by decide) (fun c_60 => ?_) (fun c_60 => ?_)
          · refine mm_aload_n dX11_done_66 rfl rfl ?_
            refine mm_aload_n dX11_done_67 rfl rfl ?_
            refine mm_getI dX11_done_68 fX11_467 sh_165 rfl ?_
            refine mm_aload_n dX11_done_71 rfl rfl ?_
            refine mm_getI dX11_done_72 fX11_470 sh_165 rfl ?_
            refine mm_cast (st' := [.int (nI s.2.2), .int (nI s.2.1), .ref 165]) rfl (by rw [e5, e6]; rfl) rfl ?_
            refine mm_ior dX11_done_75 ?_
            refine mm_cV (Y1 := YX11_fallen) dX11_done_76 lX11_402 vX11_fallen (MFa) sh_165 rfl rfl (by simp [Value.category]) ?_
            refine mm_iconst (x := 0) dX11_done_79 (by decide) ?_
            refine mm_istore dX11_done_80 (by decide) rfl ?_
            exact mm_cast (by rw [o13_n hf]; rfl) rfl rfl K
          · exact absurd c_60 hcan2
      · exact absurd (by rw [i64_toInt, li_0, li_9999]; exact hpr) (bI_e0.mp c_22)
  · obtain ⟨v1, v2, v3, v4, v5, v6⟩ := hV2
    have r180 : g4.1 180 = sp_hd (g2.1 180) s one other (mn A) := by rw [eg4]; dsimp only; rw [mm_row_s, n3 180 (by decide)]
    have r181 : g4.1 181 = sp_drop (g2.1 181) (nI s.2.1 ||| nI s.2.2) (mn A) := by rw [eg4]; dsimp only; rw [mm_row_n (by decide), eg3]; dsimp only; rw [mm_row_s]
    refine ⟨?_, ?_, ?_, ?_, fun c hc => ?_, fun c hc => ?_⟩
    · rw [n4 166 (by decide) (by decide), q1]; exact v1
    · rw [n4 166 (by decide) (by decide), q2]; exact v2
    · rw [n4 166 (by decide) (by decide), q3]; exact v3
    · rw [n4 166 (by decide) (by decide), q4]; exact v4
    · rw [q1] at hc
      obtain ⟨w1, w2, w3, w4, w5, w6⟩ := v5 c hc
      rw [n4 167 (by decide) (by decide), n4 168 (by decide) (by decide), n4 169 (by decide) (by decide), n4 170 (by decide) (by decide), q5 0 (by decide) (by decide), q5 1 (by decide) (by decide), q5 2 (by decide) (by decide), q5 3 (by decide) (by decide), r180, r181]
      refine ⟨w1, w2, w3, w4, ?_, ?_⟩
      · simp only [sp_hd, mdD, mr, if_true]
        rw [if_pos hc, w5]
        by_cases z1 : sp_bit (nI s.2.1) c = 1
        · have z2 := bit_disj (by omega) (by omega) (by omega) j4 z1
          rw [if_pos z1, if_neg (fun z => z2 z.2), if_pos ⟨hc, z1⟩]
        · rw [if_neg z1]
          by_cases z2 : sp_bit (nI s.2.2) c = 1
          · rw [if_pos z2, if_pos ⟨hc, z2⟩]
          · rw [if_neg z2, if_neg (fun z => z2 z.2), if_neg (fun z => z1 z.2)]; rfl
      · simp only [sp_drop, mdD, mr]
        rw [w6]; rfl
    · rw [q2] at hc
      rw [n4 171 (by decide) (by decide), n4 172 (by decide) (by decide), q5 6 (by decide) (by decide), q5 7 (by decide) (by decide)]
      exact v6 c hc
