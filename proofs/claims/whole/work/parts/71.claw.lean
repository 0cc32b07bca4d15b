/-! The class reads a law: values, sums. -/
/-- the class's reader of a law -/
def CS (B : Nat → Int32) (n : Nat) (h : mm_H) (r : Nat) (s : zl_S) : Prop := TX B n h s.1 0 ∧ h.1 18 2 = nI s.2.1 ∧ h.2.2 18 = 25 + 6 * r ∧ h.1 (25 + 6 * r) 1 = nI s.2.2.length ∧ (∀ k, k < s.2.2.length → h.1 (25 + 6 * r + 1) k = enc (s.2.2.getD k 0)) ∧ s.2.1 ≤ 60
/-- it has met a fault -/
def ER (B : Nat → Int32) (n : Nat) (h : mm_H) (r c : Nat) : Prop := (∃ pos, TX B n h pos c) ∧ ¬ c = 0 ∧ c < 4000 ∧ h.2.2 18 = 25 + 6 * r ∧ ∃ l, h.1 (25 + 6 * r) 1 = nI l ∧ l ≤ 400
def CR (B : Nat → Int32) (n : Nat) (h : mm_H) (r : Nat) (q : Except Nat zl_S) : Prop := match q with
  | .ok s => CS B n h r s
  | .error c => ER B n h r c
def pLw (r : Nat) : Nat → Bool := fun c => c == 4 || c == 18 || c == 25 + 6 * r || c == 25 + 6 * r + 1
def lw_fr (r : Nat) (h g : mm_H) : Prop := frm (pLw r) h g ∧ ∀ j, j ≠ 1 → g.1 (25 + 6 * r) j = h.1 (25 + 6 * r) j
theorem lw_fr.refl (r : Nat) (h : mm_H) : lw_fr r h h := ⟨frm.refl _ _, fun _ _ => rfl⟩
theorem lw_fr.trans {r : Nat} {h g k : mm_H} (a : lw_fr r h g) (b : lw_fr r g k) : lw_fr r h k := ⟨a.1.trans b.1, fun j hj => (b.2 j hj).trans (a.2 j hj)⟩
theorem lw_4 {r : Nat} {h g : mm_H} (e : frm (onep 4) h g) : lw_fr r h g := ⟨e.mono (fun c hc => by simp only [pLw, Bool.or_eq_false_iff] at hc; exact hc.1.1.1), fun j _ => by rw [e.i (by simp only [onep, beq_eq_false_iff_ne]; omega)]⟩
theorem CS_4 {B : Nat → Int32} {n r : Nat} {h g : mm_H} {s : zl_S} {pos : Nat} (S : CS B n h r s) (e : frm (onep 4) h g) (t : TX B n g pos 0) : CS B n g r (pos, s.2) := by
  obtain ⟨-, a2, a3, a4, a5, a6⟩ := S
  have o : ∀ c, c ≠ 4 → g.1 c = h.1 c := fun c hc => e.i (by simp only [onep, beq_eq_false_iff_ne]; exact hc)
  exact ⟨t, by rw [o 18 (by decide)]; exact a2, by rw [e.2]; exact a3, by rw [o _ (by omega)]; exact a4, fun k hk => by rw [o _ (by omega)]; exact a5 k hk, a6⟩
theorem ER_4 {B : Nat → Int32} {n r : Nat} {h g : mm_H} {s : zl_S} {pos c : Nat} (S : CS B n h r s) (hl : s.2.2.length ≤ 400) (e : frm (onep 4) h g) (t : TX B n g pos c) (c0 : ¬ c = 0) (c4 : c < 4000) : ER B n g r c := by
  obtain ⟨-, a2, a3, a4, a5, a6⟩ := S
  exact ⟨⟨pos, t⟩, c0, c4, by rw [e.2]; exact a3, _, by rw [e.i (by simp only [onep, beq_eq_false_iff_ne]; omega)]; exact a4, hl⟩
set_option maxRecDepth 100000 in
set_option maxHeartbeats 4000000 in
theorem mX3_addSign_y (d : Nat) (h : mm_H) (r : Nat) (hr : r < 6) (l : Nat) (hl : h.1 (25 + 6 * r) 1 = nI l) (hl4 : l < 400) (k : Nat) (hk0 : ¬ k = 0) (hk : k < 100) : mm_M d YX3_addSign [.ref (25 + 6 * r), .int (nI k)] h none (mm_up (mm_up h.1 ((25 + 6 * r) + 1) l (-(nI k))) (25 + 6 * r) 1 (nI (l + 1)), h.2.1, h.2.2) := by
  refine mm_M.of [some (.ref (25 + 6 * r)), some (.int (nI k))] rfl rfl (Nat.le_of_ble_eq_true rfl) ?_
  refine mm_iload_n dX3_addSign_0 rfl rfl ?_
  refine mm_if_eq 37 dX3_addSign_1 (by decide) (fun c_1 => ?_) (fun c_1 => ?_)
  · exact absurd ((nI_eq (b := 0) (by omega) (by omega)).mp c_1) hk0
  · refine mm_aload_n dX3_addSign_4 rfl rfl ?_
    refine mm_getI dX3_addSign_5 fX3_27 (law_i r hr).1 rfl ?_
    refine mm_aload_n dX3_addSign_8 rfl rfl ?_
    refine mm_getS dX3_addSign_9 fX3_9 (law_i r hr).1 rfl (law_i r hr).2.2.2.2.2.2.1 ?_
    refine mm_alen dX3_addSign_12 (Or.inl rfl) (law_i r hr).2.1 ?_
    refine mm_icmp_ge 37 dX3_addSign_13 (by decide) (fun c_13 => ?_) (fun c_13 => ?_)
    · exact absurd c_13 (by rw [hl]; exact nI_ge (b := 400) hl4 (by omega))
    · refine mm_aload_n dX3_addSign_16 rfl rfl ?_
      refine mm_getS dX3_addSign_17 fX3_9 (law_i r hr).1 rfl (law_i r hr).2.2.2.2.2.2.1 ?_
      refine mm_aload_n dX3_addSign_20 rfl rfl ?_
      refine mm_getI dX3_addSign_21 fX3_27 (law_i r hr).1 rfl ?_
      refine mm_iload_n dX3_addSign_24 rfl rfl ?_
      refine mm_ineg dX3_addSign_25 ?_
      refine mm_iast (l) dX3_addSign_26 (law_i r hr).2.1 hl (by omega) ?_
      refine mm_aload_n dX3_addSign_27 rfl rfl ?_
      refine mm_dup dX3_addSign_28 rfl ?_
      refine mm_getI dX3_addSign_29 fX3_27 (law_i r hr).1 rfl ?_
      refine mm_iconst (x := 1) dX3_addSign_32 (by decide) ?_
      refine mm_iadd dX3_addSign_33 ?_
      refine mm_putI dX3_addSign_34 fX3_27 (law_i r hr).1 rfl rfl rfl ?_
      exact mm_retE dX3_addSign_37 rfl (by dsimp only; rw [mm_up_n (by omega), hl, nI_succ])
set_option maxRecDepth 100000 in
set_option maxHeartbeats 4000000 in
theorem mX3_addNumber_y (d : Nat) (h : mm_H) (r : Nat) (hr : r < 6) (l : Nat) (hl : h.1 (25 + 6 * r) 1 = nI l) (hl4 : l < 400) (x : Int32) : mm_M d YX3_addNumber [.ref (25 + 6 * r), .int x] h none (mm_up (mm_up h.1 ((25 + 6 * r) + 1) l x) (25 + 6 * r) 1 (nI (l + 1)), h.2.1, h.2.2) := by
  refine mm_M.of [some (.ref (25 + 6 * r)), some (.int x)] rfl rfl (Nat.le_of_ble_eq_true rfl) ?_
  refine mm_aload_n dX3_addNumber_0 rfl rfl ?_
  refine mm_getI dX3_addNumber_1 fX3_27 (law_i r hr).1 rfl ?_
  refine mm_aload_n dX3_addNumber_4 rfl rfl ?_
  refine mm_getS dX3_addNumber_5 fX3_9 (law_i r hr).1 rfl (law_i r hr).2.2.2.2.2.2.1 ?_
  refine mm_alen dX3_addNumber_8 (Or.inl rfl) (law_i r hr).2.1 ?_
  refine mm_icmp_ge 32 dX3_addNumber_9 (by decide) (fun c_9 => ?_) (fun c_9 => ?_)
  · exact absurd c_9 (by rw [hl]; exact nI_ge (b := 400) hl4 (by omega))
  · refine mm_aload_n dX3_addNumber_12 rfl rfl ?_
    refine mm_getS dX3_addNumber_13 fX3_9 (law_i r hr).1 rfl (law_i r hr).2.2.2.2.2.2.1 ?_
    refine mm_aload_n dX3_addNumber_16 rfl rfl ?_
    refine mm_getI dX3_addNumber_17 fX3_27 (law_i r hr).1 rfl ?_
    refine mm_iload_n dX3_addNumber_20 rfl rfl ?_
    refine mm_iast (l) dX3_addNumber_21 (law_i r hr).2.1 hl (by omega) ?_
    refine mm_aload_n dX3_addNumber_22 rfl rfl ?_
    refine mm_dup dX3_addNumber_23 rfl ?_
    refine mm_getI dX3_addNumber_24 fX3_27 (law_i r hr).1 rfl ?_
    refine mm_iconst (x := 1) dX3_addNumber_27 (by decide) ?_
    refine mm_iadd dX3_addNumber_28 ?_
    refine mm_putI dX3_addNumber_29 fX3_27 (law_i r hr).1 rfl rfl rfl ?_
    exact mm_retE dX3_addNumber_32 rfl (by dsimp only; rw [mm_up_n (by omega), hl, nI_succ])
set_option maxRecDepth 100000 in
set_option maxHeartbeats 4000000 in
theorem mX3_addSign_0 (d : Nat) (h : mm_H) (r : Nat) (hr : r < 6) : mm_M d YX3_addSign [.ref (25 + 6 * r), .int 0] h none h := by
  refine mm_M.of [some (.ref (25 + 6 * r)), some (.int 0)] rfl rfl (Nat.le_of_ble_eq_true rfl) ?_
  refine mm_iload_n dX3_addSign_0 rfl rfl ?_
  refine mm_if_eq 37 dX3_addSign_1 (by decide) (fun c_1 => ?_) (fun c_1 => ?_)
  · exact mm_retE dX3_addSign_37 rfl rfl
  · exact absurd rfl c_1
set_option maxRecDepth 100000 in
set_option maxHeartbeats 4000000 in
theorem mX3_addSign_e (d : Nat) (h : mm_H) (r : Nat) (hr : r < 6) (l : Nat) (hl : h.1 (25 + 6 * r) 1 = nI l) (hl4 : l ≤ 400) (k : Nat) (hk : k < 100) : ∃ g l2, mm_M d YX3_addSign [.ref (25 + 6 * r), .int (nI k)] h none g ∧ lw_fr r h g ∧ g.1 (25 + 6 * r) 1 = nI l2 ∧ l2 ≤ 400 ∧ frm (fun c => c == (25 + 6 * r) || c == (25 + 6 * r) + 1) h g := by
  by_cases k0 : k = 0
  · subst k0
    exact ⟨h, l, mX3_addSign_0 d h r hr, lw_fr.refl r h, hl, hl4, frm.refl _ _⟩
  · by_cases h4 : l < 400
    · refine ⟨_, l + 1, mX3_addSign_y d h r hr l hl h4 k k0 hk, ⟨((frm.refl _ h).up (c := (25 + 6 * r) + 1) (by simp [pLw])).up (c := (25 + 6 * r)) (by simp [pLw]), fun j hj => by dsimp only; rw [mm_up_k hj, mm_up_n (by omega)]⟩, by dsimp only; rw [mm_up_e], h4, ((frm.refl _ h).up (c := (25 + 6 * r) + 1) (by simp)).up (c := (25 + 6 * r)) (by simp)⟩
    · refine ⟨h, l, ?_, lw_fr.refl r h, hl, hl4, frm.refl _ _⟩
      refine mm_M.of [some (.ref (25 + 6 * r)), some (.int (nI k))] rfl rfl (Nat.le_of_ble_eq_true rfl) ?_
      refine mm_iload_n dX3_addSign_0 rfl rfl ?_
      refine mm_if_eq 37 dX3_addSign_1 (by decide) (fun c_1 => ?_) (fun c_1 => ?_)
      · exact absurd ((nI_eq (b := 0) (by omega) (by omega)).mp c_1) k0
      · refine mm_aload_n dX3_addSign_4 rfl rfl ?_
        refine mm_getI dX3_addSign_5 fX3_27 (law_i r hr).1 rfl ?_
        refine mm_aload_n dX3_addSign_8 rfl rfl ?_
        refine mm_getS dX3_addSign_9 fX3_9 (law_i r hr).1 rfl (law_i r hr).2.2.2.2.2.2.1 ?_
        refine mm_alen dX3_addSign_12 (Or.inl rfl) (law_i r hr).2.1 ?_
        refine mm_icmp_ge 37 dX3_addSign_13 (by decide) (fun c_13 => ?_) (fun c_13 => ?_)
        · exact mm_retE dX3_addSign_37 rfl rfl
        · exact absurd (by rw [hl]; exact nI_le (a := 400) (by omega) (by omega)) c_13
/-- a token written down -/
theorem CS_em {B : Nat → Int32} {n r : Nat} (hr : r < 6) {h : mm_H} {s : zl_S} (S : CS B n h r s) {x : Int32} {t : Nat} (hx : x = enc t) : CS B n (mm_up (mm_up h.1 ((25 + 6 * r) + 1) s.2.2.length x) (25 + 6 * r) 1 (nI (s.2.2.length + 1)), h.2.1, h.2.2) r (s.1, s.2.1, s.2.2 ++ [t]) ∧ lw_fr r h (mm_up (mm_up h.1 ((25 + 6 * r) + 1) s.2.2.length x) (25 + 6 * r) 1 (nI (s.2.2.length + 1)), h.2.1, h.2.2) := by
  obtain ⟨a1, a2, a3, a4, a5, a6⟩ := S
  refine ⟨⟨TX_f (p := fun c => c == (25 + 6 * r) || c == (25 + 6 * r) + 1) a1 (((frm.refl _ h).up (c := (25 + 6 * r) + 1) (by simp)).up (c := (25 + 6 * r)) (by simp)) (by refine ⟨?_, ?_, ?_, ?_⟩ <;> (simp only [Bool.or_eq_false_iff, beq_eq_false_iff_ne]; omega)), by dsimp only; rw [mm_up_n (by omega), mm_up_n (by omega)]; exact a2, a3, by dsimp only; rw [mm_up_e, List.length_append]; rfl, fun k hk => ?_, a6⟩, ⟨((frm.refl _ h).up (c := (25 + 6 * r) + 1) (by simp [pLw])).up (c := (25 + 6 * r)) (by simp [pLw]), fun j hj => by dsimp only; rw [mm_up_k hj, mm_up_n (by omega)]⟩⟩
  dsimp only at hk ⊢
  rw [List.length_append] at hk
  simp only [List.length_cons, List.length_nil] at hk
  rw [mm_up_n (by omega)]
  by_cases z : k = s.2.2.length
  · rw [z, mm_up_e, hx, List.getD_eq_getElem?_getD, List.getElem?_append_right (Nat.le_refl _), Nat.sub_self]; rfl
  · rw [mm_up_k z, a5 k (by omega), List.getD_eq_getElem?_getD, List.getD_eq_getElem?_getD, List.getElem?_append_left (by omega)]
theorem CS_v {B : Nat → Int32} {n r : Nat} (hr : r < 6) {h : mm_H} {s : zl_S} (S : CS B n h r s) (hv : s.2.1 < 60) : CS B n (mm_up h.1 18 2 (nI (s.2.1 + 1)), h.2.1, h.2.2) r (s.1, s.2.1 + 1, s.2.2) ∧ lw_fr r h (mm_up h.1 18 2 (nI (s.2.1 + 1)), h.2.1, h.2.2) := by
  obtain ⟨a1, a2, a3, a4, a5, a6⟩ := S
  exact ⟨⟨TX_f a1 ((frm.refl (onep 18) h).up (c := 18) rfl) ⟨rfl, rfl, rfl, rfl⟩, by dsimp only; rw [mm_up_e], a3, by dsimp only; rw [mm_up_n (by omega)]; exact a4, fun k hk => by dsimp only; rw [mm_up_n (by omega)]; exact a5 k hk, hv⟩, ⟨(frm.refl _ h).up (c := 18) (by simp [pLw]), fun j _ => by dsimp only; rw [mm_up_n (by omega)]⟩⟩
theorem num_ex {B : Nat → Int32} {n p : Nat} (h : 0 ≤ num B n p) : ∃ q, q < 100000 ∧ num B n p = nI q := by
  unfold num at h ⊢
  by_cases z : n ≤ p
  · rw [if_pos z]; exact ⟨0, by decide, rfl⟩
  · rw [if_neg z] at h ⊢
    by_cases w : isD (B p)
    · rw [if_pos w] at h ⊢
      by_cases y : 5 < en B n p - p
      · rw [if_pos y] at h; exact absurd h (by decide)
      · rw [if_neg y]
        have all := rE_all (P := bD) (B := B) (n := n) (n - p) p (by omega)
        rw [← en_D w] at all
        have hen := en_bd (B := B) (show p < n by omega)
        obtain ⟨v, v1, v2⟩ := dgv_bd (B := B) (p := p) (en B n p - p) (by omega) (fun i hi => of_decide_eq_true (all (p + i) (by omega) (by omega)))
        exact ⟨v, Nat.lt_of_lt_of_le v1 (Nat.le_trans (Nat.pow_le_pow_right (by decide) (show en B n p - p ≤ 5 by omega)) (by decide)), v2⟩
    · rw [if_neg w]; exact ⟨0, by decide, rfl⟩
set_option maxRecDepth 100000 in
set_option maxHeartbeats 4000000 in
theorem mX4_readValue (d : Nat) (h : mm_H) (B : Nat → Int32) (n : Nat) (hn : n ≤ 400) (r : Nat) (hr : r < 6) (s : zl_S) (S : CS B n h r s) (hl : s.2.2.length < 400) : ∃ g, mm_M (d + 1) YX4_readValue [.ref 18] h none g ∧ lw_fr r h g ∧ CR B n g r (zl_v B n s) := by
  have S0 := S
  obtain ⟨t, a2, a3, a4, a5, a6⟩ := S
  have hle := t.le
  have kb := kd_lt B n s.1
  have M1 := mX8_kind d h B n s.1 0 t
  have M2 := mX8_number d h B n s.1 0 t
  have fl : ∀ w, w < 8 → ∃ g, mm_M d YX8_fail [.ref 4, .int (nI w)] h none g ∧ lw_fr r h g ∧ ER B n g r (1 + 8 * s.1 + w) := fun w hw => by
    obtain ⟨g, Fm, Ft, Ff⟩ := mX8_fail d h B n s.1 0 t hn (by decide) w hw
    unfold flt at Ft
    rw [if_pos rfl] at Ft
    exact ⟨g, Fm, lw_4 Ff, ER_4 S0 (by omega) Ff Ft (by omega) (by omega)⟩
  obtain ⟨f0, F0m, F0f, F0e⟩ := fl 0 (by decide)
  obtain ⟨f1, F1m, F1f, F1e⟩ := fl 1 (by decide)
  obtain ⟨f3, F3m, F3f, F3e⟩ := fl 3 (by decide)
  have ENT : ∀ {v g}, mm_R (d + 1) YX4_readValue 0 [some (.ref 18), none, none] [] h v g → mm_M (d + 1) YX4_readValue [.ref 18] h v g := fun k => mm_M.of _ rfl rfl (Nat.le_of_ble_eq_true rfl) k
  by_cases c1 : ¬ (kd B n s.1 = 2 ∨ (16 ≤ kd B n s.1 ∧ kd B n s.1 ≤ 25))
  · have e : zl_v B n s = .error (1 + 8 * s.1) := by unfold zl_v; rw [if_pos c1]
    rw [e]
    refine ⟨f0, ENT ?_, F0f, F0e⟩
    refine mm_aload_n dX4_readValue_0 rfl rfl ?_
    refine mm_getS dX4_readValue_1 fX4_9 sh_18 rfl gr_18_0 ?_
    refine mm_cV (Y1 := YX8_kind) dX4_readValue_4 lX4_37 vX8_kind (M1) sh_4 rfl rfl (by simp [Value.category]) ?_
    refine mm_istore_n dX4_readValue_7 rfl (by decide) rfl ?_
    refine mm_iload_n dX4_readValue_8 rfl rfl ?_
    refine mm_iconst (x := 2) dX4_readValue_9 (by decide) ?_
    refine mm_icmp_ne 17 dX4_readValue_10 (by decide) (fun c_10 => ?_) (fun c_10 => ?_)
    · refine mm_iconst (x := 0) dX4_readValue_17 (by decide) ?_
      refine mm_istore_n dX4_readValue_18 rfl (by decide) rfl ?_
      refine mm_iload_n dX4_readValue_19 rfl rfl ?_
      refine mm_if_ne 46 dX4_readValue_20 (by decide) (fun c_20 => ?_) (fun c_20 => ?_)
      · exact absurd c_20 (by decide)
      · refine mm_iload_n dX4_readValue_23 rfl rfl ?_
        refine mm_bipush (x := 16) dX4_readValue_24 (by decide) ?_
        refine mm_icmp_lt 35 dX4_readValue_26 (by decide) (fun c_26 => ?_) (fun c_26 => ?_)
        · refine mm_aload_n dX4_readValue_35 rfl rfl ?_
          refine mm_getS dX4_readValue_36 fX4_9 sh_18 rfl gr_18_0 ?_
          refine mm_iconst (x := 0) dX4_readValue_39 (by decide) ?_
          refine mm_cV (Y1 := YX8_fail) dX4_readValue_40 lX4_44 vX8_fail (F0m) sh_4 rfl rfl (by simp [Value.category]) ?_
          refine mm_goto 137 dX4_readValue_43 (by decide) ?_
          exact mm_retE dX4_readValue_137 rfl rfl
        · refine mm_iload_n dX4_readValue_29 rfl rfl ?_
          refine mm_bipush (x := 25) dX4_readValue_30 (by decide) ?_
          refine mm_icmp_le 46 dX4_readValue_32 (by decide) (fun c_32 => ?_) (fun c_32 => ?_)
          · exact absurd (Or.inr ⟨Nat.le_of_not_lt (fun z => c_26 (nI_lt (b := 16) z (by omega))), Nat.le_of_not_lt (fun z => absurd c_32 (nI_ge (a := 25) z (by omega)))⟩) c1
          · refine mm_aload_n dX4_readValue_35 rfl rfl ?_
            refine mm_getS dX4_readValue_36 fX4_9 sh_18 rfl gr_18_0 ?_
            refine mm_iconst (x := 0) dX4_readValue_39 (by decide) ?_
            refine mm_cV (Y1 := YX8_fail) dX4_readValue_40 lX4_44 vX8_fail (F0m) sh_4 rfl rfl (by simp [Value.category]) ?_
            refine mm_goto 137 dX4_readValue_43 (by decide) ?_
            exact mm_retE dX4_readValue_137 rfl rfl
    · exact absurd (Or.inl ((nI_eq (b := 2) (by omega) (by omega)).mp c_10)) c1
  · by_cases c2 : kd B n s.1 = 2 ∧ num B n s.1 < 0
    · have e : zl_v B n s = .error (1 + 8 * s.1 + 1) := by unfold zl_v; rw [if_neg c1, if_pos c2]
      rw [e]
      refine ⟨f1, ENT ?_, F1f, F1e⟩
      refine mm_aload_n dX4_readValue_0 rfl rfl ?_
      refine mm_getS dX4_readValue_1 fX4_9 sh_18 rfl gr_18_0 ?_
      refine mm_cV (Y1 := YX8_kind) dX4_readValue_4 lX4_37 vX8_kind (M1) sh_4 rfl rfl (by simp [Value.category]) ?_
      refine mm_istore_n dX4_readValue_7 rfl (by decide) rfl ?_
      refine mm_iload_n dX4_readValue_8 rfl rfl ?_
      refine mm_iconst (x := 2) dX4_readValue_9 (by decide) ?_
      refine mm_icmp_ne 17 dX4_readValue_10 (by decide) (fun c_10 => ?_) (fun c_10 => ?_)
      · exact absurd (by rw [c2.1]; rfl) c_10
      · refine mm_iconst (x := 1) dX4_readValue_13 (by decide) ?_
        refine mm_goto 18 dX4_readValue_14 (by decide) ?_
        refine mm_istore_n dX4_readValue_18 rfl (by decide) rfl ?_
        refine mm_iload_n dX4_readValue_19 rfl rfl ?_
        refine mm_if_ne 46 dX4_readValue_20 (by decide) (fun c_20 => ?_) (fun c_20 => ?_)
        · refine mm_iload_n dX4_readValue_46 rfl rfl ?_
          refine mm_if_eq 71 dX4_readValue_47 (by decide) (fun c_47 => ?_) (fun c_47 => ?_)
          · exact absurd c_47 (by decide)
          · refine mm_aload_n dX4_readValue_50 rfl rfl ?_
            refine mm_getS dX4_readValue_51 fX4_9 sh_18 rfl gr_18_0 ?_
            refine mm_cV (Y1 := YX8_number) dX4_readValue_54 lX4_71 vX8_number (M2) sh_4 rfl rfl (by simp [Value.category]) ?_
            refine mm_if_ge 71 dX4_readValue_57 (by decide) (fun c_57 => ?_) (fun c_57 => ?_)
            · exact absurd c2.2 (Int32.not_lt.mpr c_57)
            · refine mm_aload_n dX4_readValue_60 rfl rfl ?_
              refine mm_getS dX4_readValue_61 fX4_9 sh_18 rfl gr_18_0 ?_
              refine mm_iconst (x := 1) dX4_readValue_64 (by decide) ?_
              refine mm_cV (Y1 := YX8_fail) dX4_readValue_65 lX4_44 vX8_fail (F1m) sh_4 rfl rfl (by simp [Value.category]) ?_
              refine mm_goto 137 dX4_readValue_68 (by decide) ?_
              exact mm_retE dX4_readValue_137 rfl rfl
        · exact absurd c_20 (by decide)
    · by_cases c3 : 60 ≤ s.2.1
      · have e : zl_v B n s = .error (1 + 8 * s.1 + 3) := by unfold zl_v; rw [if_neg c1, if_neg c2, if_pos c3]
        rw [e]
        refine ⟨f3, ENT ?_, F3f, F3e⟩
        refine mm_aload_n dX4_readValue_0 rfl rfl ?_
        refine mm_getS dX4_readValue_1 fX4_9 sh_18 rfl gr_18_0 ?_
        refine mm_cV (Y1 := YX8_kind) dX4_readValue_4 lX4_37 vX8_kind (M1) sh_4 rfl rfl (by simp [Value.category]) ?_
        refine mm_istore_n dX4_readValue_7 rfl (by decide) rfl ?_
        refine mm_iload_n dX4_readValue_8 rfl rfl ?_
        refine mm_iconst (x := 2) dX4_readValue_9 (by decide) ?_
        refine mm_icmp_ne 17 dX4_readValue_10 (by decide) (fun c_10 => ?_) (fun c_10 => ?_)
        · refine mm_iconst (x := 0) dX4_readValue_17 (by decide) ?_
          refine mm_istore_n dX4_readValue_18 rfl (by decide) rfl ?_
          refine mm_iload_n dX4_readValue_19 rfl rfl ?_
          refine mm_if_ne 46 dX4_readValue_20 (by decide) (fun c_20 => ?_) (fun c_20 => ?_)
          · exact absurd c_20 (by decide)
          · refine mm_iload_n dX4_readValue_23 rfl rfl ?_
            refine mm_bipush (x := 16) dX4_readValue_24 (by decide) ?_
            refine mm_icmp_lt 35 dX4_readValue_26 (by decide) (fun c_26 => ?_) (fun c_26 => ?_)
            · exfalso; have q := Decidable.not_not.mp c1; rcases q with q | q
              · exact c_10 (by rw [q]; rfl)
              · exact absurd c_26 (nI_nlt (b := 16) q.1 (by omega))
            · refine mm_iload_n dX4_readValue_29 rfl rfl ?_
              refine mm_bipush (x := 25) dX4_readValue_30 (by decide) ?_
              refine mm_icmp_le 46 dX4_readValue_32 (by decide) (fun c_32 => ?_) (fun c_32 => ?_)
              · refine mm_iload_n dX4_readValue_46 rfl rfl ?_
                refine mm_if_eq 71 dX4_readValue_47 (by decide) (fun c_47 => ?_) (fun c_47 => ?_)
                · refine mm_aload_n dX4_readValue_71 rfl rfl ?_
                  refine mm_getI dX4_readValue_72 fX4_25 sh_18 rfl ?_
                  refine mm_bipush (x := 60) dX4_readValue_75 (by decide) ?_
                  refine mm_icmp_lt 91 dX4_readValue_77 (by decide) (fun c_77 => ?_) (fun c_77 => ?_)
                  · exact absurd (by rw [a2] at c_77; exact c_77) (nI_nlt (b := 60) c3 (by omega))
                  · refine mm_aload_n dX4_readValue_80 rfl rfl ?_
                    refine mm_getS dX4_readValue_81 fX4_9 sh_18 rfl gr_18_0 ?_
                    refine mm_iconst (x := 3) dX4_readValue_84 (by decide) ?_
                    refine mm_cV (Y1 := YX8_fail) dX4_readValue_85 lX4_44 vX8_fail (F3m) sh_4 rfl rfl (by simp [Value.category]) ?_
                    refine mm_goto 137 dX4_readValue_88 (by decide) ?_
                    exact mm_retE dX4_readValue_137 rfl rfl
                · exact absurd c_47 (by decide)
              · exfalso; have q := Decidable.not_not.mp c1; rcases q with q | q
                · exact c_10 (by rw [q]; rfl)
                · exact c_32 (nI_le (b := 25) q.2 (by omega))
        · refine mm_iconst (x := 1) dX4_readValue_13 (by decide) ?_
          refine mm_goto 18 dX4_readValue_14 (by decide) ?_
          refine mm_istore_n dX4_readValue_18 rfl (by decide) rfl ?_
          refine mm_iload_n dX4_readValue_19 rfl rfl ?_
          refine mm_if_ne 46 dX4_readValue_20 (by decide) (fun c_20 => ?_) (fun c_20 => ?_)
          · refine mm_iload_n dX4_readValue_46 rfl rfl ?_
            refine mm_if_eq 71 dX4_readValue_47 (by decide) (fun c_47 => ?_) (fun c_47 => ?_)
            · exact absurd c_47 (by decide)
            · refine mm_aload_n dX4_readValue_50 rfl rfl ?_
              refine mm_getS dX4_readValue_51 fX4_9 sh_18 rfl gr_18_0 ?_
              refine mm_cV (Y1 := YX8_number) dX4_readValue_54 lX4_71 vX8_number (M2) sh_4 rfl rfl (by simp [Value.category]) ?_
              refine mm_if_ge 71 dX4_readValue_57 (by decide) (fun c_57 => ?_) (fun c_57 => ?_)
              · refine mm_aload_n dX4_readValue_71 rfl rfl ?_
                refine mm_getI dX4_readValue_72 fX4_25 sh_18 rfl ?_
                refine mm_bipush (x := 60) dX4_readValue_75 (by decide) ?_
                refine mm_icmp_lt 91 dX4_readValue_77 (by decide) (fun c_77 => ?_) (fun c_77 => ?_)
                · exact absurd (by rw [a2] at c_77; exact c_77) (nI_nlt (b := 60) c3 (by omega))
                · refine mm_aload_n dX4_readValue_80 rfl rfl ?_
                  refine mm_getS dX4_readValue_81 fX4_9 sh_18 rfl gr_18_0 ?_
                  refine mm_iconst (x := 3) dX4_readValue_84 (by decide) ?_
                  refine mm_cV (Y1 := YX8_fail) dX4_readValue_85 lX4_44 vX8_fail (F3m) sh_4 rfl rfl (by simp [Value.category]) ?_
                  refine mm_goto 137 dX4_readValue_88 (by decide) ?_
                  exact mm_retE dX4_readValue_137 rfl rfl
              · exact absurd ⟨(nI_eq (b := 2) (by omega) (by omega)).mp c_10, Int32.not_le.mp c_57⟩ c2
          · exact absurd c_20 (by decide)
      · have e : zl_v B n s = .ok (nx B n s.1, s.2.1 + 1, s.2.2 ++ [if kd B n s.1 = 2 then (num B n s.1).toNatClampNeg else 100000 + kd B n s.1]) := by unfold zl_v; rw [if_neg c1, if_neg c2, if_neg c3]
        rw [e]
        obtain ⟨g1, eg1⟩ : ∃ g : mm_H, g = (mm_up h.1 18 2 (nI (s.2.1 + 1)), h.2.1, h.2.2) := ⟨_, rfl⟩
        obtain ⟨S1, f1⟩ := CS_v hr S0 (by omega)
        rw [← eg1] at S1 f1
        have M2b := mX8_number d g1 B n s.1 0 S1.1
        by_cases k2 : kd B n s.1 = 2
        · rw [if_pos k2]
          obtain ⟨q, hq1, hq2⟩ := num_ex (B := B) (n := n) (p := s.1) (Int32.not_lt.mp (fun z => c2 ⟨k2, z⟩))
          have eq : (num B n s.1).toNatClampNeg = q := by rw [hq2]; exact nI_clamp (by omega)
          have exq : num B n s.1 = enc q := by rw [hq2]; unfold enc; rw [if_pos hq1]
          obtain ⟨S2, f2⟩ := CS_em hr S1 exq
          obtain ⟨g2, eg2⟩ : ∃ g : mm_H, g = (mm_up (mm_up g1.1 ((25 + 6 * r) + 1) s.2.2.length (num B n s.1)) (25 + 6 * r) 1 (nI (s.2.2.length + 1)), g1.2.1, g1.2.2) := ⟨_, rfl⟩
          have MA := mX3_addNumber_y d g1 r hr s.2.2.length S1.2.2.2.1 hl (num B n s.1)
          rw [← eg2] at MA
          replace S2 : CS B n g2 r (s.1, s.2.1 + 1, s.2.2 ++ [q]) := by rw [eg2]; exact S2
          replace f2 : lw_fr r g1 g2 := by rw [eg2]; exact f2
          obtain ⟨g3, M3, t3, f3⟩ := mX8_step d g2 B n s.1 0 S2.1
          rw [eq]
          refine ⟨g3, ENT ?_, (f1.trans f2).trans (lw_4 f3), CS_4 S2 f3 t3⟩
          refine mm_aload_n dX4_readValue_0 rfl rfl ?_
          refine mm_getS dX4_readValue_1 fX4_9 sh_18 rfl gr_18_0 ?_
          refine mm_cV (Y1 := YX8_kind) dX4_readValue_4 lX4_37 vX8_kind (M1) sh_4 rfl rfl (by simp [Value.category]) ?_
          refine mm_istore_n dX4_readValue_7 rfl (by decide) rfl ?_
          refine mm_iload_n dX4_readValue_8 rfl rfl ?_
          refine mm_iconst (x := 2) dX4_readValue_9 (by decide) ?_
          refine mm_icmp_ne 17 dX4_readValue_10 (by decide) (fun c_10 => ?_) (fun c_10 => ?_)
          · exact absurd (by rw [k2]; rfl) c_10
          · refine mm_iconst (x := 1) dX4_readValue_13 (by decide) ?_
            refine mm_goto 18 dX4_readValue_14 (by decide) ?_
            refine mm_istore_n dX4_readValue_18 rfl (by decide) rfl ?_
            refine mm_iload_n dX4_readValue_19 rfl rfl ?_
            refine mm_if_ne 46 dX4_readValue_20 (by decide) (fun c_20 => ?_) (fun c_20 => ?_)
            · refine mm_iload_n dX4_readValue_46 rfl rfl ?_
              refine mm_if_eq 71 dX4_readValue_47 (by decide) (fun c_47 => ?_) (fun c_47 => ?_)
              · exact absurd c_47 (by decide)
              · refine mm_aload_n dX4_readValue_50 rfl rfl ?_
                refine mm_getS dX4_readValue_51 fX4_9 sh_18 rfl gr_18_0 ?_
                refine mm_cV (Y1 := YX8_number) dX4_readValue_54 lX4_71 vX8_number (M2) sh_4 rfl rfl (by simp [Value.category]) ?_
                refine mm_if_ge 71 dX4_readValue_57 (by decide) (fun c_57 => ?_) (fun c_57 => ?_)
                · refine mm_aload_n dX4_readValue_71 rfl rfl ?_
                  refine mm_getI dX4_readValue_72 fX4_25 sh_18 rfl ?_
                  refine mm_bipush (x := 60) dX4_readValue_75 (by decide) ?_
                  refine mm_icmp_lt 91 dX4_readValue_77 (by decide) (fun c_77 => ?_) (fun c_77 => ?_)
                  · refine mm_aload_n dX4_readValue_91 rfl rfl ?_
                    refine mm_dup dX4_readValue_92 rfl ?_
                    refine mm_getI dX4_readValue_93 fX4_25 sh_18 rfl ?_
                    refine mm_iconst (x := 1) dX4_readValue_96 (by decide) ?_
                    refine mm_iadd dX4_readValue_97 ?_
                    refine mm_putI dX4_readValue_98 fX4_25 sh_18 rfl rfl rfl ?_
                    refine mm_cast rfl rfl (show _ = g1 by rw [eg1, a2, nI_succ]) ?_
                    refine mm_iload_n dX4_readValue_101 rfl rfl ?_
                    refine mm_if_eq 122 dX4_readValue_102 (by decide) (fun c_102 => ?_) (fun c_102 => ?_)
                    · exact absurd c_102 (by decide)
                    · refine mm_aload_n dX4_readValue_105 rfl rfl ?_
                      refine mm_getR dX4_readValue_106 fX4_18 sh_18 rfl S1.2.2.1 ?_
                      refine mm_aload_n dX4_readValue_109 rfl rfl ?_
                      refine mm_getS dX4_readValue_110 fX4_9 sh_18 rfl gr_18_0 ?_
                      refine mm_cV (Y1 := YX8_number) dX4_readValue_113 lX4_71 vX8_number (M2b) sh_4 rfl rfl (by simp [Value.category]) ?_
                      refine mm_cV (Y1 := YX3_addNumber) dX4_readValue_116 lX4_74 vX3_addNumber (MA) (law_i r hr).1 rfl rfl (by simp [Value.category]) ?_
                      refine mm_goto 130 dX4_readValue_119 (by decide) ?_
                      refine mm_aload_n dX4_readValue_130 rfl rfl ?_
                      refine mm_getS dX4_readValue_131 fX4_9 sh_18 rfl gr_18_0 ?_
                      refine mm_cV (Y1 := YX8_step) dX4_readValue_134 lX4_41 vX8_step (M3) sh_4 rfl rfl (by simp [Value.category]) ?_
                      exact mm_retE dX4_readValue_137 rfl rfl
                  · exact absurd (by rw [a2]; exact nI_lt (b := 60) (by omega) (by omega)) c_77
                · exact absurd ⟨(nI_eq (b := 2) (by omega) (by omega)).mp c_10, Int32.not_le.mp c_57⟩ c2
            · exact absurd c_20 (by decide)
        · rw [if_neg k2]
          have q := (Decidable.not_not.mp c1).resolve_left k2
          have exq : -(nI (kd B n s.1)) = enc (100000 + kd B n s.1) := by unfold enc; rw [if_neg (by omega), show 100000 + kd B n s.1 - 100000 = kd B n s.1 by omega]
          obtain ⟨S2, f2⟩ := CS_em hr S1 exq
          obtain ⟨g2, eg2⟩ : ∃ g : mm_H, g = (mm_up (mm_up g1.1 ((25 + 6 * r) + 1) s.2.2.length (-(nI (kd B n s.1)))) (25 + 6 * r) 1 (nI (s.2.2.length + 1)), g1.2.1, g1.2.2) := ⟨_, rfl⟩
          have MA := mX3_addSign_y d g1 r hr s.2.2.length S1.2.2.2.1 hl (kd B n s.1) (by omega) kb
          rw [← eg2] at MA
          replace S2 : CS B n g2 r (s.1, s.2.1 + 1, s.2.2 ++ [100000 + kd B n s.1]) := by rw [eg2]; exact S2
          replace f2 : lw_fr r g1 g2 := by rw [eg2]; exact f2
          obtain ⟨g3, M3, t3, f3⟩ := mX8_step d g2 B n s.1 0 S2.1
          refine ⟨g3, ENT ?_, (f1.trans f2).trans (lw_4 f3), CS_4 S2 f3 t3⟩
          refine mm_aload_n dX4_readValue_0 rfl rfl ?_
          refine mm_getS dX4_readValue_1 fX4_9 sh_18 rfl gr_18_0 ?_
          refine mm_cV (Y1 := YX8_kind) dX4_readValue_4 lX4_37 vX8_kind (M1) sh_4 rfl rfl (by simp [Value.category]) ?_
          refine mm_istore_n dX4_readValue_7 rfl (by decide) rfl ?_
          refine mm_iload_n dX4_readValue_8 rfl rfl ?_
          refine mm_iconst (x := 2) dX4_readValue_9 (by decide) ?_
          refine mm_icmp_ne 17 dX4_readValue_10 (by decide) (fun c_10 => ?_) (fun c_10 => ?_)
          · refine mm_iconst (x := 0) dX4_readValue_17 (by decide) ?_
            refine mm_istore_n dX4_readValue_18 rfl (by decide) rfl ?_
            refine mm_iload_n dX4_readValue_19 rfl rfl ?_
            refine mm_if_ne 46 dX4_readValue_20 (by decide) (fun c_20 => ?_) (fun c_20 => ?_)
            · exact absurd c_20 (by decide)
            · refine mm_iload_n dX4_readValue_23 rfl rfl ?_
              refine mm_bipush (x := 16) dX4_readValue_24 (by decide) ?_
              refine mm_icmp_lt 35 dX4_readValue_26 (by decide) (fun c_26 => ?_) (fun c_26 => ?_)
              · exfalso; have q := Decidable.not_not.mp c1; rcases q with q | q
                · exact c_10 (by rw [q]; rfl)
                · exact absurd c_26 (nI_nlt (b := 16) q.1 (by omega))
              · refine mm_iload_n dX4_readValue_29 rfl rfl ?_
                refine mm_bipush (x := 25) dX4_readValue_30 (by decide) ?_
                refine mm_icmp_le 46 dX4_readValue_32 (by decide) (fun c_32 => ?_) (fun c_32 => ?_)
                · refine mm_iload_n dX4_readValue_46 rfl rfl ?_
                  refine mm_if_eq 71 dX4_readValue_47 (by decide) (fun c_47 => ?_) (fun c_47 => ?_)
                  · refine mm_aload_n dX4_readValue_71 rfl rfl ?_
                    refine mm_getI dX4_readValue_72 fX4_25 sh_18 rfl ?_
                    refine mm_bipush (x := 60) dX4_readValue_75 (by decide) ?_
                    refine mm_icmp_lt 91 dX4_readValue_77 (by decide) (fun c_77 => ?_) (fun c_77 => ?_)
                    · refine mm_aload_n dX4_readValue_91 rfl rfl ?_
                      refine mm_dup dX4_readValue_92 rfl ?_
                      refine mm_getI dX4_readValue_93 fX4_25 sh_18 rfl ?_
                      refine mm_iconst (x := 1) dX4_readValue_96 (by decide) ?_
                      refine mm_iadd dX4_readValue_97 ?_
                      refine mm_putI dX4_readValue_98 fX4_25 sh_18 rfl rfl rfl ?_
                      refine mm_cast rfl rfl (show _ = g1 by rw [eg1, a2, nI_succ]) ?_
                      refine mm_iload_n dX4_readValue_101 rfl rfl ?_
                      refine mm_if_eq 122 dX4_readValue_102 (by decide) (fun c_102 => ?_) (fun c_102 => ?_)
                      · refine mm_aload_n dX4_readValue_122 rfl rfl ?_
                        refine mm_getR dX4_readValue_123 fX4_18 sh_18 rfl S1.2.2.1 ?_
                        refine mm_iload_n dX4_readValue_126 rfl rfl ?_
                        refine mm_cV (Y1 := YX3_addSign) dX4_readValue_127 lX4_68 vX3_addSign (MA) (law_i r hr).1 rfl rfl (by simp [Value.category]) ?_
                        refine mm_aload_n dX4_readValue_130 rfl rfl ?_
                        refine mm_getS dX4_readValue_131 fX4_9 sh_18 rfl gr_18_0 ?_
                        refine mm_cV (Y1 := YX8_step) dX4_readValue_134 lX4_41 vX8_step (M3) sh_4 rfl rfl (by simp [Value.category]) ?_
                        exact mm_retE dX4_readValue_137 rfl rfl
                      · exact absurd c_102 (by decide)
                    · exact absurd (by rw [a2]; exact nI_lt (b := 60) (by omega) (by omega)) c_77
                  · exact absurd c_47 (by decide)
                · exfalso; have q := Decidable.not_not.mp c1; rcases q with q | q
                  · exact c_10 (by rw [q]; rfl)
                  · exact c_32 (nI_le (b := 25) q.2 (by omega))
          · exact absurd ((nI_eq (b := 2) (by omega) (by omega)).mp c_10) k2
