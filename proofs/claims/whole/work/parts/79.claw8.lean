/-! The class reads a law: a clause. -/
/-- a clause: 0 note or 1 strength, where its sum and its test begin, where it ends -/
abbrev zl_C : Type := Nat × Nat × Nat × Nat
def zl_c (B : Nat → Int32) (n m : Nat) (s : zl_S) : Except Nat (zl_S × zl_C) :=
  if ¬ (kd B n s.1 = 16 ∨ kd B n s.1 = 17) then .error (1 + 8 * s.1)
  else if 12 ≤ m then .error (1 + 8 * s.1 + 4)
  else zl_b (zl_m B n (n + 1) (zl_a B n s)) (fun s1 => zl_b (if kd B n s1.1 = 29 then zl_x B n (4 * n + 5) 1 0 (zl_a B n s1) else .ok s1) (fun s2 => .ok (s2, (kd B n s.1 - 16, s.2.2.length, s1.2.2.length, s2.2.2.length))))
def zl_q (B : Nat → Int32) (n : Nat) : Nat → zl_S → List zl_C → Except Nat (zl_S × List zl_C)
  | 0, _, _ => .error 0
  | f + 1, s, cs => zl_b (zl_c B n cs.length s) (fun q => if kd B n q.1.1 = 3 then zl_q B n f (zl_a B n q.1) (cs ++ [q.2]) else if kd B n q.1.1 = 0 then .ok (q.1, cs ++ [q.2]) else .error (1 + 8 * q.1.1))
def pLW (r : Nat) : Nat → Bool := fun c => c == 4 || c == 18 || rg (25 + 6 * r) (30 + 6 * r) c
theorem lw_fr.w {r : Nat} {h g : mm_H} (a : lw_fr r h g) : frm (pLW r) h g := a.1.mono (fun c hc => by simp only [pLW, pLw, Bool.or_eq_false_iff, beq_eq_false_iff_ne, rg, decide_eq_false_iff_not] at hc ⊢; omega)
/-- the clauses that the class has written down -/
def LC (h : mm_H) (r : Nat) (cs : List zl_C) : Prop := h.1 (25 + 6 * r) 6 = nI cs.length ∧ ∀ c, c < cs.length → h.1 (25 + 6 * r + 2) c = nI (16 + (cs.getD c (0, 0, 0, 0)).1) ∧ h.1 (25 + 6 * r + 3) c = nI (cs.getD c (0, 0, 0, 0)).2.1 ∧ h.1 (25 + 6 * r + 4) c = nI (cs.getD c (0, 0, 0, 0)).2.2.1 ∧ h.1 (25 + 6 * r + 5) c = nI (cs.getD c (0, 0, 0, 0)).2.2.2
theorem LC_fr {r : Nat} {h g : mm_H} {cs : List zl_C} (L : LC h r cs) (a : lw_fr r h g) : LC g r cs := by
  have o : ∀ k, 2 ≤ k → k ≤ 5 → g.1 (25 + 6 * r + k) = h.1 (25 + 6 * r + k) := fun k h1 h2 => a.1.i (by simp only [pLw, Bool.or_eq_false_iff, beq_eq_false_iff_ne]; omega)
  refine ⟨by rw [a.2 6 (by decide)]; exact L.1, fun c hc => ?_⟩
  rw [o 2 (by decide) (by decide), o 3 (by decide) (by decide), o 4 (by decide) (by decide), o 5 (by decide) (by decide)]
  exact L.2 c hc
theorem gD_app {α : Type} {l : List α} {x z : α} {c : Nat} : (l ++ [x]).getD c z = if c < l.length then l.getD c z else if c = l.length then x else z := by
  rw [List.getD_eq_getElem?_getD, List.getD_eq_getElem?_getD]
  by_cases h : c < l.length
  · rw [if_pos h, List.getElem?_append_left h]
  · rw [if_neg h, List.getElem?_append_right (by omega)]
    by_cases e : c = l.length
    · rw [if_pos e, e, Nat.sub_self]; rfl
    · rw [if_neg e]
      obtain ⟨k, hk⟩ : ∃ k, c - l.length = k + 1 := ⟨c - l.length - 1, by omega⟩
      rw [hk]; rfl
set_option maxRecDepth 100000 in
set_option maxHeartbeats 4000000 in
theorem mX3_isFull (d : Nat) (h : mm_H) (r : Nat) (hr : r < 6) (m : Nat) (hm : h.1 (25 + 6 * r) 6 = nI m) (h12 : m ≤ 12) : mm_M d YX3_isFull [.ref (25 + 6 * r)] h (some (.int (bI (12 ≤ m)))) h := by
  refine mm_M.of [some (.ref (25 + 6 * r))] rfl rfl (Nat.le_of_ble_eq_true rfl) ?_
  refine mm_aload_n dX3_isFull_0 rfl rfl ?_
  refine mm_getI dX3_isFull_1 fX3_31 (law_i r hr).1 rfl ?_
  refine mm_bipush (x := 12) dX3_isFull_4 (by decide) ?_
  refine mm_icmp_lt 13 dX3_isFull_6 (by decide) (fun c_6 => ?_) (fun c_6 => ?_)
  · refine mm_iconst (x := 0) dX3_isFull_13 (by decide) ?_
    exact mm_zretE dX3_isFull_14 rfl (bI_nar _) (by rw [hm] at c_6; first | exact (bI_1 (Nat.le_of_not_lt (fun z => c_6 (nI_lt (b := 12) z (by omega))))).symm | exact (bI_0 (fun z => nI_nlt (b := 12) z (by omega) c_6)).symm) rfl
  · refine mm_iconst (x := 1) dX3_isFull_9 (by decide) ?_
    refine mm_goto 14 dX3_isFull_10 (by decide) ?_
    exact mm_zretE dX3_isFull_14 rfl (bI_nar _) (by rw [hm] at c_6; first | exact (bI_1 (Nat.le_of_not_lt (fun z => c_6 (nI_lt (b := 12) z (by omega))))).symm | exact (bI_0 (fun z => nI_nlt (b := 12) z (by omega) c_6)).symm) rfl
set_option maxRecDepth 100000 in
set_option maxHeartbeats 4000000 in
theorem mX3_addClause (d : Nat) (h : mm_H) (r : Nat) (hr : r < 6) (m : Nat) (hm : h.1 (25 + 6 * r) 6 = nI m) (h12 : m < 12) (w su te : Int32) : mm_M d YX3_addClause [.ref (25 + 6 * r), .int w, .int su, .int te] h none (mm_up (mm_up (mm_up (mm_up (mm_up h.1 ((25 + 6 * r) + 2) m w) ((25 + 6 * r) + 3) m su) ((25 + 6 * r) + 4) m te) ((25 + 6 * r) + 5) m (h.1 (25 + 6 * r) 1)) (25 + 6 * r) 6 (nI (m + 1)), h.2.1, h.2.2) := by
  refine mm_M.of [some (.ref (25 + 6 * r)), some (.int w), some (.int su), some (.int te)] rfl rfl (Nat.le_of_ble_eq_true rfl) ?_
  refine mm_aload_n dX3_addClause_0 rfl rfl ?_
  refine mm_getI dX3_addClause_1 fX3_31 (law_i r hr).1 rfl ?_
  refine mm_bipush (x := 12) dX3_addClause_4 (by decide) ?_
  refine mm_icmp_ge 62 dX3_addClause_6 (by decide) (fun c_6 => ?_) (fun c_6 => ?_)
  · exact absurd c_6 (by rw [hm]; exact nI_ge (b := 12) h12 (by omega))
  · refine mm_aload_n dX3_addClause_9 rfl rfl ?_
    refine mm_getS dX3_addClause_10 fX3_15 (law_i r hr).1 rfl (law_i r hr).2.2.2.2.2.2.2.1 ?_
    refine mm_aload_n dX3_addClause_13 rfl rfl ?_
    refine mm_getI dX3_addClause_14 fX3_31 (law_i r hr).1 rfl ?_
    refine mm_iload_n dX3_addClause_17 rfl rfl ?_
    refine mm_iast (m) dX3_addClause_18 (law_i r hr).2.2.1 hm (by omega) ?_
    refine mm_aload_n dX3_addClause_19 rfl rfl ?_
    refine mm_getS dX3_addClause_20 fX3_18 (law_i r hr).1 rfl (law_i r hr).2.2.2.2.2.2.2.2.1 ?_
    refine mm_aload_n dX3_addClause_23 rfl rfl ?_
    refine mm_getI dX3_addClause_24 fX3_31 (law_i r hr).1 rfl ?_
    refine mm_iload_n dX3_addClause_27 rfl rfl ?_
    refine mm_iast (m) dX3_addClause_28 (law_i r hr).2.2.2.1 (by (try dsimp only); rw [mm_up_n (by omega), hm]) (by omega) ?_
    refine mm_aload_n dX3_addClause_29 rfl rfl ?_
    refine mm_getS dX3_addClause_30 fX3_21 (law_i r hr).1 rfl (law_i r hr).2.2.2.2.2.2.2.2.2.1 ?_
    refine mm_aload_n dX3_addClause_33 rfl rfl ?_
    refine mm_getI dX3_addClause_34 fX3_31 (law_i r hr).1 rfl ?_
    refine mm_iload_n dX3_addClause_37 rfl rfl ?_
    refine mm_iast (m) dX3_addClause_38 (law_i r hr).2.2.2.2.1 (by (try dsimp only); rw [mm_up_n (by omega), mm_up_n (by omega), hm]) (by omega) ?_
    refine mm_aload_n dX3_addClause_39 rfl rfl ?_
    refine mm_getS dX3_addClause_40 fX3_24 (law_i r hr).1 rfl (law_i r hr).2.2.2.2.2.2.2.2.2.2 ?_
    refine mm_aload_n dX3_addClause_43 rfl rfl ?_
    refine mm_getI dX3_addClause_44 fX3_31 (law_i r hr).1 rfl ?_
    refine mm_aload_n dX3_addClause_47 rfl rfl ?_
    refine mm_getI dX3_addClause_48 fX3_27 (law_i r hr).1 rfl ?_
    refine mm_iast (m) dX3_addClause_51 (law_i r hr).2.2.2.2.2.1 (by (try dsimp only); rw [mm_up_n (by omega), mm_up_n (by omega), mm_up_n (by omega), hm]) (by omega) ?_
    refine mm_aload_n dX3_addClause_52 rfl rfl ?_
    refine mm_dup dX3_addClause_53 rfl ?_
    refine mm_getI dX3_addClause_54 fX3_31 (law_i r hr).1 rfl ?_
    refine mm_iconst (x := 1) dX3_addClause_57 (by decide) ?_
    refine mm_iadd dX3_addClause_58 ?_
    refine mm_putI dX3_addClause_59 fX3_31 (law_i r hr).1 rfl rfl rfl ?_
    exact mm_retE dX3_addClause_62 rfl (by dsimp only; rw [mm_up_n (by omega), mm_up_n (by omega), mm_up_n (by omega), mm_up_n (by omega), mm_up_n (by omega), mm_up_n (by omega), mm_up_n (by omega), hm, nI_succ])
theorem CS_ac {B : Nat → Int32} {n r : Nat} (hr : r < 6) {h : mm_H} {s : zl_S} (S : CS B n h r s) {m : Nat} {w su te : Int32} : CS B n (mm_up (mm_up (mm_up (mm_up (mm_up h.1 ((25 + 6 * r) + 2) m w) ((25 + 6 * r) + 3) m su) ((25 + 6 * r) + 4) m te) ((25 + 6 * r) + 5) m (h.1 (25 + 6 * r) 1)) (25 + 6 * r) 6 (nI (m + 1)), h.2.1, h.2.2) r s := by
  obtain ⟨a1, a2, a3, a4, a5, a6⟩ := S
  refine ⟨TX_c a1 (fun j _ => ?_) ?_ ?_ ?_, ?_, a3, ?_, fun k hk => ?_, a6⟩ <;> dsimp only
  · rw [mm_up_n (by omega), mm_up_n (by omega), mm_up_n (by omega), mm_up_n (by omega), mm_up_n (by omega)]
  · rw [mm_up_n (by omega), mm_up_n (by omega), mm_up_n (by omega), mm_up_n (by omega), mm_up_n (by omega)]
  · rw [mm_up_n (by omega), mm_up_n (by omega), mm_up_n (by omega), mm_up_n (by omega), mm_up_n (by omega)]
  · rw [mm_up_n (by omega), mm_up_n (by omega), mm_up_n (by omega), mm_up_n (by omega), mm_up_n (by omega)]
  · rw [mm_up_n (by omega), mm_up_n (by omega), mm_up_n (by omega), mm_up_n (by omega), mm_up_n (by omega)]; exact a2
  · rw [mm_up_k (by decide), mm_up_n (by omega), mm_up_n (by omega), mm_up_n (by omega), mm_up_n (by omega)]; exact a4
  · rw [mm_up_n (by omega), mm_up_n (by omega), mm_up_n (by omega), mm_up_n (by omega), mm_up_n (by omega)]; exact a5 k hk
theorem ER_ac {B : Nat → Int32} {n r c : Nat} (hr : r < 6) {h : mm_H} (S : ER B n h r c) {m : Nat} {w su te : Int32} : ER B n (mm_up (mm_up (mm_up (mm_up (mm_up h.1 ((25 + 6 * r) + 2) m w) ((25 + 6 * r) + 3) m su) ((25 + 6 * r) + 4) m te) ((25 + 6 * r) + 5) m (h.1 (25 + 6 * r) 1)) (25 + 6 * r) 6 (nI (m + 1)), h.2.1, h.2.2) r c := by
  obtain ⟨⟨pos, a1⟩, a2, a3, a4, l, a5, a6⟩ := S
  refine ⟨⟨pos, TX_c a1 (fun j _ => ?_) ?_ ?_ ?_⟩, a2, a3, a4, l, ?_, a6⟩ <;> dsimp only
  · rw [mm_up_n (by omega), mm_up_n (by omega), mm_up_n (by omega), mm_up_n (by omega), mm_up_n (by omega)]
  · rw [mm_up_n (by omega), mm_up_n (by omega), mm_up_n (by omega), mm_up_n (by omega), mm_up_n (by omega)]
  · rw [mm_up_n (by omega), mm_up_n (by omega), mm_up_n (by omega), mm_up_n (by omega), mm_up_n (by omega)]
  · rw [mm_up_n (by omega), mm_up_n (by omega), mm_up_n (by omega), mm_up_n (by omega), mm_up_n (by omega)]
  · rw [mm_up_k (by decide), mm_up_n (by omega), mm_up_n (by omega), mm_up_n (by omega), mm_up_n (by omega)]; exact a5
theorem fr_ac {r : Nat} (hr : r < 6) {h : mm_H} {m : Nat} {w su te : Int32} : frm (pLW r) h (mm_up (mm_up (mm_up (mm_up (mm_up h.1 ((25 + 6 * r) + 2) m w) ((25 + 6 * r) + 3) m su) ((25 + 6 * r) + 4) m te) ((25 + 6 * r) + 5) m (h.1 (25 + 6 * r) 1)) (25 + 6 * r) 6 (nI (m + 1)), h.2.1, h.2.2) := by
  have q : ∀ k, k ≤ 5 → pLW r (25 + 6 * r + k) = true := fun k hk => by simp only [pLW, Bool.or_eq_true, beq_iff_eq, rg, decide_eq_true_eq]; omega
  exact (((((frm.refl _ h).up (q 2 (by decide))).up (q 3 (by decide))).up (q 4 (by decide))).up (q 5 (by decide))).up (q 0 (by decide))
theorem LC_ac {r : Nat} (hr : r < 6) {h : mm_H} {cs : List zl_C} (L : LC h r cs) {m : Nat} (em : m = cs.length) {w su te : Int32} {q : zl_C} (h1 : w = nI (16 + q.1)) (h2 : su = nI q.2.1) (h3 : te = nI q.2.2.1) (h4 : h.1 (25 + 6 * r) 1 = nI q.2.2.2) : LC (mm_up (mm_up (mm_up (mm_up (mm_up h.1 ((25 + 6 * r) + 2) m w) ((25 + 6 * r) + 3) m su) ((25 + 6 * r) + 4) m te) ((25 + 6 * r) + 5) m (h.1 (25 + 6 * r) 1)) (25 + 6 * r) 6 (nI (m + 1)), h.2.1, h.2.2) r (cs ++ [q]) := by
  subst em
  refine ⟨by dsimp only; rw [mm_up_e, List.length_append]; rfl, fun c hc => ?_⟩
  rw [List.length_append] at hc
  simp only [List.length_cons, List.length_nil] at hc
  rw [gD_app]
  dsimp only
  refine ⟨?_, ?_, ?_, ?_⟩
  · rw [mm_up_n (by omega), mm_up_n (by omega), mm_up_n (by omega), mm_up_n (by omega)]
    by_cases z : c = cs.length
    · rw [z, mm_up_e, if_neg (by omega), if_pos rfl, h1]
    · rw [mm_up_k z, if_pos (by omega)]; exact (L.2 c (by omega)).1
  · rw [mm_up_n (by omega), mm_up_n (by omega), mm_up_n (by omega)]
    by_cases z : c = cs.length
    · rw [z, mm_up_e, if_neg (by omega), if_pos rfl, h2]
    · rw [mm_up_k z, mm_up_n (by omega), if_pos (by omega)]; exact (L.2 c (by omega)).2.1
  · rw [mm_up_n (by omega), mm_up_n (by omega)]
    by_cases z : c = cs.length
    · rw [z, mm_up_e, if_neg (by omega), if_pos rfl, h3]
    · rw [mm_up_k z, mm_up_n (by omega), mm_up_n (by omega), if_pos (by omega)]; exact (L.2 c (by omega)).2.2.1
  · rw [mm_up_n (by omega)]
    by_cases z : c = cs.length
    · rw [z, mm_up_e, if_neg (by omega), if_pos rfl, h4]
    · rw [mm_up_k z, mm_up_n (by omega), mm_up_n (by omega), mm_up_n (by omega), if_pos (by omega)]; exact (L.2 c (by omega)).2.2.2
/-- what reading a clause leaves -/
def zl_cP (B : Nat → Int32) (n r : Nat) (cs : List zl_C) (g : mm_H) (q : Except Nat (zl_S × zl_C)) : Prop := match q with
  | .ok q => CS B n g r q.1 ∧ LC g r (cs ++ [q.2])
  | .error c => ER B n g r c
set_option maxRecDepth 100000 in
set_option maxHeartbeats 4000000 in
theorem mX4_readClause (d : Nat) (h : mm_H) (B : Nat → Int32) (n : Nat) (hn : n ≤ 400) (r : Nat) (hr : r < 6) (s : zl_S) (S : CS B n h r s) (hJ : zl_J 0 s) (cs : List zl_C) (L : LC h r cs) (hc : cs.length ≤ 12) : ∃ g, mm_M (d + 25) YX4_readClause [.ref 18] h none g ∧ frm (pLW r) h g ∧ zl_cP B n r cs g (zl_c B n cs.length s) := by
  have kb := kd_lt B n s.1
  have hle := S.1.le
  have hv := S.2.2.2.2.2
  have hl := zl_J_len hn hle hv hJ
  have a3 := S.2.2.1
  have M1 := mX8_kind (d + 24) h B n s.1 0 S.1
  have ENT : ∀ g, mm_R (d + 25) YX4_readClause 0 [some (.ref 18), none, none, none] [] h none g → mm_M (d + 25) YX4_readClause [.ref 18] h none g := fun g k => mm_M.of _ rfl rfl (Nat.le_of_ble_eq_true rfl) k
  by_cases k1 : kd B n s.1 = 16 ∨ kd B n s.1 = 17
  · by_cases k2 : 12 ≤ cs.length
    · have e : zl_c B n cs.length s = .error (1 + 8 * s.1 + 4) := by unfold zl_c; rw [if_neg (fun z => z k1), if_pos k2]
      rw [e]
      have M2 := mX3_isFull (d + 24) h r hr cs.length L.1 hc
      obtain ⟨g, MF, t, fr⟩ := mX8_fail (d + 24) h B n s.1 0 S.1 hn (by decide) 4 (by decide)
      have ef : flt 0 s.1 4 = 1 + 8 * s.1 + 4 := if_pos rfl
      rw [ef] at t
      refine ⟨g, ENT g ?_, (lw_4 fr).w, ER_4 S (by omega) fr t (by omega) (by omega)⟩
      have K29 : mm_R (d + 25) YX4_readClause 29 [some (.ref 18), some (.int (nI (kd B n s.1))), none, none] [] h none g := by
        refine mm_aload_n dX4_readClause_29 rfl rfl ?_
        refine mm_getR dX4_readClause_30 fX4_18 sh_18 rfl a3 ?_
        refine mm_cV (Y1 := YX3_isFull) dX4_readClause_33 lX4_48 vX3_isFull (M2) (law_i r hr).1 rfl rfl (by simp [Value.category]) ?_
        refine mm_if_eq 48 dX4_readClause_36 (by decide) (fun c_36 => ?_) (fun c_36 => ?_)
        · exact absurd c_36 (by rw [bI_1 k2]; decide)
        · refine mm_aload_n dX4_readClause_39 rfl rfl ?_
          refine mm_getS dX4_readClause_40 fX4_9 sh_18 rfl gr_18_0 ?_
          refine mm_iconst (x := 4) dX4_readClause_43 (by decide) ?_
          refine mm_cV (Y1 := YX8_fail) dX4_readClause_44 lX4_44 vX8_fail (MF) sh_4 rfl rfl (by simp [Value.category]) ?_
          exact mm_retE dX4_readClause_47 rfl rfl
      refine mm_aload_n dX4_readClause_0 rfl rfl ?_
      refine mm_getS dX4_readClause_1 fX4_9 sh_18 rfl gr_18_0 ?_
      refine mm_cV (Y1 := YX8_kind) dX4_readClause_4 lX4_37 vX8_kind (M1) sh_4 rfl rfl (by simp [Value.category]) ?_
      refine mm_istore_n dX4_readClause_7 rfl (by decide) rfl ?_
      refine mm_iload_n dX4_readClause_8 rfl rfl ?_
      refine mm_bipush (x := 16) dX4_readClause_9 (by decide) ?_
      refine mm_icmp_eq 29 dX4_readClause_11 (by decide) (fun c_11 => ?_) (fun c_11 => ?_)
      · exact K29
      · refine mm_iload_n dX4_readClause_14 rfl rfl ?_
        refine mm_bipush (x := 17) dX4_readClause_15 (by decide) ?_
        refine mm_icmp_eq 29 dX4_readClause_17 (by decide) (fun c_17 => ?_) (fun c_17 => ?_)
        · exact K29
        · exact absurd k1 (fun z => z.elim (fun q => absurd (by rw [q]; rfl) c_11) (fun q => absurd (by rw [q]; rfl) c_17))
    · have e : zl_c B n cs.length s = zl_b (zl_m B n (n + 1) (zl_a B n s)) (fun s1 => zl_b (if kd B n s1.1 = 29 then zl_x B n (4 * n + 5) 1 0 (zl_a B n s1) else .ok s1) (fun s2 => .ok (s2, (kd B n s.1 - 16, s.2.2.length, s1.2.2.length, s2.2.2.length)))) := by unfold zl_c; rw [if_neg (fun z => z k1), if_neg k2]
      rw [e]
      have M2 := mX3_isFull (d + 24) h r hr cs.length L.1 hc
      obtain ⟨g1, MS, t1, fs⟩ := mX8_step (d + 24) h B n s.1 0 S.1
      have S1 : CS B n g1 r (zl_a B n s) := CS_4 S fs t1
      have a31 := S1.2.2.1
      obtain ⟨ad1, ad2, ad3⟩ := zl_a_bd (B := B) (s := s) hle (by omega)
      have J1 := ad3 _ hJ
      have L1 : LC g1 r cs := LC_fr L (lw_4 fs)
      obtain ⟨g2, M3, f3, R3⟩ := mX4_readSum (d + 22) g1 B n hn r hr (zl_a B n s) S1 (zl_J_le J1 (by omega)) (n + 1) (by omega)
      have L2 : LC g2 r cs := LC_fr L1 f3
      have fA := (lw_4 (r := r) fs).trans f3
      have ew : nI (kd B n s.1) = nI (16 + (kd B n s.1 - 16)) := by rw [show 16 + (kd B n s.1 - 16) = kd B n s.1 by omega]
      have K0 : ∀ g, mm_R (d + 25) YX4_readClause 29 [some (.ref 18), some (.int (nI (kd B n s.1))), none, none] [] h none g → mm_R (d + 25) YX4_readClause 0 [some (.ref 18), none, none, none] [] h none g := by
        intro g K29
        refine mm_aload_n dX4_readClause_0 rfl rfl ?_
        refine mm_getS dX4_readClause_1 fX4_9 sh_18 rfl gr_18_0 ?_
        refine mm_cV (Y1 := YX8_kind) dX4_readClause_4 lX4_37 vX8_kind (M1) sh_4 rfl rfl (by simp [Value.category]) ?_
        refine mm_istore_n dX4_readClause_7 rfl (by decide) rfl ?_
        refine mm_iload_n dX4_readClause_8 rfl rfl ?_
        refine mm_bipush (x := 16) dX4_readClause_9 (by decide) ?_
        refine mm_icmp_eq 29 dX4_readClause_11 (by decide) (fun c_11 => ?_) (fun c_11 => ?_)
        · exact K29
        · refine mm_iload_n dX4_readClause_14 rfl rfl ?_
          refine mm_bipush (x := 17) dX4_readClause_15 (by decide) ?_
          refine mm_icmp_eq 29 dX4_readClause_17 (by decide) (fun c_17 => ?_) (fun c_17 => ?_)
          · exact K29
          · exact absurd k1 (fun z => z.elim (fun q => absurd (by rw [q]; rfl) c_11) (fun q => absurd (by rw [q]; rfl) c_17))
      have KA : ∀ gg su te g, mm_M (d + 24) YX3_addClause [.ref (25 + 6 * r), .int (nI (kd B n s.1)), .int su, .int te] gg none g → gg.2.2 18 = 25 + 6 * r → mm_R (d + 25) YX4_readClause 109 [some (.ref 18), some (.int (nI (kd B n s.1))), some (.int su), some (.int te)] [] gg none g := by
        intro gg su te g MA a9
        refine mm_aload_n dX4_readClause_109 rfl rfl ?_
        refine mm_getR dX4_readClause_110 fX4_18 sh_18 rfl a9 ?_
        refine mm_iload_n dX4_readClause_113 rfl rfl ?_
        refine mm_iload_n dX4_readClause_114 rfl rfl ?_
        refine mm_iload_n dX4_readClause_115 rfl rfl ?_
        refine mm_cV (Y1 := YX3_addClause) dX4_readClause_116 lX4_61 vX3_addClause (MA) (law_i r hr).1 rfl rfl (by simp [Value.category]) ?_
        exact mm_retE dX4_readClause_119 rfl rfl
      cases e1 : zl_m B n (n + 1) (zl_a B n s) with
      | error c =>
        rw [e1] at R3
        rw [zl_b_e]
        have MA := mX3_addClause (d + 24) g2 r hr cs.length L2.1 (by omega) (nI (kd B n s.1)) (g1.1 (25 + 6 * r) 1) (g2.1 (25 + 6 * r) 1)
        have c0 := R3.2.1
        have c4 := R3.2.2.1
        have e5 := R3.f5
        have a32 := R3.2.2.2.1
        have KB := KA g2 _ _ _ MA a32
        refine ⟨_, ENT _ (K0 _ ?_), fA.w.trans (fr_ac hr (m := cs.length) (w := nI (kd B n s.1)) (su := g1.1 (25 + 6 * r) 1) (te := g2.1 (25 + 6 * r) 1)), ER_ac hr R3 (m := cs.length) (w := nI (kd B n s.1)) (su := g1.1 (25 + 6 * r) 1) (te := g2.1 (25 + 6 * r) 1)⟩
        refine mm_aload_n dX4_readClause_29 rfl rfl ?_
        refine mm_getR dX4_readClause_30 fX4_18 sh_18 rfl a3 ?_
        refine mm_cV (Y1 := YX3_isFull) dX4_readClause_33 lX4_48 vX3_isFull (M2) (law_i r hr).1 rfl rfl (by simp [Value.category]) ?_
        refine mm_if_eq 48 dX4_readClause_36 (by decide) (fun c_36 => ?_) (fun c_36 => ?_)
        · refine mm_aload_n dX4_readClause_48 rfl rfl ?_
          refine mm_getS dX4_readClause_49 fX4_9 sh_18 rfl gr_18_0 ?_
          refine mm_cV (Y1 := YX8_step) dX4_readClause_52 lX4_41 vX8_step (MS) sh_4 rfl rfl (by simp [Value.category]) ?_
          refine mm_aload_n dX4_readClause_55 rfl rfl ?_
          refine mm_getR dX4_readClause_56 fX4_18 sh_18 rfl a31 ?_
          refine mm_getI dX4_readClause_59 fX4_52 (law_i r hr).1 rfl ?_
          refine mm_istore_n dX4_readClause_62 rfl (by decide) rfl ?_
          refine mm_aload_n dX4_readClause_63 rfl rfl ?_
          refine mm_cV (Y1 := YX4_readSum) dX4_readClause_64 lX4_55 vX4_readSum (M3) sh_18 rfl rfl (by simp [Value.category]) ?_
          refine mm_aload_n dX4_readClause_67 rfl rfl ?_
          refine mm_getR dX4_readClause_68 fX4_18 sh_18 rfl a32 ?_
          refine mm_getI dX4_readClause_71 fX4_52 (law_i r hr).1 rfl ?_
          refine mm_istore_n dX4_readClause_74 rfl (by decide) rfl ?_
          refine mm_aload_n dX4_readClause_75 rfl rfl ?_
          refine mm_getS dX4_readClause_76 fX4_9 sh_18 rfl gr_18_0 ?_
          refine mm_getI dX4_readClause_79 fX4_29 sh_4 rfl ?_
          refine mm_if_ne 109 dX4_readClause_82 (by decide) (fun c_82 => ?_) (fun c_82 => ?_)
          · exact KB
          · exact absurd ((nI_eq (b := 0) (by omega) (by omega)).mp (e5.symm.trans c_82)) c0
        · exact absurd (bI_0 k2) c_36
      | ok s1 =>
        rw [e1] at R3
        rw [zl_b_k]
        have a32 := R3.2.2.1
        have e5 := R3.f5
        obtain ⟨q1, q2, q3, q4⟩ := zl_m_fwd ad1 e1
        have kb1 := kd_lt B n s1.1
        have M5 := mX8_kind (d + 24) g2 B n s1.1 0 R3.1
        have esu : g1.1 (25 + 6 * r) 1 = nI s.2.2.length := S1.2.2.2.1
        have ete : g2.1 (25 + 6 * r) 1 = nI s1.2.2.length := R3.2.2.2.1
        by_cases k29 : kd B n s1.1 = 29
        · rw [if_pos k29]
          obtain ⟨g3, M6, t6, f6⟩ := mX8_step (d + 24) g2 B n s1.1 0 R3.1
          have S6 : CS B n g3 r (zl_a B n s1) := CS_4 R3 f6 t6
          obtain ⟨ae1, ae2, ae3⟩ := zl_a_bd (B := B) (s := s1) q1 (by omega)
          have J6 := ae3 _ (q4 _ J1)
          obtain ⟨g4, M7, f7, R7⟩ := mX4_readTest_0 B n hn r hr d g3 (zl_a B n s1) S6 (zl_J_le J6 (by omega)) (4 * n + 5) (by omega)
          have fB := (fA.trans (lw_4 f6)).trans f7
          have L4 : LC g4 r cs := LC_fr L2 ((lw_4 f6).trans f7)
          have MA := mX3_addClause (d + 24) g4 r hr cs.length L4.1 (by omega) (nI (kd B n s.1)) (g1.1 (25 + 6 * r) 1) (g2.1 (25 + 6 * r) 1)
          cases e2 : zl_x B n (4 * n + 5) 1 0 (zl_a B n s1) with
          | error c =>
            rw [e2] at R7
            rw [zl_b_e]
            have KB := KA g4 _ _ _ MA R7.2.2.2.1
            refine ⟨_, ENT _ (K0 _ ?_), fB.w.trans (fr_ac hr (m := cs.length) (w := nI (kd B n s.1)) (su := g1.1 (25 + 6 * r) 1) (te := g2.1 (25 + 6 * r) 1)), ER_ac hr R7 (m := cs.length) (w := nI (kd B n s.1)) (su := g1.1 (25 + 6 * r) 1) (te := g2.1 (25 + 6 * r) 1)⟩
            refine mm_aload_n dX4_readClause_29 rfl rfl ?_
            refine mm_getR dX4_readClause_30 fX4_18 sh_18 rfl a3 ?_
            refine mm_cV (Y1 := YX3_isFull) dX4_readClause_33 lX4_48 vX3_isFull (M2) (law_i r hr).1 rfl rfl (by simp [Value.category]) ?_
            refine mm_if_eq 48 dX4_readClause_36 (by decide) (fun c_36 => ?_) (fun c_36 => ?_)
            · refine mm_aload_n dX4_readClause_48 rfl rfl ?_
              refine mm_getS dX4_readClause_49 fX4_9 sh_18 rfl gr_18_0 ?_
              refine mm_cV (Y1 := YX8_step) dX4_readClause_52 lX4_41 vX8_step (MS) sh_4 rfl rfl (by simp [Value.category]) ?_
              refine mm_aload_n dX4_readClause_55 rfl rfl ?_
              refine mm_getR dX4_readClause_56 fX4_18 sh_18 rfl a31 ?_
              refine mm_getI dX4_readClause_59 fX4_52 (law_i r hr).1 rfl ?_
              refine mm_istore_n dX4_readClause_62 rfl (by decide) rfl ?_
              refine mm_aload_n dX4_readClause_63 rfl rfl ?_
              refine mm_cV (Y1 := YX4_readSum) dX4_readClause_64 lX4_55 vX4_readSum (M3) sh_18 rfl rfl (by simp [Value.category]) ?_
              refine mm_aload_n dX4_readClause_67 rfl rfl ?_
              refine mm_getR dX4_readClause_68 fX4_18 sh_18 rfl a32 ?_
              refine mm_getI dX4_readClause_71 fX4_52 (law_i r hr).1 rfl ?_
              refine mm_istore_n dX4_readClause_74 rfl (by decide) rfl ?_
              refine mm_aload_n dX4_readClause_75 rfl rfl ?_
              refine mm_getS dX4_readClause_76 fX4_9 sh_18 rfl gr_18_0 ?_
              refine mm_getI dX4_readClause_79 fX4_29 sh_4 rfl ?_
              refine mm_if_ne 109 dX4_readClause_82 (by decide) (fun c_82 => ?_) (fun c_82 => ?_)
              · exact absurd e5 c_82
              · refine mm_aload_n dX4_readClause_85 rfl rfl ?_
                refine mm_getS dX4_readClause_86 fX4_9 sh_18 rfl gr_18_0 ?_
                refine mm_cV (Y1 := YX8_kind) dX4_readClause_89 lX4_37 vX8_kind (M5) sh_4 rfl rfl (by simp [Value.category]) ?_
                refine mm_bipush (x := 29) dX4_readClause_92 (by decide) ?_
                refine mm_icmp_ne 109 dX4_readClause_94 (by decide) (fun c_94 => ?_) (fun c_94 => ?_)
                · exact absurd (by rw [k29]; rfl) c_94
                · refine mm_aload_n dX4_readClause_97 rfl rfl ?_
                  refine mm_getS dX4_readClause_98 fX4_9 sh_18 rfl gr_18_0 ?_
                  refine mm_cV (Y1 := YX8_step) dX4_readClause_101 lX4_41 vX8_step (M6) sh_4 rfl rfl (by simp [Value.category]) ?_
                  refine mm_aload_n dX4_readClause_104 rfl rfl ?_
                  refine mm_iconst (x := 0) dX4_readClause_105 (by decide) ?_
                  refine mm_cV (Y1 := YX4_readTest) dX4_readClause_106 lX4_58 vX4_readTest (M7) sh_18 rfl rfl (by simp [Value.category]) ?_
                  exact KB
            · exact absurd (bI_0 k2) c_36
          | ok s2 =>
            rw [e2] at R7
            rw [zl_b_k]
            have KB := KA g4 _ _ _ MA R7.2.2.1
            refine ⟨_, ENT _ (K0 _ ?_), fB.w.trans (fr_ac hr (m := cs.length) (w := nI (kd B n s.1)) (su := g1.1 (25 + 6 * r) 1) (te := g2.1 (25 + 6 * r) 1)), CS_ac hr R7 (m := cs.length) (w := nI (kd B n s.1)) (su := g1.1 (25 + 6 * r) 1) (te := g2.1 (25 + 6 * r) 1), LC_ac hr L4 rfl ew esu ete R7.2.2.2.1⟩
            refine mm_aload_n dX4_readClause_29 rfl rfl ?_
            refine mm_getR dX4_readClause_30 fX4_18 sh_18 rfl a3 ?_
            refine mm_cV (Y1 := YX3_isFull) dX4_readClause_33 lX4_48 vX3_isFull (M2) (law_i r hr).1 rfl rfl (by simp [Value.category]) ?_
            refine mm_if_eq 48 dX4_readClause_36 (by decide) (fun c_36 => ?_) (fun c_36 => ?_)
            · refine mm_aload_n dX4_readClause_48 rfl rfl ?_
              refine mm_getS dX4_readClause_49 fX4_9 sh_18 rfl gr_18_0 ?_
              refine mm_cV (Y1 := YX8_step) dX4_readClause_52 lX4_41 vX8_step (MS) sh_4 rfl rfl (by simp [Value.category]) ?_
              refine mm_aload_n dX4_readClause_55 rfl rfl ?_
              refine mm_getR dX4_readClause_56 fX4_18 sh_18 rfl a31 ?_
              refine mm_getI dX4_readClause_59 fX4_52 (law_i r hr).1 rfl ?_
              refine mm_istore_n dX4_readClause_62 rfl (by decide) rfl ?_
              refine mm_aload_n dX4_readClause_63 rfl rfl ?_
              refine mm_cV (Y1 := YX4_readSum) dX4_readClause_64 lX4_55 vX4_readSum (M3) sh_18 rfl rfl (by simp [Value.category]) ?_
              refine mm_aload_n dX4_readClause_67 rfl rfl ?_
              refine mm_getR dX4_readClause_68 fX4_18 sh_18 rfl a32 ?_
              refine mm_getI dX4_readClause_71 fX4_52 (law_i r hr).1 rfl ?_
              refine mm_istore_n dX4_readClause_74 rfl (by decide) rfl ?_
              refine mm_aload_n dX4_readClause_75 rfl rfl ?_
              refine mm_getS dX4_readClause_76 fX4_9 sh_18 rfl gr_18_0 ?_
              refine mm_getI dX4_readClause_79 fX4_29 sh_4 rfl ?_
              refine mm_if_ne 109 dX4_readClause_82 (by decide) (fun c_82 => ?_) (fun c_82 => ?_)
              · exact absurd e5 c_82
              · refine mm_aload_n dX4_readClause_85 rfl rfl ?_
                refine mm_getS dX4_readClause_86 fX4_9 sh_18 rfl gr_18_0 ?_
                refine mm_cV (Y1 := YX8_kind) dX4_readClause_89 lX4_37 vX8_kind (M5) sh_4 rfl rfl (by simp [Value.category]) ?_
                refine mm_bipush (x := 29) dX4_readClause_92 (by decide) ?_
                refine mm_icmp_ne 109 dX4_readClause_94 (by decide) (fun c_94 => ?_) (fun c_94 => ?_)
                · exact absurd (by rw [k29]; rfl) c_94
                · refine mm_aload_n dX4_readClause_97 rfl rfl ?_
                  refine mm_getS dX4_readClause_98 fX4_9 sh_18 rfl gr_18_0 ?_
                  refine mm_cV (Y1 := YX8_step) dX4_readClause_101 lX4_41 vX8_step (M6) sh_4 rfl rfl (by simp [Value.category]) ?_
                  refine mm_aload_n dX4_readClause_104 rfl rfl ?_
                  refine mm_iconst (x := 0) dX4_readClause_105 (by decide) ?_
                  refine mm_cV (Y1 := YX4_readTest) dX4_readClause_106 lX4_58 vX4_readTest (M7) sh_18 rfl rfl (by simp [Value.category]) ?_
                  exact KB
            · exact absurd (bI_0 k2) c_36
        · rw [if_neg k29, zl_b_k]
          have MA := mX3_addClause (d + 24) g2 r hr cs.length L2.1 (by omega) (nI (kd B n s.1)) (g1.1 (25 + 6 * r) 1) (g2.1 (25 + 6 * r) 1)
          have KB := KA g2 _ _ _ MA a32
          refine ⟨_, ENT _ (K0 _ ?_), fA.w.trans (fr_ac hr (m := cs.length) (w := nI (kd B n s.1)) (su := g1.1 (25 + 6 * r) 1) (te := g2.1 (25 + 6 * r) 1)), CS_ac hr R3 (m := cs.length) (w := nI (kd B n s.1)) (su := g1.1 (25 + 6 * r) 1) (te := g2.1 (25 + 6 * r) 1), LC_ac hr L2 rfl ew esu ete R3.2.2.2.1⟩
          refine mm_aload_n dX4_readClause_29 rfl rfl ?_
          refine mm_getR dX4_readClause_30 fX4_18 sh_18 rfl a3 ?_
          refine mm_cV (Y1 := YX3_isFull) dX4_readClause_33 lX4_48 vX3_isFull (M2) (law_i r hr).1 rfl rfl (by simp [Value.category]) ?_
          refine mm_if_eq 48 dX4_readClause_36 (by decide) (fun c_36 => ?_) (fun c_36 => ?_)
          · refine mm_aload_n dX4_readClause_48 rfl rfl ?_
            refine mm_getS dX4_readClause_49 fX4_9 sh_18 rfl gr_18_0 ?_
            refine mm_cV (Y1 := YX8_step) dX4_readClause_52 lX4_41 vX8_step (MS) sh_4 rfl rfl (by simp [Value.category]) ?_
            refine mm_aload_n dX4_readClause_55 rfl rfl ?_
            refine mm_getR dX4_readClause_56 fX4_18 sh_18 rfl a31 ?_
            refine mm_getI dX4_readClause_59 fX4_52 (law_i r hr).1 rfl ?_
            refine mm_istore_n dX4_readClause_62 rfl (by decide) rfl ?_
            refine mm_aload_n dX4_readClause_63 rfl rfl ?_
            refine mm_cV (Y1 := YX4_readSum) dX4_readClause_64 lX4_55 vX4_readSum (M3) sh_18 rfl rfl (by simp [Value.category]) ?_
            refine mm_aload_n dX4_readClause_67 rfl rfl ?_
            refine mm_getR dX4_readClause_68 fX4_18 sh_18 rfl a32 ?_
            refine mm_getI dX4_readClause_71 fX4_52 (law_i r hr).1 rfl ?_
            refine mm_istore_n dX4_readClause_74 rfl (by decide) rfl ?_
            refine mm_aload_n dX4_readClause_75 rfl rfl ?_
            refine mm_getS dX4_readClause_76 fX4_9 sh_18 rfl gr_18_0 ?_
            refine mm_getI dX4_readClause_79 fX4_29 sh_4 rfl ?_
            refine mm_if_ne 109 dX4_readClause_82 (by decide) (fun c_82 => ?_) (fun c_82 => ?_)
            · exact absurd e5 c_82
            · refine mm_aload_n dX4_readClause_85 rfl rfl ?_
              refine mm_getS dX4_readClause_86 fX4_9 sh_18 rfl gr_18_0 ?_
              refine mm_cV (Y1 := YX8_kind) dX4_readClause_89 lX4_37 vX8_kind (M5) sh_4 rfl rfl (by simp [Value.category]) ?_
              refine mm_bipush (x := 29) dX4_readClause_92 (by decide) ?_
              refine mm_icmp_ne 109 dX4_readClause_94 (by decide) (fun c_94 => ?_) (fun c_94 => ?_)
              · exact KB
              · exact absurd ((nI_eq (b := 29) (by omega) (by omega)).mp c_94) k29
          · exact absurd (bI_0 k2) c_36
  · have e : zl_c B n cs.length s = .error (1 + 8 * s.1) := by unfold zl_c; rw [if_pos k1]
    rw [e]
    obtain ⟨g, MF, t, fr⟩ := mX8_fail (d + 24) h B n s.1 0 S.1 hn (by decide) 0 (by decide)
    have ef : flt 0 s.1 0 = 1 + 8 * s.1 := if_pos rfl
    rw [ef] at t
    refine ⟨g, ENT g ?_, (lw_4 fr).w, ER_4 S (by omega) fr t (by omega) (by omega)⟩
    refine mm_aload_n dX4_readClause_0 rfl rfl ?_
    refine mm_getS dX4_readClause_1 fX4_9 sh_18 rfl gr_18_0 ?_
    refine mm_cV (Y1 := YX8_kind) dX4_readClause_4 lX4_37 vX8_kind (M1) sh_4 rfl rfl (by simp [Value.category]) ?_
    refine mm_istore_n dX4_readClause_7 rfl (by decide) rfl ?_
    refine mm_iload_n dX4_readClause_8 rfl rfl ?_
    refine mm_bipush (x := 16) dX4_readClause_9 (by decide) ?_
    refine mm_icmp_eq 29 dX4_readClause_11 (by decide) (fun c_11 => ?_) (fun c_11 => ?_)
    · exact absurd (Or.inl ((nI_eq (b := 16) (by omega) (by omega)).mp c_11)) k1
    · refine mm_iload_n dX4_readClause_14 rfl rfl ?_
      refine mm_bipush (x := 17) dX4_readClause_15 (by decide) ?_
      refine mm_icmp_eq 29 dX4_readClause_17 (by decide) (fun c_17 => ?_) (fun c_17 => ?_)
      · exact absurd (Or.inr ((nI_eq (b := 17) (by omega) (by omega)).mp c_17)) k1
      · refine mm_aload_n dX4_readClause_20 rfl rfl ?_
        refine mm_getS dX4_readClause_21 fX4_9 sh_18 rfl gr_18_0 ?_
        refine mm_iconst (x := 0) dX4_readClause_24 (by decide) ?_
        refine mm_cV (Y1 := YX8_fail) dX4_readClause_25 lX4_44 vX8_fail (MF) sh_4 rfl rfl (by simp [Value.category]) ?_
        exact mm_retE dX4_readClause_28 rfl rfl
