/-! The reference reads a law's clause. -/
def pML : Nat → Bool := fun c => c == 165 || c == 186 || c == 187 || rg 189 193 c
def ml_fr (r : Nat) (h g : mm_H) : Prop := frm pML h g ∧ (∀ j, j ≠ 21 → j ≠ 22 → j ≠ 25 → j ≠ 26 → j ≠ 27 → j ≠ 28 → g.1 165 j = h.1 165 j) ∧ (∀ k, (k < 300 * r ∨ 300 * r + 300 ≤ k) → g.1 186 k = h.1 186 k ∧ g.1 187 k = h.1 187 k) ∧ ∀ k, (k < 12 * r ∨ 12 * r + 12 ≤ k) → g.1 189 k = h.1 189 k ∧ g.1 190 k = h.1 190 k ∧ g.1 191 k = h.1 191 k ∧ g.1 192 k = h.1 192 k
theorem ml_fr.refl (r : Nat) (h : mm_H) : ml_fr r h h := ⟨frm.refl _ _, fun _ _ _ _ _ _ _ => rfl, fun _ _ => ⟨rfl, rfl⟩, fun _ _ => ⟨rfl, rfl, rfl, rfl⟩⟩
theorem ml_fr.trans {r : Nat} {h g k : mm_H} (a : ml_fr r h g) (b : ml_fr r g k) : ml_fr r h k := ⟨a.1.trans b.1, fun j h1 h2 h3 h4 h5 h6 => (b.2.1 j h1 h2 h3 h4 h5 h6).trans (a.2.1 j h1 h2 h3 h4 h5 h6), fun i hi => ⟨(b.2.2.1 i hi).1.trans (a.2.2.1 i hi).1, (b.2.2.1 i hi).2.trans (a.2.2.1 i hi).2⟩, fun i hi => ⟨(b.2.2.2 i hi).1.trans (a.2.2.2 i hi).1, (b.2.2.2 i hi).2.1.trans (a.2.2.2 i hi).2.1, (b.2.2.2 i hi).2.2.1.trans (a.2.2.2 i hi).2.2.1, (b.2.2.2 i hi).2.2.2.trans (a.2.2.2 i hi).2.2.2⟩⟩
theorem mw_fr.ml {r : Nat} {h g : mm_H} (a : mw_fr r h g) : ml_fr r h g := by
  have o : ∀ c, 189 ≤ c → c ≤ 192 → g.1 c = h.1 c := fun c h1 h2 => a.1.i (by simp only [pMW, Bool.or_eq_false_iff, beq_eq_false_iff_ne]; omega)
  exact ⟨a.1.mono (fun c hc => by simp only [pML, pMW, Bool.or_eq_false_iff, beq_eq_false_iff_ne, rg, decide_eq_false_iff_not] at hc ⊢; omega), a.2.1, a.2.2, fun k _ => ⟨by rw [o 189 (by decide) (by decide)], by rw [o 190 (by decide) (by decide)], by rw [o 191 (by decide) (by decide)], by rw [o 192 (by decide) (by decide)]⟩⟩
theorem mt_fr.ml {r : Nat} {h g : mm_H} (a : mt_fr h g) : ml_fr r h g := a.mc.mv.mw.ml
theorem ml_up {r : Nat} {h : mm_H} {c k : Nat} {x : Int32} (hc : 189 ≤ c ∧ c ≤ 192) (hk : 12 * r ≤ k ∧ k < 12 * r + 12) : ml_fr r h (mm_up h.1 c k x, h.2.1, h.2.2) := by
  refine ⟨(frm.refl _ h).up (c := c) (by simp only [pML, Bool.or_eq_true]; exact Or.inr (rg_t (by omega))), fun j _ _ _ _ _ _ => ?_, fun i _ => ⟨?_, ?_⟩, fun i hi => ?_⟩ <;> dsimp only
  · rw [mm_up_n (by omega)]
  · rw [mm_up_n (by omega)]
  · rw [mm_up_n (by omega)]
  · have o : ∀ b, mm_up h.1 c k x b i = h.1 b i := fun b => by
      by_cases z : b = c
      · rw [z, mm_up_k (by omega)]
      · rw [mm_up_n z]
    exact ⟨o _, o _, o _, o _⟩
theorem MT.o {B : Nat → Int32} {n p ft : Nat} {h g : mm_H} (t : MT B n h p ft) (e1 : g.1 165 = h.1 165) (e2 : g.1 185 = h.1 185) : MT B n g p ft := by
  unfold MT at *
  rw [e1, e2]; exact t
theorem zm_S.o {B : Nat → Int32} {n r p : Nat} {s : zl_S} {h g : mm_H} (S : zm_S B n h r s p) (e1 : g.1 165 = h.1 165) (e2 : g.1 185 = h.1 185) (e3 : g.1 186 = h.1 186) (e4 : g.1 187 = h.1 187) : zm_S B n g r s p := by
  unfold zm_S MT at *
  rw [e1, e2, e3, e4]; exact S
theorem ME1.o {B : Nat → Int32} {n r c : Nat} {h g : mm_H} (S : ME1 B n h r c) (e1 : g.1 165 = h.1 165) (e2 : g.1 185 = h.1 185) : ME1 B n g r c := by
  unfold ME1 MT at *
  rw [e1, e2]; exact S
/-- the clauses that the reference has written down -/
def LCM (h : mm_H) (r : Nat) (cs : List zl_C) : Prop := ∀ c, c < cs.length → h.1 189 (12 * r + c) = nI (cs.getD c (0, 0, 0, 0)).1 ∧ h.1 190 (12 * r + c) = nI (cs.getD c (0, 0, 0, 0)).2.1 ∧ h.1 191 (12 * r + c) = nI (cs.getD c (0, 0, 0, 0)).2.2.1 ∧ h.1 192 (12 * r + c) = nI (cs.getD c (0, 0, 0, 0)).2.2.2
set_option maxRecDepth 100000 in
set_option maxHeartbeats 4000000 in
theorem mX11_takes (d : Nat) (h : mm_H) (B : Nat → Int32) (n r p : Nat) (s : zl_S) (S : zm_S B n h r s p) : ∃ g, mm_M (d + 5) YX11_takes [.ref 165, .ref (1000 + 17)] h (some (.int (pI (kd B n s.1 = 29)))) g ∧ mt_fr h g ∧ (kd B n s.1 = 29 → zm_S B n g r (zl_a B n s) (s.1 + 2)) ∧ (¬ kd B n s.1 = 29 → zm_S B n g r s s.1) := by
  have hn4 := S.1.2.2.2.2.1
  have hle := S.le
  obtain ⟨g1, MB, f1, S1⟩ := mX11_blanks_s (d + 3) h B n r p s S
  have MS1 := mX11_stood d g1 B n s.1 0 S1.1 hle 17 (by decide) (by decide)
  rw [show ki 17 = 29 from rfl] at MS1
  have ep : g1.1 165 21 = nI s.1 := S1.1.2.1
  by_cases hk : kd B n s.1 = 29
  · rw [pI_1 hk] at MS1 ⊢
    obtain ⟨hpos, een⟩ := en_w (i := 17) hle (by decide) (by decide) hk
    have een : en B n s.1 = s.1 + 2 := een
    have hen := en_bd (B := B) hpos
    have hnx : sk B n (s.1 + 2) = nx B n s.1 := by unfold nx; rw [if_neg (by omega), een]
    have ML := mJ0_length (d + 3) g1 17 (by decide)
    obtain ⟨g2, eg2⟩ : ∃ g : mm_H, g = (mm_up g1.1 165 21 (nI (s.1 + 2)), g1.2.1, g1.2.2) := ⟨_, rfl⟩
    have f2 : mt_fr g1 g2 := by rw [eg2]; exact mt_p g1 _
    refine ⟨g2, ?_, f1.trans f2, fun _ => S1.a f2 (by rw [eg2]; exact S1.1.p _) (by omega) hnx, fun z => absurd hk z⟩
    refine mm_M.of [some (.ref 165), some (.ref (1000 + 17)), none] rfl rfl (Nat.le_of_ble_eq_true rfl) ?_
    refine mm_aload_n dX11_takes_0 rfl rfl ?_
    refine mm_cV (Y1 := YX11_blanks) dX11_takes_1 lX11_231 vX11_blanks (MB) sh_165 rfl rfl (by simp [Value.category]) ?_
    refine mm_aload_n dX11_takes_4 rfl rfl ?_
    refine mm_aload_n dX11_takes_5 rfl rfl ?_
    refine mm_cV (Y1 := YX11_stood) dX11_takes_6 lX11_234 vX11_stood (MS1) sh_165 rfl rfl (by simp [Value.category]) ?_
    refine mm_istore_n dX11_takes_9 rfl (by decide) rfl ?_
    refine mm_aload_n dX11_takes_10 rfl rfl ?_
    refine mm_dup dX11_takes_11 rfl ?_
    refine mm_getI dX11_takes_12 fX11_211 sh_165 rfl ?_
    refine mm_iload_n dX11_takes_15 rfl rfl ?_
    refine mm_if_eq 26 dX11_takes_16 (by decide) (fun c_16 => ?_) (fun c_16 => ?_)
    · exact absurd c_16 (by decide)
    · refine mm_aload_n dX11_takes_19 rfl rfl ?_
      refine mm_callVS (Y1 := YJ0_length_8abf5) dX11_takes_20 lX11_222 uJ0_length_8abf5 (ML) (by decide) rfl rfl (by simp [Value.category]) ?_
      refine mm_goto 27 dX11_takes_23 (by decide) ?_
      refine mm_iadd dX11_takes_27 ?_
      refine mm_putI dX11_takes_28 fX11_211 sh_165 rfl rfl rfl ?_
      refine mm_cast rfl rfl (g := g2) (by rw [eg2, ep]; exact congrArg (fun z => (mm_up g1.1 165 21 z, g1.2.1, g1.2.2)) (nI_add s.1 2)) ?_
      refine mm_iload_n dX11_takes_31 rfl rfl ?_
      exact mm_zretE dX11_takes_32 rfl (by decide) rfl rfl
  · rw [pI_0 hk] at MS1 ⊢
    refine ⟨g1, ?_, f1, fun z => absurd z hk, fun _ => S1⟩
    have e0 : (mm_up g1.1 165 21 (g1.1 165 21 + 0), g1.2.1, g1.2.2) = g1 := by
      rw [show g1.1 165 21 + 0 = g1.1 165 21 by simp, up_self rfl]
    refine mm_M.of [some (.ref 165), some (.ref (1000 + 17)), none] rfl rfl (Nat.le_of_ble_eq_true rfl) ?_
    refine mm_aload_n dX11_takes_0 rfl rfl ?_
    refine mm_cV (Y1 := YX11_blanks) dX11_takes_1 lX11_231 vX11_blanks (MB) sh_165 rfl rfl (by simp [Value.category]) ?_
    refine mm_aload_n dX11_takes_4 rfl rfl ?_
    refine mm_aload_n dX11_takes_5 rfl rfl ?_
    refine mm_cV (Y1 := YX11_stood) dX11_takes_6 lX11_234 vX11_stood (MS1) sh_165 rfl rfl (by simp [Value.category]) ?_
    refine mm_istore_n dX11_takes_9 rfl (by decide) rfl ?_
    refine mm_aload_n dX11_takes_10 rfl rfl ?_
    refine mm_dup dX11_takes_11 rfl ?_
    refine mm_getI dX11_takes_12 fX11_211 sh_165 rfl ?_
    refine mm_iload_n dX11_takes_15 rfl rfl ?_
    refine mm_if_eq 26 dX11_takes_16 (by decide) (fun c_16 => ?_) (fun c_16 => ?_)
    · refine mm_iconst (x := 0) dX11_takes_26 (by decide) ?_
      refine mm_iadd dX11_takes_27 ?_
      refine mm_putI dX11_takes_28 fX11_211 sh_165 rfl rfl rfl ?_
      refine mm_cast rfl rfl (g := g1) e0 ?_
      refine mm_iload_n dX11_takes_31 rfl rfl ?_
      exact mm_zretE dX11_takes_32 rfl (by decide) rfl rfl
    · exact absurd c_16 (by decide)
set_option maxRecDepth 100000 in
set_option maxHeartbeats 4000000 in
theorem mX11_lawClause (d : Nat) (h : mm_H) (B : Nat → Int32) (n r p : Nat) (hr : r < 6) (s : zl_S) (S : zm_S B n h r s p) (h26 : h.1 165 26 = 0) (hJ : zl_J 0 s) (cs : List zl_C) (L : LCM h r cs) (hc : cs.length ≤ 12) : ∃ g, mm_M (d + 11) YX11_lawClause [.ref 165, .int (nI cs.length)] h none g ∧ ml_fr r h g ∧ (zs_E (fun q => (∃ p1, zm_S B n g r q.1 p1) ∧ g.1 165 26 = 0 ∧ LCM g r (cs ++ [q.2])) (ME1 B n g r) (zl_c B n cs.length s)) := by
  have hn4 := S.1.2.2.2.2.1
  have hle := S.le
  have hv := S.2.2.2.2.2.2.2.2
  obtain ⟨m, em⟩ : ∃ m, m = cs.length := ⟨_, rfl⟩
  obtain ⟨g1, MB, f1, S1⟩ := mX11_blanks_s (d + 9) h B n r p s S
  have MS1 := mX11_stood (d + 6) g1 B n s.1 0 S1.1 hle 2 (by decide) (by decide)
  have MS2 := mX11_stood (d + 6) g1 B n s.1 0 S1.1 hle 1 (by decide) (by decide)
  rw [show ki 2 = 17 from rfl] at MS1
  rw [show ki 1 = 16 from rfl] at MS2
  have ep : g1.1 165 21 = nI s.1 := S1.1.2.1
  have ENT : ∀ g, mm_R (d + 11) YX11_lawClause 0 [some (.ref 165), some (.int (nI m)), none, none, none] [] h none g → mm_M (d + 11) YX11_lawClause [.ref 165, .int (nI m)] h none g := fun g k => mm_M.of _ rfl rfl (Nat.le_of_ble_eq_true rfl) k
  rw [← em] at hc ⊢
  by_cases k1 : kd B n s.1 = 16 ∨ kd B n s.1 = 17
  · obtain ⟨w, ew, hpos, een, T⟩ : ∃ w : Nat, w = kd B n s.1 - 16 ∧ s.1 < n ∧ en B n s.1 = s.1 + (if w = 1 then 8 else 4) ∧ ∀ v g, mm_R (d + 11) YX11_lawClause 36 [some (.ref 165), some (.int (nI m)), some (.int (nI s.1)), some (.int (nI w)), none] [] g1 v g → mm_R (d + 11) YX11_lawClause 0 [some (.ref 165), some (.int (nI m)), none, none, none] [] h v g := by
      rcases k1 with z | z
      · obtain ⟨q1, q2⟩ := en_w (i := 1) hle (by decide) (by decide) z
        refine ⟨0, by omega, q1, q2, fun v g K => ?_⟩
        rw [pI_0 (show ¬ kd B n s.1 = 17 by omega)] at MS1
        rw [pI_1 z] at MS2
        refine mm_aload_n dX11_lawClause_0 rfl rfl ?_
        refine mm_cV (Y1 := YX11_blanks) dX11_lawClause_1 lX11_231 vX11_blanks (MB) sh_165 rfl rfl (by simp [Value.category]) ?_
        refine mm_aload_n dX11_lawClause_4 rfl rfl ?_
        refine mm_getI dX11_lawClause_5 fX11_211 sh_165 rfl ?_
        refine mm_cast (st' := [.int (nI s.1)]) rfl (by rw [ep] <;> rfl) rfl ?_
        refine mm_istore_n dX11_lawClause_8 rfl (by decide) rfl ?_
        refine mm_aload_n dX11_lawClause_9 rfl rfl ?_
        refine mm_ldcS 2 dX11_lawClause_10 rfl ?_
        refine mm_cV (Y1 := YX11_stood) dX11_lawClause_12 lX11_234 vX11_stood (MS1) sh_165 rfl rfl (by simp [Value.category]) ?_
        refine mm_istore_n dX11_lawClause_15 rfl (by decide) rfl ?_
        refine mm_iload_n dX11_lawClause_16 rfl rfl ?_
        refine mm_if_ne 36 dX11_lawClause_17 (by decide) (fun c_17 => ?_) (fun c_17 => ?_)
        · exact absurd c_17 (by decide)
        · refine mm_aload_n dX11_lawClause_20 rfl rfl ?_
          refine mm_ldcS 1 dX11_lawClause_21 rfl ?_
          refine mm_cV (Y1 := YX11_stood) dX11_lawClause_23 lX11_234 vX11_stood (MS2) sh_165 rfl rfl (by simp [Value.category]) ?_
          refine mm_if_ne 36 dX11_lawClause_26 (by decide) (fun c_26 => ?_) (fun c_26 => ?_)
          · exact K
          · exact absurd c_26 (by decide)
      · obtain ⟨q1, q2⟩ := en_w (i := 2) hle (by decide) (by decide) z
        refine ⟨1, by omega, q1, q2, fun v g K => ?_⟩
        rw [pI_1 z] at MS1
        refine mm_aload_n dX11_lawClause_0 rfl rfl ?_
        refine mm_cV (Y1 := YX11_blanks) dX11_lawClause_1 lX11_231 vX11_blanks (MB) sh_165 rfl rfl (by simp [Value.category]) ?_
        refine mm_aload_n dX11_lawClause_4 rfl rfl ?_
        refine mm_getI dX11_lawClause_5 fX11_211 sh_165 rfl ?_
        refine mm_cast (st' := [.int (nI s.1)]) rfl (by rw [ep] <;> rfl) rfl ?_
        refine mm_istore_n dX11_lawClause_8 rfl (by decide) rfl ?_
        refine mm_aload_n dX11_lawClause_9 rfl rfl ?_
        refine mm_ldcS 2 dX11_lawClause_10 rfl ?_
        refine mm_cV (Y1 := YX11_stood) dX11_lawClause_12 lX11_234 vX11_stood (MS1) sh_165 rfl rfl (by simp [Value.category]) ?_
        refine mm_istore_n dX11_lawClause_15 rfl (by decide) rfl ?_
        refine mm_iload_n dX11_lawClause_16 rfl rfl ?_
        refine mm_if_ne 36 dX11_lawClause_17 (by decide) (fun c_17 => ?_) (fun c_17 => ?_)
        · exact K
        · exact absurd c_17 (by decide)
    have hen := en_bd (B := B) hpos
    have hw1 : w ≤ 1 := by omega
    by_cases k2 : 12 ≤ m
    · have e : zl_c B n m s = .error (1 + 8 * s.1 + 4) := by unfold zl_c; rw [if_neg (fun z => z k1), if_pos k2]
      rw [e]
      have MF := mX11_fails (d + 10) g1 B n s.1 0 S1.1 (by omega) (by omega) s.1 4 (by omega) (by decide)
      rw [flt_0] at MF
      have E := S1.e (mt_q g1 _).mc (S1.1.f (1 + 8 * s.1 + 4)) hle (by omega) (by omega)
      refine ⟨_, ENT _ (T none (mm_up g1.1 165 22 (nI (1 + 8 * s.1 + 4)), g1.2.1, g1.2.2) ?_), (f1.trans (mt_q g1 _)).ml, E.m1⟩
      refine mm_iload_n dX11_lawClause_36 rfl rfl ?_
      refine mm_bipush (x := 12) dX11_lawClause_37 (by decide) ?_
      refine mm_icmp_ne 49 dX11_lawClause_39 (by decide) (fun c_39 => ?_) (fun c_39 => ?_)
      · exact absurd (by rw [show m = 12 by omega]; rfl) c_39
      · refine mm_aload_n dX11_lawClause_42 rfl rfl ?_
        refine mm_iconst (x := 4) dX11_lawClause_43 (by decide) ?_
        refine mm_iload_n dX11_lawClause_44 rfl rfl ?_
        refine mm_cV (Y1 := YX11_fails) dX11_lawClause_45 lX11_247 vX11_fails (MF) sh_165 rfl rfl (by simp [Value.category]) ?_
        exact mm_retE dX11_lawClause_48 rfl rfl
    · have e : zl_c B n m s = zl_b (zl_m B n (n + 1) (zl_a B n s)) (fun s1 => zl_b (if kd B n s1.1 = 29 then zl_x B n (4 * n + 5) 1 0 (zl_a B n s1) else .ok s1) (fun s2 => .ok (s2, (w, s.2.2.length, s1.2.2.length, s2.2.2.length)))) := by unfold zl_c; rw [if_neg (fun z => z k1), if_neg k2, ew]
      rw [e]
      obtain ⟨g2, eg2⟩ : ∃ g : mm_H, g = (mm_up g1.1 165 21 (nI (en B n s.1)), g1.2.1, g1.2.2) := ⟨_, rfl⟩
      have f2 : mt_fr g1 g2 := by rw [eg2]; exact mt_p g1 _
      have hnx : sk B n (en B n s.1) = nx B n s.1 := by unfold nx; rw [if_neg (by omega)]
      have S2 : zm_S B n g2 r (zl_a B n s) (en B n s.1) := S1.a f2 (by rw [eg2]; exact S1.1.p _) hen.2 hnx
      have e23 : g2.1 165 23 = nI r := S2.2.2.2.2.2.1
      have e25 : g2.1 165 25 = nI s.2.2.length := S2.2.2.2.2.1
      obtain ⟨at4, eat⟩ : ∃ a, a = 12 * r + m := ⟨_, rfl⟩
      have e12 : (12 : Int32) * nI r + nI m = nI at4 := by rw [show (12 : Int32) * nI r = nI (12 * r) from pk_mul 12 r, nI_add, eat]
      obtain ⟨g3a, eg3a⟩ : ∃ g : mm_H, g = (mm_up g2.1 189 at4 (nI w), g2.2.1, g2.2.2) := ⟨_, rfl⟩
      obtain ⟨g3, eg3⟩ : ∃ g : mm_H, g = (mm_up g3a.1 190 at4 (g3a.1 165 25), g3a.2.1, g3a.2.2) := ⟨_, rfl⟩
      have f3 : ml_fr r g2 g3 := by rw [eg3]; refine ml_fr.trans (g := g3a) ?_ (ml_up (by decide) (by omega)); rw [eg3a]; exact ml_up (by decide) (by omega)
      have o3 : ∀ c, c ≠ 189 → c ≠ 190 → g3.1 c = g2.1 c := fun c h1 h2 => by rw [eg3]; dsimp only; rw [mm_up_n h2, eg3a]; dsimp only; rw [mm_up_n h1]
      have S3 : zm_S B n g3 r (zl_a B n s) (en B n s.1) := S2.o (o3 _ (by decide) (by decide)) (o3 _ (by decide) (by decide)) (o3 _ (by decide) (by decide)) (o3 _ (by decide) (by decide))
      obtain ⟨ad1, ad2, ad3⟩ := zl_a_bd (B := B) (s := s) hle (by omega)
      have J2 := ad3 _ hJ
      obtain ⟨g4, M4, f4, R4⟩ := mX11_sum (d + 3) g3 B n r (en B n s.1) hr (zl_a B n s) S3 (zl_J_le J2 (by omega)) (n + 1) (by omega)
      obtain ⟨g5, eg5⟩ : ∃ g : mm_H, g = (mm_up g4.1 191 at4 (g4.1 165 25), g4.2.1, g4.2.2) := ⟨_, rfl⟩
      have o5 : ∀ c, c ≠ 191 → g5.1 c = g4.1 c := fun c h1 => by rw [eg5]; dsimp only; rw [mm_up_n h1]
      have f5 : ml_fr r g4 g5 := by rw [eg5]; exact ml_up (by decide) (by omega)
      have fA : ml_fr r h g5 := (((f1.trans f2).ml.trans f3).trans f4.mw.ml).trans f5
      have v189 : g4.1 189 = g3.1 189 := f4.1.i rfl
      have v190 : g4.1 190 = g3.1 190 := f4.1.i rfl
      have x189 : g5.1 189 at4 = nI w := by rw [o5 189 (by decide), v189, eg3]; dsimp only; rw [mm_up_n (by decide), eg3a]; dsimp only; rw [mm_up_e]
      have x190 : g5.1 190 at4 = nI s.2.2.length := by rw [o5 190 (by decide), v190, eg3]; dsimp only; rw [mm_up_e, eg3a]; dsimp only; rw [mm_up_n (by decide)]; exact e25
      have x191 : g5.1 191 at4 = g4.1 165 25 := by rw [eg5]; dsimp only; rw [mm_up_e]
      have fin : ∀ gg, ml_fr r h gg → ml_fr r h (mm_up gg.1 192 at4 (gg.1 165 25), gg.2.1, gg.2.2) := fun gg q => q.trans (ml_up (by decide) (by omega))
      have n8 : ∀ (gg : mm_H) c, c ≠ 192 → (mm_up gg.1 192 at4 (gg.1 165 25), gg.2.1, gg.2.2).1 c = gg.1 c := fun gg c hc => by dsimp only; rw [mm_up_n hc]
      have T2 : ∀ v g, mm_R (d + 11) YX11_lawClause 121 [some (.ref 165), some (.int (nI m)), some (.int (nI s.1)), some (.int (nI w)), some (.int (nI at4))] [] g5 v g → mm_R (d + 11) YX11_lawClause 36 [some (.ref 165), some (.int (nI m)), some (.int (nI s.1)), some (.int (nI w)), none] [] g1 v g := by
        intro v g K
        rcases (show w = 0 ∨ w = 1 by omega) with z | z
        · subst z
          have een : en B n s.1 = s.1 + 4 := een
          refine mm_iload_n dX11_lawClause_36 rfl rfl ?_
          refine mm_bipush (x := 12) dX11_lawClause_37 (by decide) ?_
          refine mm_icmp_ne 49 dX11_lawClause_39 (by decide) (fun c_39 => ?_) (fun c_39 => ?_)
          · refine mm_aload_n dX11_lawClause_49 rfl rfl ?_
            refine mm_dup dX11_lawClause_50 rfl ?_
            refine mm_getI dX11_lawClause_51 fX11_211 sh_165 rfl ?_
            refine mm_iload_n dX11_lawClause_54 rfl rfl ?_
            refine mm_if_eq 63 dX11_lawClause_55 (by decide) (fun c_55 => ?_) (fun c_55 => ?_)
            · refine mm_iconst (x := 4) dX11_lawClause_63 (by decide) ?_
              refine mm_iadd dX11_lawClause_64 ?_
              refine mm_putI dX11_lawClause_65 fX11_211 sh_165 rfl rfl rfl ?_
              refine mm_cast rfl rfl (g := g2) (by rw [eg2, ep, een]; exact congrArg (fun z => (mm_up g1.1 165 21 z, g1.2.1, g1.2.2)) (nI_add s.1 4)) ?_
              refine mm_bipush (x := 12) dX11_lawClause_68 (by decide) ?_
              refine mm_aload_n dX11_lawClause_70 rfl rfl ?_
              refine mm_getI dX11_lawClause_71 fX11_238 sh_165 rfl ?_
              refine mm_imul dX11_lawClause_74 ?_
              refine mm_iload_n dX11_lawClause_75 rfl rfl ?_
              refine mm_iadd dX11_lawClause_76 ?_
              refine mm_cast (st' := [.int (nI at4)]) rfl (by rw [e23, e12]) rfl ?_
              refine mm_istore dX11_lawClause_77 (by decide) rfl ?_
              refine mm_aload_n dX11_lawClause_79 rfl rfl ?_
              refine mm_getS dX11_lawClause_80 fX11_84 sh_165 rfl gr_165_36 ?_
              refine mm_iload dX11_lawClause_83 rfl ?_
              refine mm_iload_n dX11_lawClause_85 rfl rfl ?_
              refine mm_if_eq 93 dX11_lawClause_86 (by decide) (fun c_86 => ?_) (fun c_86 => ?_)
              · refine mm_iconst (x := 0) dX11_lawClause_93 (by decide) ?_
                refine mm_iast (at4) dX11_lawClause_94 sh_189 rfl (by omega) ?_
                refine mm_cast rfl rfl (g := g3a) (by rw [eg3a]; rfl) ?_
                refine mm_aload_n dX11_lawClause_95 rfl rfl ?_
                refine mm_getS dX11_lawClause_96 fX11_87 sh_165 rfl gr_165_37 ?_
                refine mm_iload dX11_lawClause_99 rfl ?_
                refine mm_aload_n dX11_lawClause_101 rfl rfl ?_
                refine mm_getI dX11_lawClause_102 fX11_241 sh_165 rfl ?_
                refine mm_iast (at4) dX11_lawClause_105 sh_190 rfl (by omega) ?_
                refine mm_cast rfl rfl (g := g3) eg3.symm ?_
                refine mm_aload_n dX11_lawClause_106 rfl rfl ?_
                refine mm_cV (Y1 := YX11_sum) dX11_lawClause_107 lX11_276 vX11_sum (M4) sh_165 rfl rfl (by simp [Value.category]) ?_
                refine mm_aload_n dX11_lawClause_110 rfl rfl ?_
                refine mm_getS dX11_lawClause_111 fX11_90 sh_165 rfl gr_165_38 ?_
                refine mm_iload dX11_lawClause_114 rfl ?_
                refine mm_aload_n dX11_lawClause_116 rfl rfl ?_
                refine mm_getI dX11_lawClause_117 fX11_241 sh_165 rfl ?_
                refine mm_iast (at4) dX11_lawClause_120 sh_191 rfl (by omega) ?_
                exact mm_cast rfl rfl eg5.symm K
              · exact absurd c_86 (by decide)
            · exact absurd c_55 (by decide)
          · exact absurd ((nI_eq (b := 12) (by omega) (by omega)).mp c_39) (by omega)
        · subst z
          have een : en B n s.1 = s.1 + 8 := een
          refine mm_iload_n dX11_lawClause_36 rfl rfl ?_
          refine mm_bipush (x := 12) dX11_lawClause_37 (by decide) ?_
          refine mm_icmp_ne 49 dX11_lawClause_39 (by decide) (fun c_39 => ?_) (fun c_39 => ?_)
          · refine mm_aload_n dX11_lawClause_49 rfl rfl ?_
            refine mm_dup dX11_lawClause_50 rfl ?_
            refine mm_getI dX11_lawClause_51 fX11_211 sh_165 rfl ?_
            refine mm_iload_n dX11_lawClause_54 rfl rfl ?_
            refine mm_if_eq 63 dX11_lawClause_55 (by decide) (fun c_55 => ?_) (fun c_55 => ?_)
            · exact absurd c_55 (by decide)
            · refine mm_bipush (x := 8) dX11_lawClause_58 (by decide) ?_
              refine mm_goto 64 dX11_lawClause_60 (by decide) ?_
              refine mm_iadd dX11_lawClause_64 ?_
              refine mm_putI dX11_lawClause_65 fX11_211 sh_165 rfl rfl rfl ?_
              refine mm_cast rfl rfl (g := g2) (by rw [eg2, ep, een]; exact congrArg (fun z => (mm_up g1.1 165 21 z, g1.2.1, g1.2.2)) (nI_add s.1 8)) ?_
              refine mm_bipush (x := 12) dX11_lawClause_68 (by decide) ?_
              refine mm_aload_n dX11_lawClause_70 rfl rfl ?_
              refine mm_getI dX11_lawClause_71 fX11_238 sh_165 rfl ?_
              refine mm_imul dX11_lawClause_74 ?_
              refine mm_iload_n dX11_lawClause_75 rfl rfl ?_
              refine mm_iadd dX11_lawClause_76 ?_
              refine mm_cast (st' := [.int (nI at4)]) rfl (by rw [e23, e12]) rfl ?_
              refine mm_istore dX11_lawClause_77 (by decide) rfl ?_
              refine mm_aload_n dX11_lawClause_79 rfl rfl ?_
              refine mm_getS dX11_lawClause_80 fX11_84 sh_165 rfl gr_165_36 ?_
              refine mm_iload dX11_lawClause_83 rfl ?_
              refine mm_iload_n dX11_lawClause_85 rfl rfl ?_
              refine mm_if_eq 93 dX11_lawClause_86 (by decide) (fun c_86 => ?_) (fun c_86 => ?_)
              · exact absurd c_86 (by decide)
              · refine mm_iconst (x := 1) dX11_lawClause_89 (by decide) ?_
                refine mm_goto 94 dX11_lawClause_90 (by decide) ?_
                refine mm_iast (at4) dX11_lawClause_94 sh_189 rfl (by omega) ?_
                refine mm_cast rfl rfl (g := g3a) (by rw [eg3a]; rfl) ?_
                refine mm_aload_n dX11_lawClause_95 rfl rfl ?_
                refine mm_getS dX11_lawClause_96 fX11_87 sh_165 rfl gr_165_37 ?_
                refine mm_iload dX11_lawClause_99 rfl ?_
                refine mm_aload_n dX11_lawClause_101 rfl rfl ?_
                refine mm_getI dX11_lawClause_102 fX11_241 sh_165 rfl ?_
                refine mm_iast (at4) dX11_lawClause_105 sh_190 rfl (by omega) ?_
                refine mm_cast rfl rfl (g := g3) eg3.symm ?_
                refine mm_aload_n dX11_lawClause_106 rfl rfl ?_
                refine mm_cV (Y1 := YX11_sum) dX11_lawClause_107 lX11_276 vX11_sum (M4) sh_165 rfl rfl (by simp [Value.category]) ?_
                refine mm_aload_n dX11_lawClause_110 rfl rfl ?_
                refine mm_getS dX11_lawClause_111 fX11_90 sh_165 rfl gr_165_38 ?_
                refine mm_iload dX11_lawClause_114 rfl ?_
                refine mm_aload_n dX11_lawClause_116 rfl rfl ?_
                refine mm_getI dX11_lawClause_117 fX11_241 sh_165 rfl ?_
                refine mm_iast (at4) dX11_lawClause_120 sh_191 rfl (by omega) ?_
                exact mm_cast rfl rfl eg5.symm K
          · exact absurd ((nI_eq (b := 12) (by omega) (by omega)).mp c_39) (by omega)
      have K142 : ∀ gg : mm_H, mm_R (d + 11) YX11_lawClause 142 [some (.ref 165), some (.int (nI m)), some (.int (nI s.1)), some (.int (nI w)), some (.int (nI at4))] [] gg none (mm_up gg.1 192 at4 (gg.1 165 25), gg.2.1, gg.2.2) := by
        intro gg
        refine mm_aload_n dX11_lawClause_142 rfl rfl ?_
        refine mm_getS dX11_lawClause_143 fX11_93 sh_165 rfl gr_165_39 ?_
        refine mm_iload dX11_lawClause_146 rfl ?_
        refine mm_aload_n dX11_lawClause_148 rfl rfl ?_
        refine mm_getI dX11_lawClause_149 fX11_241 sh_165 rfl ?_
        refine mm_iast (at4) dX11_lawClause_152 sh_192 rfl (by omega) ?_
        exact mm_retE dX11_lawClause_153 rfl rfl
      cases e1 : zl_m B n (n + 1) (zl_a B n s) with
      | error c =>
        rw [e1] at R4
        rw [zl_b_e]
        have E5 : ME1 B n g5 r c := (ME.m1 R4).o (o5 _ (by decide)) (o5 _ (by decide))
        have f0 := E5.f0
        refine ⟨_, ENT _ (T _ _ (T2 none (mm_up g5.1 192 at4 (g5.1 165 25), g5.2.1, g5.2.2) ?_)), fin g5 fA, E5.o (n8 _ _ (by decide)) (n8 _ _ (by decide))⟩
        refine mm_aload_n dX11_lawClause_121 rfl rfl ?_
        refine mm_getI dX11_lawClause_122 fX11_208 sh_165 rfl ?_
        refine mm_if_ne 142 dX11_lawClause_125 (by decide) (fun c_125 => ?_) (fun c_125 => ?_)
        · exact K142 g5
        · exact absurd c_125 f0
      | ok s1 =>
        rw [e1] at R4
        rw [zl_b_k]
        replace R4 : zm_S B n g4 r s1 s1.1 := R4
        have S5 : zm_S B n g5 r s1 s1.1 := R4.o (o5 _ (by decide)) (o5 _ (by decide)) (o5 _ (by decide)) (o5 _ (by decide))
        have f0 := S5.f0
        obtain ⟨q1, q2, q3, q4⟩ := zl_m_fwd ad1 e1
        have J4 := q4 _ J2
        have y191 : g5.1 191 at4 = nI s1.2.2.length := by rw [x191]; exact R4.2.2.2.2.1
        have d5 : g5.1 165 26 = 0 := by rw [o5 165 (by decide), f4.2.1 26 (by decide) (by decide) (by decide) (by decide), o3 165 (by decide) (by decide), f2.2 26 (by decide) (by decide), f1.2 26 (by decide) (by decide)]; exact h26
        obtain ⟨g6, M6, f6, R6, R6n⟩ := mX11_takes (d + 5) g5 B n r s1.1 s1 S5
        /- the rows of clauses, from g5 on -/
        have LF : ∀ (gg : mm_H) (s2 : zl_S), ml_fr r h gg → gg.1 189 = g5.1 189 → gg.1 190 = g5.1 190 → gg.1 191 = g5.1 191 → gg.1 192 = g5.1 192 → gg.1 165 25 = nI s2.2.2.length → LCM (mm_up gg.1 192 at4 (gg.1 165 25), gg.2.1, gg.2.2) r (cs ++ [(w, s.2.2.length, s1.2.2.length, s2.2.2.length)]) := by
          intro gg s2 fg u1 u2 u3 u5 u4 c hc2
          rw [List.length_append] at hc2
          simp only [List.length_cons, List.length_nil] at hc2
          rw [gD_app]
          dsimp only
          rw [mm_up_n (show 189 ≠ 192 by decide), mm_up_n (show 190 ≠ 192 by decide), mm_up_n (show 191 ≠ 192 by decide), u1, u2, u3]
          by_cases z : c = cs.length
          · rw [if_neg (by omega), if_pos z, z, ← em, ← eat]
            exact ⟨x189, x190, y191, by rw [mm_up_e]; exact u4⟩
          · rw [if_pos (by omega)]
            obtain ⟨l1, l2, l3, l4⟩ := L c (by omega)
            have ne : 12 * r + c ≠ at4 := by omega
            have b0 : ∀ b, 189 ≤ b → b ≤ 192 → g2.1 b = h.1 b := fun b h1 h2 => by rw [f2.1.i (by simp only [onep, beq_eq_false_iff_ne]; omega), f1.1.i (by simp only [onep, beq_eq_false_iff_ne]; omega)]
            refine ⟨?_, ?_, ?_, ?_⟩
            · rw [o5 189 (by decide), v189, eg3]; dsimp only; rw [mm_up_n (by decide), eg3a]; dsimp only; rw [mm_up_k ne, b0 189 (by decide) (by decide)]; exact l1
            · rw [o5 190 (by decide), v190, eg3]; dsimp only; rw [mm_up_k ne, eg3a]; dsimp only; rw [mm_up_n (by decide), b0 190 (by decide) (by decide)]; exact l2
            · rw [eg5]; dsimp only; rw [mm_up_k ne, f4.1.i (c := 191) rfl, o3 191 (by decide) (by decide), b0 191 (by decide) (by decide)]; exact l3
            · rw [mm_up_k ne, u5, o5 192 (by decide), f4.1.i (c := 192) rfl, o3 192 (by decide) (by decide), b0 192 (by decide) (by decide)]; exact l4
        have oo : ∀ c, 189 ≤ c → c ≤ 192 → g6.1 c = g5.1 c := fun c h1 h2 => f6.1.i (by simp only [onep, beq_eq_false_iff_ne]; omega)
        have d6 : g6.1 165 26 = 0 := by rw [f6.2 26 (by decide) (by decide)]; exact d5
        by_cases k29 : kd B n s1.1 = 29
        · rw [if_pos k29]
          rw [pI_1 k29] at M6
          have S6 := R6 k29
          obtain ⟨ae1, ae2, ae3⟩ := zl_a_bd (B := B) (s := s1) q1 (by omega)
          have J6 := ae3 _ J4
          obtain ⟨g7, M7, f7, R7⟩ := mX11_test d g6 B n r (s1.1 + 2) hr (zl_a B n s1) S6 d6 (zl_J_le J6 (by omega)) (4 * n + 5) (by omega)
          have fB : ml_fr r h g7 := (fA.trans f6.ml).trans f7.ml
          have o7 : ∀ c, 189 ≤ c → c ≤ 192 → g7.1 c = g5.1 c := fun c h1 h2 => by rw [f7.1.i (by simp only [pMW, Bool.or_eq_false_iff, beq_eq_false_iff_ne]; omega)]; exact oo c h1 h2
          have K : mm_R (d + 11) YX11_lawClause 121 [some (.ref 165), some (.int (nI m)), some (.int (nI s.1)), some (.int (nI w)), some (.int (nI at4))] [] g5 none (mm_up g7.1 192 at4 (g7.1 165 25), g7.2.1, g7.2.2) := by
            refine mm_aload_n dX11_lawClause_121 rfl rfl ?_
            refine mm_getI dX11_lawClause_122 fX11_208 sh_165 rfl ?_
            refine mm_if_ne 142 dX11_lawClause_125 (by decide) (fun c_125 => ?_) (fun c_125 => ?_)
            · exact absurd f0 c_125
            · refine mm_aload_n dX11_lawClause_128 rfl rfl ?_
              refine mm_ldcWS 17 dX11_lawClause_129 rfl ?_
              refine mm_cV (Y1 := YX11_takes) dX11_lawClause_132 lX11_341 vX11_takes (M6) sh_165 rfl rfl (by simp [Value.category]) ?_
              refine mm_if_eq 142 dX11_lawClause_135 (by decide) (fun c_135 => ?_) (fun c_135 => ?_)
              · exact absurd c_135 (by decide)
              · refine mm_aload_n dX11_lawClause_138 rfl rfl ?_
                refine mm_cV (Y1 := YX11_test) dX11_lawClause_139 lX11_344 vX11_test (M7) sh_165 rfl rfl (by simp [Value.category]) ?_
                exact K142 g7
          cases e2 : zl_x B n (4 * n + 5) 1 0 (zl_a B n s1) with
          | error c =>
            rw [e2] at R7
            rw [zl_b_e]
            replace R7 : ME1 B n g7 r c := R7
            exact ⟨_, ENT _ (T _ _ (T2 _ _ K)), fin g7 fB, R7.o (n8 _ _ (by decide)) (n8 _ _ (by decide))⟩
          | ok s2 =>
            rw [e2] at R7
            rw [zl_b_k]
            obtain ⟨S7, d7⟩ := R7
            exact ⟨_, ENT _ (T _ _ (T2 _ _ K)), fin g7 fB, ⟨s2.1, S7.o (n8 _ _ (by decide)) (n8 _ _ (by decide)) (n8 _ _ (by decide)) (n8 _ _ (by decide))⟩, by rw [n8 _ _ (by decide)]; exact d7, LF g7 s2 fB (o7 _ (by decide) (by decide)) (o7 _ (by decide) (by decide)) (o7 _ (by decide) (by decide)) (o7 _ (by decide) (by decide)) S7.2.2.2.2.1⟩
        · rw [if_neg k29, zl_b_k]
          rw [pI_0 k29] at M6
          have S6 := R6n k29
          have fB : ml_fr r h g6 := fA.trans f6.ml
          have K : mm_R (d + 11) YX11_lawClause 121 [some (.ref 165), some (.int (nI m)), some (.int (nI s.1)), some (.int (nI w)), some (.int (nI at4))] [] g5 none (mm_up g6.1 192 at4 (g6.1 165 25), g6.2.1, g6.2.2) := by
            refine mm_aload_n dX11_lawClause_121 rfl rfl ?_
            refine mm_getI dX11_lawClause_122 fX11_208 sh_165 rfl ?_
            refine mm_if_ne 142 dX11_lawClause_125 (by decide) (fun c_125 => ?_) (fun c_125 => ?_)
            · exact absurd f0 c_125
            · refine mm_aload_n dX11_lawClause_128 rfl rfl ?_
              refine mm_ldcWS 17 dX11_lawClause_129 rfl ?_
              refine mm_cV (Y1 := YX11_takes) dX11_lawClause_132 lX11_341 vX11_takes (M6) sh_165 rfl rfl (by simp [Value.category]) ?_
              refine mm_if_eq 142 dX11_lawClause_135 (by decide) (fun c_135 => ?_) (fun c_135 => ?_)
              · exact K142 g6
              · exact absurd c_135 (by decide)
          exact ⟨_, ENT _ (T _ _ (T2 _ _ K)), fin g6 fB, ⟨s1.1, S6.o (n8 _ _ (by decide)) (n8 _ _ (by decide)) (n8 _ _ (by decide)) (n8 _ _ (by decide))⟩, by rw [n8 _ _ (by decide)]; exact d6, LF g6 s1 fB (oo _ (by decide) (by decide)) (oo _ (by decide) (by decide)) (oo _ (by decide) (by decide)) (oo _ (by decide) (by decide)) S6.2.2.2.2.1⟩
  · have e : zl_c B n m s = .error (1 + 8 * s.1) := by unfold zl_c; rw [if_pos k1]
    rw [e]
    have MF := mX11_fails (d + 10) g1 B n s.1 0 S1.1 (by omega) (by omega) s.1 0 (by omega) (by decide)
    rw [flt_0] at MF
    rw [pI_0 (fun z => k1 (Or.inr z))] at MS1
    rw [pI_0 (fun z => k1 (Or.inl z))] at MS2
    have E := S1.e (mt_q g1 _).mc (S1.1.f (1 + 8 * s.1)) hle (by omega) (by omega)
    refine ⟨_, ENT (mm_up g1.1 165 22 (nI (1 + 8 * s.1)), g1.2.1, g1.2.2) ?_, (f1.trans (mt_q g1 _)).ml, E.m1⟩
    refine mm_aload_n dX11_lawClause_0 rfl rfl ?_
    refine mm_cV (Y1 := YX11_blanks) dX11_lawClause_1 lX11_231 vX11_blanks (MB) sh_165 rfl rfl (by simp [Value.category]) ?_
    refine mm_aload_n dX11_lawClause_4 rfl rfl ?_
    refine mm_getI dX11_lawClause_5 fX11_211 sh_165 rfl ?_
    refine mm_cast (st' := [.int (nI s.1)]) rfl (by rw [ep] <;> rfl) rfl ?_
    refine mm_istore_n dX11_lawClause_8 rfl (by decide) rfl ?_
    refine mm_aload_n dX11_lawClause_9 rfl rfl ?_
    refine mm_ldcS 2 dX11_lawClause_10 rfl ?_
    refine mm_cV (Y1 := YX11_stood) dX11_lawClause_12 lX11_234 vX11_stood (MS1) sh_165 rfl rfl (by simp [Value.category]) ?_
    refine mm_istore_n dX11_lawClause_15 rfl (by decide) rfl ?_
    refine mm_iload_n dX11_lawClause_16 rfl rfl ?_
    refine mm_if_ne 36 dX11_lawClause_17 (by decide) (fun c_17 => ?_) (fun c_17 => ?_)
    · exact absurd c_17 (by decide)
    · refine mm_aload_n dX11_lawClause_20 rfl rfl ?_
      refine mm_ldcS 1 dX11_lawClause_21 rfl ?_
      refine mm_cV (Y1 := YX11_stood) dX11_lawClause_23 lX11_234 vX11_stood (MS2) sh_165 rfl rfl (by simp [Value.category]) ?_
      refine mm_if_ne 36 dX11_lawClause_26 (by decide) (fun c_26 => ?_) (fun c_26 => ?_)
      · exact absurd c_26 (by decide)
      · refine mm_aload_n dX11_lawClause_29 rfl rfl ?_
        refine mm_iconst (x := 0) dX11_lawClause_30 (by decide) ?_
        refine mm_iload_n dX11_lawClause_31 rfl rfl ?_
        refine mm_cV (Y1 := YX11_fails) dX11_lawClause_32 lX11_247 vX11_fails (MF) sh_165 rfl rfl (by simp [Value.category]) ?_
        exact mm_retE dX11_lawClause_35 rfl rfl
