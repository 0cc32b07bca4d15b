/-! The reference reads a mint's clause. -/
def viewN (h : mm_H) (A : MD) : Prop := h.1 173 0 = nI (mn A) ∧ h.1 173 1 = nI (mk A) ∧ h.1 173 2 = mb A ∧ h.1 173 3 = mf A ∧ (∀ c, c < mn A → h.1 174 c = mr A 0 c ∧ h.1 175 c = mr A 1 c ∧ h.1 176 c = mr A 2 c ∧ h.1 177 c = mr A 3 c) ∧ ∀ c, c < mk A → h.1 178 c = mr A 6 c ∧ h.1 179 c = mr A 7 c
def pN : Nat → Bool := fun c => c == 165 || rg 173 179 c
def mn_fr (h g : mm_H) : Prop := frm pN h g ∧ ∀ j, j ≠ 21 → j ≠ 22 → j ≠ 30 → j ≠ 31 → g.1 165 j = h.1 165 j
theorem mn_fr.refl (h : mm_H) : mn_fr h h := ⟨frm.refl _ _, fun _ _ _ _ _ => rfl⟩
theorem mn_fr.trans {h g k : mm_H} (a : mn_fr h g) (b : mn_fr g k) : mn_fr h k := ⟨a.1.trans b.1, fun j h1 h2 h3 h4 => (b.2 j h1 h2 h3 h4).trans (a.2 j h1 h2 h3 h4)⟩
theorem mt_fr.mn {h g : mm_H} (a : mt_fr h g) : mn_fr h g := ⟨a.1.mono (fun c hc => by simp only [pN, Bool.or_eq_false_iff] at hc; exact hc.1), fun j h1 h2 _ _ => a.2 j h1 h2⟩
theorem mn_up {h : mm_H} {c k : Nat} {x : Int32} (hc : 173 ≤ c ∧ c ≤ 179) : mn_fr h (mm_up h.1 c k x, h.2.1, h.2.2) := ⟨(frm.refl _ h).up (c := c) (by simp only [pN, Bool.or_eq_true]; exact Or.inr (rg_t hc)), fun j _ _ _ _ => by dsimp only; rw [mm_up_n (by omega)]⟩
theorem mn_fl {h : mm_H} {k : Nat} {x : Int32} (hk : k = 30 ∨ k = 31) : mn_fr h (mm_up h.1 165 k x, h.2.1, h.2.2) := ⟨(frm.refl _ h).up (c := 165) rfl, fun j _ _ h3 h4 => by dsimp only; rw [mm_up_k (by omega)]⟩
theorem RM_u {B : Nat → Int32} {n p : Nat} {s : Nat × Nat} {g : mm_H} (t : RM B n g p s) {c k : Nat} {x : Int32} (h1 : c ≠ 165) (h2 : c ≠ 185) : RM B n (mm_up g.1 c k x, g.2.1, g.2.2) p s := by
  obtain ⟨⟨a1, a2, a3, a4, a5⟩, b⟩ := t
  refine ⟨⟨?_, ?_, ?_, fun i hi => ?_, a5⟩, b⟩
  · dsimp only; rw [mm_up_n (fun z => h1 z.symm)]; exact a1
  · dsimp only; rw [mm_up_n (fun z => h1 z.symm)]; exact a2
  · dsimp only; rw [mm_up_n (fun z => h1 z.symm)]; exact a3
  · dsimp only; rw [mm_up_n (fun z => h2 z.symm)]; exact a4 i hi
theorem RM_fl {B : Nat → Int32} {n p : Nat} {s : Nat × Nat} {g : mm_H} (t : RM B n g p s) {k : Nat} {x : Int32} (h1 : k ≠ 20) (h2 : k ≠ 21) (h3 : k ≠ 22) : RM B n (mm_up g.1 165 k x, g.2.1, g.2.2) p s := by
  obtain ⟨⟨a1, a2, a3, a4, a5⟩, b⟩ := t
  refine ⟨⟨?_, ?_, ?_, fun i hi => ?_, a5⟩, b⟩
  · dsimp only; rw [mm_up_k (fun z => h1 z.symm)]; exact a1
  · dsimp only; rw [mm_up_k (fun z => h2 z.symm)]; exact a2
  · dsimp only; rw [mm_up_k (fun z => h3 z.symm)]; exact a3
  · dsimp only; rw [mm_up_n (by decide)]; exact a4 i hi
theorem rd_0 {B : Nat → Int32} {n : Nat} {s : Nat × Nat} {lo hi : Int32} (h : (rd B n s lo hi).2 = 0) : s.2 = 0 := by
  unfold rd at h
  by_cases z : s.2 = 0
  · exact z
  · rw [if_neg z] at h; exact h
/-- the reference's reader of a mint -/
def NS (B : Nat → Int32) (n : Nat) (h : mm_H) (A : MD) (bt dt p : Nat) : Prop := MT B n h p 0 ∧ p ≤ n ∧ viewN h A ∧ h.1 165 30 = nI bt ∧ h.1 165 31 = nI dt ∧ mn A ≤ 12 ∧ mk A ≤ 4 ∧ bt ≤ 1 ∧ dt ≤ 1
def mclN (B : Nat → Int32) (n : Nat) (g : mm_H) (r : Except Nat (MD × Nat × Nat × Nat)) : Prop := match r with
  | .ok q => ∃ p, NS B n g q.1 q.2.1 q.2.2.1 p ∧ sk B n p = q.2.2.2
  | .error c => ∃ p, MT B n g p c ∧ p ≤ n ∧ ¬ c = 0 ∧ c < 4000
set_option maxRecDepth 100000 in
set_option maxHeartbeats 4000000 in
theorem mX11_mintPart_0 (d : Nat) (h : mm_H) (B : Nat → Int32) (n p pos : Nat) (t : RM B n h p (nx B n pos, 0)) (A : MD) (hV : viewN h A) (bt dt : Nat) (hb : h.1 165 30 = nI bt) (hd : h.1 165 31 = nI dt) (h12 : mn A ≤ 12) (h4 : mk A ≤ 4) (hb1 : bt ≤ 1) (hd1 : dt ≤ 1) (hc : mn A < 12) : ∃ g, mm_M (d + 4) YX11_mintPart [.ref 165, .int (nI 0)] h none g ∧ mn_fr h g ∧ mclN B n g (if (rd B n (rd B n (rd B n (rd B n (nx B n pos, 0) 0 2400) 1 99) 0 999) 1 99).2 = 0 then .ok (addC A (num B n (nx B n pos, 0).1) (num B n (rd B n (nx B n pos, 0) 0 2400).1) (num B n (rd B n (rd B n (nx B n pos, 0) 0 2400) 1 99).1) (num B n (rd B n (rd B n (rd B n (nx B n pos, 0) 0 2400) 1 99) 0 999).1), bt, dt, (rd B n (rd B n (rd B n (rd B n (nx B n pos, 0) 0 2400) 1 99) 0 999) 1 99).1) else .error (rd B n (rd B n (rd B n (rd B n (nx B n pos, 0) 0 2400) 1 99) 0 999) 1 99).2) := by
  obtain ⟨v1, v2, v3, v4, v5, v6⟩ := hV
  obtain ⟨x0, g0, q0, M0, t0, e0, f0⟩ := mX11_amount d h B n p (nx B n pos, 0) t 0 2400 (by decide)
  obtain ⟨w0, ew0⟩ : ∃ w : mm_H, w = (mm_up g0.1 174 (mn A) x0, g0.2.1, g0.2.2) := ⟨_, rfl⟩
  have tw0 : RM B n w0 q0 (rd B n (nx B n pos, 0) 0 2400) := by rw [ew0]; exact RM_u t0 (by decide) (by decide)
  obtain ⟨x1, g1, q1, M1, t1, e1, f1⟩ := mX11_amount d w0 B n q0 (rd B n (nx B n pos, 0) 0 2400) tw0 1 99 (by decide)
  obtain ⟨w1, ew1⟩ : ∃ w : mm_H, w = (mm_up g1.1 175 (mn A) x1, g1.2.1, g1.2.2) := ⟨_, rfl⟩
  have tw1 : RM B n w1 q1 (rd B n (rd B n (nx B n pos, 0) 0 2400) 1 99) := by rw [ew1]; exact RM_u t1 (by decide) (by decide)
  obtain ⟨x2, g2, q2, M2, t2, e2, f2⟩ := mX11_amount d w1 B n q1 (rd B n (rd B n (nx B n pos, 0) 0 2400) 1 99) tw1 0 999 (by decide)
  obtain ⟨w2, ew2⟩ : ∃ w : mm_H, w = (mm_up g2.1 176 (mn A) x2, g2.2.1, g2.2.2) := ⟨_, rfl⟩
  have tw2 : RM B n w2 q2 (rd B n (rd B n (rd B n (nx B n pos, 0) 0 2400) 1 99) 0 999) := by rw [ew2]; exact RM_u t2 (by decide) (by decide)
  obtain ⟨x3, g3, q3, M3, t3, e3, f3⟩ := mX11_amount d w2 B n q2 (rd B n (rd B n (rd B n (nx B n pos, 0) 0 2400) 1 99) 0 999) tw2 1 99 (by decide)
  obtain ⟨w3, ew3⟩ : ∃ w : mm_H, w = (mm_up g3.1 177 (mn A) x3, g3.2.1, g3.2.2) := ⟨_, rfl⟩
  have tw3 : RM B n w3 q3 (rd B n (rd B n (rd B n (rd B n (nx B n pos, 0) 0 2400) 1 99) 0 999) 1 99) := by rw [ew3]; exact RM_u t3 (by decide) (by decide)
  have s173 : w3.1 173 = h.1 173 := by rw [ew3]; dsimp only; rw [mm_up_n (by decide)]; rw [show g3.1 173 = w2.1 173 from f3.1.i rfl]; rw [ew2]; dsimp only; rw [mm_up_n (by decide)]; rw [show g2.1 173 = w1.1 173 from f2.1.i rfl]; rw [ew1]; dsimp only; rw [mm_up_n (by decide)]; rw [show g1.1 173 = w0.1 173 from f1.1.i rfl]; rw [ew0]; dsimp only; rw [mm_up_n (by decide)]; rw [show g0.1 173 = h.1 173 from f0.1.i rfl]
  obtain ⟨ge, ege⟩ : ∃ w : mm_H, w = (mm_up w3.1 173 0 (nI (mn A + 1)), w3.2.1, w3.2.2) := ⟨_, rfl⟩
  have te : RM B n ge q3 (rd B n (rd B n (rd B n (rd B n (nx B n pos, 0) 0 2400) 1 99) 0 999) 1 99) := by rw [ege]; exact RM_u tw3 (by decide) (by decide)
  have fr : mn_fr h ge := (((((((((show mn_fr h g0 from f0.mn).trans (show mn_fr g0 w0 from (by rw [ew0]; exact mn_up (by decide)))).trans (show mn_fr w0 g1 from f1.mn)).trans (show mn_fr g1 w1 from (by rw [ew1]; exact mn_up (by decide)))).trans (show mn_fr w1 g2 from f2.mn)).trans (show mn_fr g2 w2 from (by rw [ew2]; exact mn_up (by decide)))).trans (show mn_fr w2 g3 from f3.mn)).trans (show mn_fr g3 w3 from (by rw [ew3]; exact mn_up (by decide)))).trans (show mn_fr w3 ge from (by rw [ege]; exact mn_up (by decide))))
  have r174 : ge.1 174 = upd (h.1 174) (mn A) x0 := by rw [ege]; dsimp only; rw [mm_up_n (by decide)]; rw [ew3]; dsimp only; rw [mm_up_n (by decide)]; rw [show g3.1 174 = w2.1 174 from f3.1.i rfl]; rw [ew2]; dsimp only; rw [mm_up_n (by decide)]; rw [show g2.1 174 = w1.1 174 from f2.1.i rfl]; rw [ew1]; dsimp only; rw [mm_up_n (by decide)]; rw [show g1.1 174 = w0.1 174 from f1.1.i rfl]; rw [ew0]; dsimp only; rw [mm_up_s]; rw [show g0.1 174 = h.1 174 from f0.1.i rfl]
  have r175 : ge.1 175 = upd (h.1 175) (mn A) x1 := by rw [ege]; dsimp only; rw [mm_up_n (by decide)]; rw [ew3]; dsimp only; rw [mm_up_n (by decide)]; rw [show g3.1 175 = w2.1 175 from f3.1.i rfl]; rw [ew2]; dsimp only; rw [mm_up_n (by decide)]; rw [show g2.1 175 = w1.1 175 from f2.1.i rfl]; rw [ew1]; dsimp only; rw [mm_up_s]; rw [show g1.1 175 = w0.1 175 from f1.1.i rfl]; rw [ew0]; dsimp only; rw [mm_up_n (by decide)]; rw [show g0.1 175 = h.1 175 from f0.1.i rfl]
  have r176 : ge.1 176 = upd (h.1 176) (mn A) x2 := by rw [ege]; dsimp only; rw [mm_up_n (by decide)]; rw [ew3]; dsimp only; rw [mm_up_n (by decide)]; rw [show g3.1 176 = w2.1 176 from f3.1.i rfl]; rw [ew2]; dsimp only; rw [mm_up_s]; rw [show g2.1 176 = w1.1 176 from f2.1.i rfl]; rw [ew1]; dsimp only; rw [mm_up_n (by decide)]; rw [show g1.1 176 = w0.1 176 from f1.1.i rfl]; rw [ew0]; dsimp only; rw [mm_up_n (by decide)]; rw [show g0.1 176 = h.1 176 from f0.1.i rfl]
  have r177 : ge.1 177 = upd (h.1 177) (mn A) x3 := by rw [ege]; dsimp only; rw [mm_up_n (by decide)]; rw [ew3]; dsimp only; rw [mm_up_s]; rw [show g3.1 177 = w2.1 177 from f3.1.i rfl]; rw [ew2]; dsimp only; rw [mm_up_n (by decide)]; rw [show g2.1 177 = w1.1 177 from f2.1.i rfl]; rw [ew1]; dsimp only; rw [mm_up_n (by decide)]; rw [show g1.1 177 = w0.1 177 from f1.1.i rfl]; rw [ew0]; dsimp only; rw [mm_up_n (by decide)]; rw [show g0.1 177 = h.1 177 from f0.1.i rfl]
  have r178 : ge.1 178 = h.1 178 := by rw [ege]; dsimp only; rw [mm_up_n (by decide)]; rw [ew3]; dsimp only; rw [mm_up_n (by decide)]; rw [show g3.1 178 = w2.1 178 from f3.1.i rfl]; rw [ew2]; dsimp only; rw [mm_up_n (by decide)]; rw [show g2.1 178 = w1.1 178 from f2.1.i rfl]; rw [ew1]; dsimp only; rw [mm_up_n (by decide)]; rw [show g1.1 178 = w0.1 178 from f1.1.i rfl]; rw [ew0]; dsimp only; rw [mm_up_n (by decide)]; rw [show g0.1 178 = h.1 178 from f0.1.i rfl]
  have r179 : ge.1 179 = h.1 179 := by rw [ege]; dsimp only; rw [mm_up_n (by decide)]; rw [ew3]; dsimp only; rw [mm_up_n (by decide)]; rw [show g3.1 179 = w2.1 179 from f3.1.i rfl]; rw [ew2]; dsimp only; rw [mm_up_n (by decide)]; rw [show g2.1 179 = w1.1 179 from f2.1.i rfl]; rw [ew1]; dsimp only; rw [mm_up_n (by decide)]; rw [show g1.1 179 = w0.1 179 from f1.1.i rfl]; rw [ew0]; dsimp only; rw [mm_up_n (by decide)]; rw [show g0.1 179 = h.1 179 from f0.1.i rfl]
  have r173 : ge.1 173 = upd (h.1 173) 0 (nI (mn A + 1)) := by rw [ege]; dsimp only; rw [mm_up_s, s173]
  have b30 : ge.1 165 30 = nI bt ∧ ge.1 165 31 = nI dt := by
    rw [ege]; dsimp only; rw [mm_up_n (by decide)]; rw [ew3]; dsimp only; rw [mm_up_n (by decide)]; rw [show g3.1 165 30 = w2.1 165 30 from f3.2 30 (by decide) (by decide), show g3.1 165 31 = w2.1 165 31 from f3.2 31 (by decide) (by decide)]; rw [ew2]; dsimp only; rw [mm_up_n (by decide)]; rw [show g2.1 165 30 = w1.1 165 30 from f2.2 30 (by decide) (by decide), show g2.1 165 31 = w1.1 165 31 from f2.2 31 (by decide) (by decide)]; rw [ew1]; dsimp only; rw [mm_up_n (by decide)]; rw [show g1.1 165 30 = w0.1 165 30 from f1.2 30 (by decide) (by decide), show g1.1 165 31 = w0.1 165 31 from f1.2 31 (by decide) (by decide)]; rw [ew0]; dsimp only; rw [mm_up_n (by decide)]; rw [show g0.1 165 30 = h.1 165 30 from f0.2 30 (by decide) (by decide), show g0.1 165 31 = h.1 165 31 from f0.2 31 (by decide) (by decide)]; exact ⟨hb, hd⟩
  refine ⟨ge, ?_, fr, ?_⟩
  · refine mm_M.of [some (.ref 165), some (.int (nI 0)), none] rfl rfl (Nat.le_of_ble_eq_true rfl) ?_
    refine mm_aload_n dX11_mintPart_0 rfl rfl ?_
    refine mm_getS dX11_mintPart_1 fX11_31 sh_165 rfl gr_165_8 ?_
    refine mm_iload_n dX11_mintPart_4 rfl rfl ?_
    refine mm_iald (0) dX11_mintPart_5 sh_173 rfl (by decide) ?_
    refine mm_istore_n dX11_mintPart_6 rfl (by decide) rfl ?_
    refine mm_iload_n dX11_mintPart_7 rfl rfl ?_
    refine mm_if_ne 78 dX11_mintPart_8 (by decide) (fun c_8 => ?_) (fun c_8 => ?_)
    · exact absurd rfl c_8
    · refine mm_aload_n dX11_mintPart_11 rfl rfl ?_
      refine mm_getS dX11_mintPart_12 fX11_34 sh_165 rfl gr_165_9 ?_
      refine mm_iload_n dX11_mintPart_15 rfl rfl ?_
      refine mm_aload_n dX11_mintPart_16 rfl rfl ?_
      refine mm_iconst (x := 0) dX11_mintPart_17 (by decide) ?_
      refine mm_sipush (x := 2400) dX11_mintPart_18 (by decide) ?_
      refine mm_cV (Y1 := YX11_amount) dX11_mintPart_21 lX11_306 vX11_amount (M0) sh_165 rfl rfl (by simp [Value.category]) ?_
      refine mm_iast ((mn A)) dX11_mintPart_24 sh_174 v1 (by omega) ?_
      refine mm_cast rfl rfl ew0.symm ?_
      refine mm_aload_n dX11_mintPart_25 rfl rfl ?_
      refine mm_getS dX11_mintPart_26 fX11_37 sh_165 rfl gr_165_10 ?_
      refine mm_iload_n dX11_mintPart_29 rfl rfl ?_
      refine mm_aload_n dX11_mintPart_30 rfl rfl ?_
      refine mm_iconst (x := 1) dX11_mintPart_31 (by decide) ?_
      refine mm_bipush (x := 99) dX11_mintPart_32 (by decide) ?_
      refine mm_cV (Y1 := YX11_amount) dX11_mintPart_34 lX11_306 vX11_amount (M1) sh_165 rfl rfl (by simp [Value.category]) ?_
      refine mm_iast ((mn A)) dX11_mintPart_37 sh_175 v1 (by omega) ?_
      refine mm_cast rfl rfl ew1.symm ?_
      refine mm_aload_n dX11_mintPart_38 rfl rfl ?_
      refine mm_getS dX11_mintPart_39 fX11_40 sh_165 rfl gr_165_11 ?_
      refine mm_iload_n dX11_mintPart_42 rfl rfl ?_
      refine mm_aload_n dX11_mintPart_43 rfl rfl ?_
      refine mm_iconst (x := 0) dX11_mintPart_44 (by decide) ?_
      refine mm_sipush (x := 999) dX11_mintPart_45 (by decide) ?_
      refine mm_cV (Y1 := YX11_amount) dX11_mintPart_48 lX11_306 vX11_amount (M2) sh_165 rfl rfl (by simp [Value.category]) ?_
      refine mm_iast ((mn A)) dX11_mintPart_51 sh_176 v1 (by omega) ?_
      refine mm_cast rfl rfl ew2.symm ?_
      refine mm_aload_n dX11_mintPart_52 rfl rfl ?_
      refine mm_getS dX11_mintPart_53 fX11_43 sh_165 rfl gr_165_12 ?_
      refine mm_iload_n dX11_mintPart_56 rfl rfl ?_
      refine mm_aload_n dX11_mintPart_57 rfl rfl ?_
      refine mm_iconst (x := 1) dX11_mintPart_58 (by decide) ?_
      refine mm_bipush (x := 99) dX11_mintPart_59 (by decide) ?_
      refine mm_cV (Y1 := YX11_amount) dX11_mintPart_61 lX11_306 vX11_amount (M3) sh_165 rfl rfl (by simp [Value.category]) ?_
      refine mm_iast ((mn A)) dX11_mintPart_64 sh_177 v1 (by omega) ?_
      refine mm_cast rfl rfl ew3.symm ?_
      refine mm_aload_n dX11_mintPart_65 rfl rfl ?_
      refine mm_getS dX11_mintPart_66 fX11_31 sh_165 rfl gr_165_8 ?_
      refine mm_iload_n dX11_mintPart_69 rfl rfl ?_
      refine mm_dup2 dX11_mintPart_70 rfl rfl ?_
      refine mm_iald (0) dX11_mintPart_71 sh_173 rfl (by decide) ?_
      refine mm_iconst (x := 1) dX11_mintPart_72 (by decide) ?_
      refine mm_iadd dX11_mintPart_73 ?_
      refine mm_iast (0) dX11_mintPart_74 sh_173 rfl (by decide) ?_
      refine mm_goto 168 dX11_mintPart_75 (by decide) ?_
      exact mm_retE dX11_mintPart_168 rfl (by rw [ege, s173, v1, nI_succ])
  · by_cases hz : (rd B n (rd B n (rd B n (rd B n (nx B n pos, 0) 0 2400) 1 99) 0 999) 1 99).2 = 0
    · rw [if_pos hz]
      have z3 : (rd B n (rd B n (rd B n (nx B n pos, 0) 0 2400) 1 99) 0 999).2 = 0 := rd_0 hz
      have z2 : (rd B n (rd B n (nx B n pos, 0) 0 2400) 1 99).2 = 0 := rd_0 z3
      have z1 : (rd B n (nx B n pos, 0) 0 2400).2 = 0 := rd_0 z2
      have z0 : (nx B n pos, 0).2 = 0 := rd_0 z1
      have y0 : x0 = num B n (nx B n pos, 0).1 := e0 z1
      have y1 : x1 = num B n (rd B n (nx B n pos, 0) 0 2400).1 := e1 z2
      have y2 : x2 = num B n (rd B n (rd B n (nx B n pos, 0) 0 2400) 1 99).1 := e2 z3
      have y3 : x3 = num B n (rd B n (rd B n (rd B n (nx B n pos, 0) 0 2400) 1 99) 0 999).1 := e3 hz
      refine ⟨q3, ⟨by have w := te.1; rw [hz] at w; exact w, te.2.1, ?_, b30.1, b30.2, by show mn A + 1 ≤ 12; omega, h4, hb1, hd1⟩, te.2.2.1 hz⟩
      unfold viewN
      rw [r173, r174, r175, r176, r177, r178, r179]
      rw [y0]
      rw [y1]
      rw [y2]
      rw [y3]
      refine ⟨by simp [upd]; rfl, by simp [upd]; exact v2, by simp [upd]; exact v3, by simp [upd]; exact v4, fun c hc2 => ?_, fun c hc2 => ?_⟩
      · have hc3 : c < mn A + 1 := hc2
        simp only [addC, mr, upd]
        by_cases z : c = mn A
        · simp [z]
        · simp [z]; exact v5 c (by omega)
      · have hc3 : c < mk A := hc2
        simp only [addC, mr]
        simp
        exact v6 c hc3
    · rw [if_neg hz]
      exact ⟨q3, te.1, te.2.1, hz, te.2.2.2⟩
set_option maxRecDepth 100000 in
set_option maxHeartbeats 4000000 in
theorem mX11_mintPart_1 (d : Nat) (h : mm_H) (B : Nat → Int32) (n p pos : Nat) (t : RM B n h p (nx B n pos, 0)) (A : MD) (hV : viewN h A) (bt dt : Nat) (hb : h.1 165 30 = nI bt) (hd : h.1 165 31 = nI dt) (h12 : mn A ≤ 12) (h4 : mk A ≤ 4) (hb1 : bt ≤ 1) (hd1 : dt ≤ 1) (hc : mk A < 4) : ∃ g, mm_M (d + 4) YX11_mintPart [.ref 165, .int (nI 1)] h none g ∧ mn_fr h g ∧ mclN B n g (if (rd B n (rd B n (nx B n pos, 0) 0 1200) 0 99).2 = 0 then .ok (addK A (num B n (nx B n pos, 0).1) (num B n (rd B n (nx B n pos, 0) 0 1200).1), bt, dt, (rd B n (rd B n (nx B n pos, 0) 0 1200) 0 99).1) else .error (rd B n (rd B n (nx B n pos, 0) 0 1200) 0 99).2) := by
  obtain ⟨v1, v2, v3, v4, v5, v6⟩ := hV
  obtain ⟨x0, g0, q0, M0, t0, e0, f0⟩ := mX11_amount d h B n p (nx B n pos, 0) t 0 1200 (by decide)
  obtain ⟨w0, ew0⟩ : ∃ w : mm_H, w = (mm_up g0.1 178 (mk A) x0, g0.2.1, g0.2.2) := ⟨_, rfl⟩
  have tw0 : RM B n w0 q0 (rd B n (nx B n pos, 0) 0 1200) := by rw [ew0]; exact RM_u t0 (by decide) (by decide)
  obtain ⟨x1, g1, q1, M1, t1, e1, f1⟩ := mX11_amount d w0 B n q0 (rd B n (nx B n pos, 0) 0 1200) tw0 0 99 (by decide)
  obtain ⟨w1, ew1⟩ : ∃ w : mm_H, w = (mm_up g1.1 179 (mk A) x1, g1.2.1, g1.2.2) := ⟨_, rfl⟩
  have tw1 : RM B n w1 q1 (rd B n (rd B n (nx B n pos, 0) 0 1200) 0 99) := by rw [ew1]; exact RM_u t1 (by decide) (by decide)
  have s173 : w1.1 173 = h.1 173 := by rw [ew1]; dsimp only; rw [mm_up_n (by decide)]; rw [show g1.1 173 = w0.1 173 from f1.1.i rfl]; rw [ew0]; dsimp only; rw [mm_up_n (by decide)]; rw [show g0.1 173 = h.1 173 from f0.1.i rfl]
  obtain ⟨ge, ege⟩ : ∃ w : mm_H, w = (mm_up w1.1 173 1 (nI (mk A + 1)), w1.2.1, w1.2.2) := ⟨_, rfl⟩
  have te : RM B n ge q1 (rd B n (rd B n (nx B n pos, 0) 0 1200) 0 99) := by rw [ege]; exact RM_u tw1 (by decide) (by decide)
  have fr : mn_fr h ge := (((((show mn_fr h g0 from f0.mn).trans (show mn_fr g0 w0 from (by rw [ew0]; exact mn_up (by decide)))).trans (show mn_fr w0 g1 from f1.mn)).trans (show mn_fr g1 w1 from (by rw [ew1]; exact mn_up (by decide)))).trans (show mn_fr w1 ge from (by rw [ege]; exact mn_up (by decide))))
  have r174 : ge.1 174 = h.1 174 := by rw [ege]; dsimp only; rw [mm_up_n (by decide)]; rw [ew1]; dsimp only; rw [mm_up_n (by decide)]; rw [show g1.1 174 = w0.1 174 from f1.1.i rfl]; rw [ew0]; dsimp only; rw [mm_up_n (by decide)]; rw [show g0.1 174 = h.1 174 from f0.1.i rfl]
  have r175 : ge.1 175 = h.1 175 := by rw [ege]; dsimp only; rw [mm_up_n (by decide)]; rw [ew1]; dsimp only; rw [mm_up_n (by decide)]; rw [show g1.1 175 = w0.1 175 from f1.1.i rfl]; rw [ew0]; dsimp only; rw [mm_up_n (by decide)]; rw [show g0.1 175 = h.1 175 from f0.1.i rfl]
  have r176 : ge.1 176 = h.1 176 := by rw [ege]; dsimp only; rw [mm_up_n (by decide)]; rw [ew1]; dsimp only; rw [mm_up_n (by decide)]; rw [show g1.1 176 = w0.1 176 from f1.1.i rfl]; rw [ew0]; dsimp only; rw [mm_up_n (by decide)]; rw [show g0.1 176 = h.1 176 from f0.1.i rfl]
  have r177 : ge.1 177 = h.1 177 := by rw [ege]; dsimp only; rw [mm_up_n (by decide)]; rw [ew1]; dsimp only; rw [mm_up_n (by decide)]; rw [show g1.1 177 = w0.1 177 from f1.1.i rfl]; rw [ew0]; dsimp only; rw [mm_up_n (by decide)]; rw [show g0.1 177 = h.1 177 from f0.1.i rfl]
  have r178 : ge.1 178 = upd (h.1 178) (mk A) x0 := by rw [ege]; dsimp only; rw [mm_up_n (by decide)]; rw [ew1]; dsimp only; rw [mm_up_n (by decide)]; rw [show g1.1 178 = w0.1 178 from f1.1.i rfl]; rw [ew0]; dsimp only; rw [mm_up_s]; rw [show g0.1 178 = h.1 178 from f0.1.i rfl]
  have r179 : ge.1 179 = upd (h.1 179) (mk A) x1 := by rw [ege]; dsimp only; rw [mm_up_n (by decide)]; rw [ew1]; dsimp only; rw [mm_up_s]; rw [show g1.1 179 = w0.1 179 from f1.1.i rfl]; rw [ew0]; dsimp only; rw [mm_up_n (by decide)]; rw [show g0.1 179 = h.1 179 from f0.1.i rfl]
  have r173 : ge.1 173 = upd (h.1 173) 1 (nI (mk A + 1)) := by rw [ege]; dsimp only; rw [mm_up_s, s173]
  have b30 : ge.1 165 30 = nI bt ∧ ge.1 165 31 = nI dt := by
    rw [ege]; dsimp only; rw [mm_up_n (by decide)]; rw [ew1]; dsimp only; rw [mm_up_n (by decide)]; rw [show g1.1 165 30 = w0.1 165 30 from f1.2 30 (by decide) (by decide), show g1.1 165 31 = w0.1 165 31 from f1.2 31 (by decide) (by decide)]; rw [ew0]; dsimp only; rw [mm_up_n (by decide)]; rw [show g0.1 165 30 = h.1 165 30 from f0.2 30 (by decide) (by decide), show g0.1 165 31 = h.1 165 31 from f0.2 31 (by decide) (by decide)]; exact ⟨hb, hd⟩
  refine ⟨ge, ?_, fr, ?_⟩
  · refine mm_M.of [some (.ref 165), some (.int (nI 1)), none] rfl rfl (Nat.le_of_ble_eq_true rfl) ?_
    refine mm_aload_n dX11_mintPart_0 rfl rfl ?_
    refine mm_getS dX11_mintPart_1 fX11_31 sh_165 rfl gr_165_8 ?_
    refine mm_iload_n dX11_mintPart_4 rfl rfl ?_
    refine mm_iald (1) dX11_mintPart_5 sh_173 rfl (by decide) ?_
    refine mm_istore_n dX11_mintPart_6 rfl (by decide) rfl ?_
    refine mm_iload_n dX11_mintPart_7 rfl rfl ?_
    refine mm_if_ne 78 dX11_mintPart_8 (by decide) (fun c_8 => ?_) (fun c_8 => ?_)
    · refine mm_iload_n dX11_mintPart_78 rfl rfl ?_
      refine mm_iconst (x := 1) dX11_mintPart_79 (by decide) ?_
      refine mm_icmp_ne 123 dX11_mintPart_80 (by decide) (fun c_80 => ?_) (fun c_80 => ?_)
      · exact absurd rfl c_80
      · refine mm_aload_n dX11_mintPart_83 rfl rfl ?_
        refine mm_getS dX11_mintPart_84 fX11_46 sh_165 rfl gr_165_13 ?_
        refine mm_iload_n dX11_mintPart_87 rfl rfl ?_
        refine mm_aload_n dX11_mintPart_88 rfl rfl ?_
        refine mm_iconst (x := 0) dX11_mintPart_89 (by decide) ?_
        refine mm_sipush (x := 1200) dX11_mintPart_90 (by decide) ?_
        refine mm_cV (Y1 := YX11_amount) dX11_mintPart_93 lX11_306 vX11_amount (M0) sh_165 rfl rfl (by simp [Value.category]) ?_
        refine mm_iast ((mk A)) dX11_mintPart_96 sh_178 v2 (by omega) ?_
        refine mm_cast rfl rfl ew0.symm ?_
        refine mm_aload_n dX11_mintPart_97 rfl rfl ?_
        refine mm_getS dX11_mintPart_98 fX11_49 sh_165 rfl gr_165_14 ?_
        refine mm_iload_n dX11_mintPart_101 rfl rfl ?_
        refine mm_aload_n dX11_mintPart_102 rfl rfl ?_
        refine mm_iconst (x := 0) dX11_mintPart_103 (by decide) ?_
        refine mm_bipush (x := 99) dX11_mintPart_104 (by decide) ?_
        refine mm_cV (Y1 := YX11_amount) dX11_mintPart_106 lX11_306 vX11_amount (M1) sh_165 rfl rfl (by simp [Value.category]) ?_
        refine mm_iast ((mk A)) dX11_mintPart_109 sh_179 v2 (by omega) ?_
        refine mm_cast rfl rfl ew1.symm ?_
        refine mm_aload_n dX11_mintPart_110 rfl rfl ?_
        refine mm_getS dX11_mintPart_111 fX11_31 sh_165 rfl gr_165_8 ?_
        refine mm_iload_n dX11_mintPart_114 rfl rfl ?_
        refine mm_dup2 dX11_mintPart_115 rfl rfl ?_
        refine mm_iald (1) dX11_mintPart_116 sh_173 rfl (by decide) ?_
        refine mm_iconst (x := 1) dX11_mintPart_117 (by decide) ?_
        refine mm_iadd dX11_mintPart_118 ?_
        refine mm_iast (1) dX11_mintPart_119 sh_173 rfl (by decide) ?_
        refine mm_goto 168 dX11_mintPart_120 (by decide) ?_
        exact mm_retE dX11_mintPart_168 rfl (by rw [ege, s173, v2, nI_succ])
    · exact absurd c_8 (by decide)
  · by_cases hz : (rd B n (rd B n (nx B n pos, 0) 0 1200) 0 99).2 = 0
    · rw [if_pos hz]
      have z1 : (rd B n (nx B n pos, 0) 0 1200).2 = 0 := rd_0 hz
      have z0 : (nx B n pos, 0).2 = 0 := rd_0 z1
      have y0 : x0 = num B n (nx B n pos, 0).1 := e0 z1
      have y1 : x1 = num B n (rd B n (nx B n pos, 0) 0 1200).1 := e1 hz
      refine ⟨q1, ⟨by have w := te.1; rw [hz] at w; exact w, te.2.1, ?_, b30.1, b30.2, h12, by show mk A + 1 ≤ 4; omega, hb1, hd1⟩, te.2.2.1 hz⟩
      unfold viewN
      rw [r173, r174, r175, r176, r177, r178, r179]
      rw [y0]
      rw [y1]
      refine ⟨by simp [upd]; exact v1, by simp [upd]; rfl, by simp [upd]; exact v3, by simp [upd]; exact v4, fun c hc2 => ?_, fun c hc2 => ?_⟩
      · have hc3 : c < mn A := hc2
        simp only [addK, mr]
        simp
        exact v5 c hc3
      · have hc3 : c < mk A + 1 := hc2
        simp only [addK, mr, upd]
        by_cases z : c = mk A
        · simp [z]
        · simp [z]; exact v6 c (by omega)
    · rw [if_neg hz]
      exact ⟨q1, te.1, te.2.1, hz, te.2.2.2⟩
set_option maxRecDepth 100000 in
set_option maxHeartbeats 4000000 in
theorem mX11_mintPart_2 (d : Nat) (h : mm_H) (B : Nat → Int32) (n p pos : Nat) (t : RM B n h p (nx B n pos, 0)) (A : MD) (hV : viewN h A) (bt dt : Nat) (hb : h.1 165 30 = nI bt) (hd : h.1 165 31 = nI dt) (h12 : mn A ≤ 12) (h4 : mk A ≤ 4) (hb1 : bt ≤ 1) (hd1 : dt ≤ 1) (hc : bt ≤ 1) : ∃ g, mm_M (d + 4) YX11_mintPart [.ref 165, .int (nI 2)] h none g ∧ mn_fr h g ∧ mclN B n g (if (rd B n (nx B n pos, 0) 0 999).2 = 0 then .ok (setB A (num B n (nx B n pos, 0).1), 1, dt, (rd B n (nx B n pos, 0) 0 999).1) else .error (rd B n (nx B n pos, 0) 0 999).2) := by
  obtain ⟨v1, v2, v3, v4, v5, v6⟩ := hV
  obtain ⟨x0, g0, q0, M0, t0, e0, f0⟩ := mX11_amount d h B n p (nx B n pos, 0) t 0 999 (by decide)
  obtain ⟨w0, ew0⟩ : ∃ w : mm_H, w = (mm_up g0.1 173 2 x0, g0.2.1, g0.2.2) := ⟨_, rfl⟩
  have tw0 : RM B n w0 q0 (rd B n (nx B n pos, 0) 0 999) := by rw [ew0]; exact RM_u t0 (by decide) (by decide)
  obtain ⟨ge, ege⟩ : ∃ w : mm_H, w = (mm_up w0.1 165 30 1, w0.2.1, w0.2.2) := ⟨_, rfl⟩
  have te : RM B n ge q0 (rd B n (nx B n pos, 0) 0 999) := by rw [ege]; exact RM_fl tw0 (by decide) (by decide) (by decide)
  have fr : mn_fr h ge := (((show mn_fr h g0 from f0.mn).trans (show mn_fr g0 w0 from (by rw [ew0]; exact mn_up (by decide)))).trans (show mn_fr w0 ge from (by rw [ege]; exact mn_fl (by omega))))
  have r173 : ge.1 173 = upd (h.1 173) 2 x0 := by rw [ege]; dsimp only; rw [mm_up_n (by decide)]; rw [ew0]; dsimp only; rw [mm_up_s]; rw [show g0.1 173 = h.1 173 from f0.1.i rfl]
  have r174 : ge.1 174 = h.1 174 := by rw [ege]; dsimp only; rw [mm_up_n (by decide)]; rw [ew0]; dsimp only; rw [mm_up_n (by decide)]; rw [show g0.1 174 = h.1 174 from f0.1.i rfl]
  have r175 : ge.1 175 = h.1 175 := by rw [ege]; dsimp only; rw [mm_up_n (by decide)]; rw [ew0]; dsimp only; rw [mm_up_n (by decide)]; rw [show g0.1 175 = h.1 175 from f0.1.i rfl]
  have r176 : ge.1 176 = h.1 176 := by rw [ege]; dsimp only; rw [mm_up_n (by decide)]; rw [ew0]; dsimp only; rw [mm_up_n (by decide)]; rw [show g0.1 176 = h.1 176 from f0.1.i rfl]
  have r177 : ge.1 177 = h.1 177 := by rw [ege]; dsimp only; rw [mm_up_n (by decide)]; rw [ew0]; dsimp only; rw [mm_up_n (by decide)]; rw [show g0.1 177 = h.1 177 from f0.1.i rfl]
  have r178 : ge.1 178 = h.1 178 := by rw [ege]; dsimp only; rw [mm_up_n (by decide)]; rw [ew0]; dsimp only; rw [mm_up_n (by decide)]; rw [show g0.1 178 = h.1 178 from f0.1.i rfl]
  have r179 : ge.1 179 = h.1 179 := by rw [ege]; dsimp only; rw [mm_up_n (by decide)]; rw [ew0]; dsimp only; rw [mm_up_n (by decide)]; rw [show g0.1 179 = h.1 179 from f0.1.i rfl]
  have b30 : ge.1 165 30 = nI 1 ∧ ge.1 165 31 = nI dt := ⟨by rw [ege]; dsimp only; rw [mm_up_e]; rfl, by rw [ege]; dsimp only; rw [mm_up_k (by decide), ew0]; dsimp only; rw [mm_up_n (by decide), show g0.1 165 31 = h.1 165 31 from f0.2 31 (by decide) (by decide)]; exact hd⟩
  refine ⟨ge, ?_, fr, ?_⟩
  · refine mm_M.of [some (.ref 165), some (.int (nI 2)), none] rfl rfl (Nat.le_of_ble_eq_true rfl) ?_
    refine mm_aload_n dX11_mintPart_0 rfl rfl ?_
    refine mm_getS dX11_mintPart_1 fX11_31 sh_165 rfl gr_165_8 ?_
    refine mm_iload_n dX11_mintPart_4 rfl rfl ?_
    refine mm_iald (2) dX11_mintPart_5 sh_173 rfl (by decide) ?_
    refine mm_istore_n dX11_mintPart_6 rfl (by decide) rfl ?_
    refine mm_iload_n dX11_mintPart_7 rfl rfl ?_
    refine mm_if_ne 78 dX11_mintPart_8 (by decide) (fun c_8 => ?_) (fun c_8 => ?_)
    · refine mm_iload_n dX11_mintPart_78 rfl rfl ?_
      refine mm_iconst (x := 1) dX11_mintPart_79 (by decide) ?_
      refine mm_icmp_ne 123 dX11_mintPart_80 (by decide) (fun c_80 => ?_) (fun c_80 => ?_)
      · refine mm_iload_n dX11_mintPart_123 rfl rfl ?_
        refine mm_iconst (x := 2) dX11_mintPart_124 (by decide) ?_
        refine mm_icmp_ne 150 dX11_mintPart_125 (by decide) (fun c_125 => ?_) (fun c_125 => ?_)
        · exact absurd rfl c_125
        · refine mm_aload_n dX11_mintPart_128 rfl rfl ?_
          refine mm_getS dX11_mintPart_129 fX11_31 sh_165 rfl gr_165_8 ?_
          refine mm_iconst (x := 2) dX11_mintPart_132 (by decide) ?_
          refine mm_aload_n dX11_mintPart_133 rfl rfl ?_
          refine mm_iconst (x := 0) dX11_mintPart_134 (by decide) ?_
          refine mm_sipush (x := 999) dX11_mintPart_135 (by decide) ?_
          refine mm_cV (Y1 := YX11_amount) dX11_mintPart_138 lX11_306 vX11_amount (M0) sh_165 rfl rfl (by simp [Value.category]) ?_
          refine mm_iast (2) dX11_mintPart_141 sh_173 rfl (by decide) ?_
          refine mm_cast rfl rfl ew0.symm ?_
          refine mm_aload_n dX11_mintPart_142 rfl rfl ?_
          refine mm_iconst (x := 1) dX11_mintPart_143 (by decide) ?_
          refine mm_putI dX11_mintPart_144 fX11_310 sh_165 rfl rfl rfl ?_
          refine mm_goto 168 dX11_mintPart_147 (by decide) ?_
          exact mm_retE dX11_mintPart_168 rfl ege.symm
      · exact absurd c_80 (by decide)
    · exact absurd c_8 (by decide)
  · by_cases hz : (rd B n (nx B n pos, 0) 0 999).2 = 0
    · rw [if_pos hz]
      have z0 : (nx B n pos, 0).2 = 0 := rd_0 hz
      have y0 : x0 = num B n (nx B n pos, 0).1 := e0 hz
      refine ⟨q0, ⟨by have w := te.1; rw [hz] at w; exact w, te.2.1, ?_, b30.1, b30.2, h12, h4, Nat.le_refl _, hd1⟩, te.2.2.1 hz⟩
      unfold viewN
      rw [r173, r174, r175, r176, r177, r178, r179]
      rw [y0]
      exact ⟨by simp [upd]; exact v1, by simp [upd]; exact v2, by simp [upd]; rfl, by simp [upd]; exact v4, v5, v6⟩
    · rw [if_neg hz]
      exact ⟨q0, te.1, te.2.1, hz, te.2.2.2⟩
set_option maxRecDepth 100000 in
set_option maxHeartbeats 4000000 in
theorem mX11_mintPart_3 (d : Nat) (h : mm_H) (B : Nat → Int32) (n p pos : Nat) (t : RM B n h p (nx B n pos, 0)) (A : MD) (hV : viewN h A) (bt dt : Nat) (hb : h.1 165 30 = nI bt) (hd : h.1 165 31 = nI dt) (h12 : mn A ≤ 12) (h4 : mk A ≤ 4) (hb1 : bt ≤ 1) (hd1 : dt ≤ 1) (hc : dt ≤ 1) : ∃ g, mm_M (d + 4) YX11_mintPart [.ref 165, .int (nI 3)] h none g ∧ mn_fr h g ∧ mclN B n g (if (rd B n (nx B n pos, 0) 0 99).2 = 0 then .ok (setF A (num B n (nx B n pos, 0).1), bt, 1, (rd B n (nx B n pos, 0) 0 99).1) else .error (rd B n (nx B n pos, 0) 0 99).2) := by
  obtain ⟨v1, v2, v3, v4, v5, v6⟩ := hV
  obtain ⟨x0, g0, q0, M0, t0, e0, f0⟩ := mX11_amount d h B n p (nx B n pos, 0) t 0 99 (by decide)
  obtain ⟨w0, ew0⟩ : ∃ w : mm_H, w = (mm_up g0.1 173 3 x0, g0.2.1, g0.2.2) := ⟨_, rfl⟩
  have tw0 : RM B n w0 q0 (rd B n (nx B n pos, 0) 0 99) := by rw [ew0]; exact RM_u t0 (by decide) (by decide)
  obtain ⟨ge, ege⟩ : ∃ w : mm_H, w = (mm_up w0.1 165 31 1, w0.2.1, w0.2.2) := ⟨_, rfl⟩
  have te : RM B n ge q0 (rd B n (nx B n pos, 0) 0 99) := by rw [ege]; exact RM_fl tw0 (by decide) (by decide) (by decide)
  have fr : mn_fr h ge := (((show mn_fr h g0 from f0.mn).trans (show mn_fr g0 w0 from (by rw [ew0]; exact mn_up (by decide)))).trans (show mn_fr w0 ge from (by rw [ege]; exact mn_fl (by omega))))
  have r173 : ge.1 173 = upd (h.1 173) 3 x0 := by rw [ege]; dsimp only; rw [mm_up_n (by decide)]; rw [ew0]; dsimp only; rw [mm_up_s]; rw [show g0.1 173 = h.1 173 from f0.1.i rfl]
  have r174 : ge.1 174 = h.1 174 := by rw [ege]; dsimp only; rw [mm_up_n (by decide)]; rw [ew0]; dsimp only; rw [mm_up_n (by decide)]; rw [show g0.1 174 = h.1 174 from f0.1.i rfl]
  have r175 : ge.1 175 = h.1 175 := by rw [ege]; dsimp only; rw [mm_up_n (by decide)]; rw [ew0]; dsimp only; rw [mm_up_n (by decide)]; rw [show g0.1 175 = h.1 175 from f0.1.i rfl]
  have r176 : ge.1 176 = h.1 176 := by rw [ege]; dsimp only; rw [mm_up_n (by decide)]; rw [ew0]; dsimp only; rw [mm_up_n (by decide)]; rw [show g0.1 176 = h.1 176 from f0.1.i rfl]
  have r177 : ge.1 177 = h.1 177 := by rw [ege]; dsimp only; rw [mm_up_n (by decide)]; rw [ew0]; dsimp only; rw [mm_up_n (by decide)]; rw [show g0.1 177 = h.1 177 from f0.1.i rfl]
  have r178 : ge.1 178 = h.1 178 := by rw [ege]; dsimp only; rw [mm_up_n (by decide)]; rw [ew0]; dsimp only; rw [mm_up_n (by decide)]; rw [show g0.1 178 = h.1 178 from f0.1.i rfl]
  have r179 : ge.1 179 = h.1 179 := by rw [ege]; dsimp only; rw [mm_up_n (by decide)]; rw [ew0]; dsimp only; rw [mm_up_n (by decide)]; rw [show g0.1 179 = h.1 179 from f0.1.i rfl]
  have b30 : ge.1 165 30 = nI bt ∧ ge.1 165 31 = nI 1 := ⟨by rw [ege]; dsimp only; rw [mm_up_k (by decide), ew0]; dsimp only; rw [mm_up_n (by decide), show g0.1 165 30 = h.1 165 30 from f0.2 30 (by decide) (by decide)]; exact hb, by rw [ege]; dsimp only; rw [mm_up_e]; rfl⟩
  refine ⟨ge, ?_, fr, ?_⟩
  · refine mm_M.of [some (.ref 165), some (.int (nI 3)), none] rfl rfl (Nat.le_of_ble_eq_true rfl) ?_
    refine mm_aload_n dX11_mintPart_0 rfl rfl ?_
    refine mm_getS dX11_mintPart_1 fX11_31 sh_165 rfl gr_165_8 ?_
    refine mm_iload_n dX11_mintPart_4 rfl rfl ?_
    refine mm_iald (3) dX11_mintPart_5 sh_173 rfl (by decide) ?_
    refine mm_istore_n dX11_mintPart_6 rfl (by decide) rfl ?_
    refine mm_iload_n dX11_mintPart_7 rfl rfl ?_
    refine mm_if_ne 78 dX11_mintPart_8 (by decide) (fun c_8 => ?_) (fun c_8 => ?_)
    · refine mm_iload_n dX11_mintPart_78 rfl rfl ?_
      refine mm_iconst (x := 1) dX11_mintPart_79 (by decide) ?_
      refine mm_icmp_ne 123 dX11_mintPart_80 (by decide) (fun c_80 => ?_) (fun c_80 => ?_)
      · refine mm_iload_n dX11_mintPart_123 rfl rfl ?_
        refine mm_iconst (x := 2) dX11_mintPart_124 (by decide) ?_
        refine mm_icmp_ne 150 dX11_mintPart_125 (by decide) (fun c_125 => ?_) (fun c_125 => ?_)
        · refine mm_aload_n dX11_mintPart_150 rfl rfl ?_
          refine mm_getS dX11_mintPart_151 fX11_31 sh_165 rfl gr_165_8 ?_
          refine mm_iconst (x := 3) dX11_mintPart_154 (by decide) ?_
          refine mm_aload_n dX11_mintPart_155 rfl rfl ?_
          refine mm_iconst (x := 0) dX11_mintPart_156 (by decide) ?_
          refine mm_bipush (x := 99) dX11_mintPart_157 (by decide) ?_
          refine mm_cV (Y1 := YX11_amount) dX11_mintPart_159 lX11_306 vX11_amount (M0) sh_165 rfl rfl (by simp [Value.category]) ?_
          refine mm_iast (3) dX11_mintPart_162 sh_173 rfl (by decide) ?_
          refine mm_cast rfl rfl ew0.symm ?_
          refine mm_aload_n dX11_mintPart_163 rfl rfl ?_
          refine mm_iconst (x := 1) dX11_mintPart_164 (by decide) ?_
          refine mm_putI dX11_mintPart_165 fX11_314 sh_165 rfl rfl rfl ?_
          exact mm_retE dX11_mintPart_168 rfl ege.symm
        · exact absurd c_125 (by decide)
      · exact absurd c_80 (by decide)
    · exact absurd c_8 (by decide)
  · by_cases hz : (rd B n (nx B n pos, 0) 0 99).2 = 0
    · rw [if_pos hz]
      have z0 : (nx B n pos, 0).2 = 0 := rd_0 hz
      have y0 : x0 = num B n (nx B n pos, 0).1 := e0 hz
      refine ⟨q0, ⟨by have w := te.1; rw [hz] at w; exact w, te.2.1, ?_, b30.1, b30.2, h12, h4, hb1, Nat.le_refl _⟩, te.2.2.1 hz⟩
      unfold viewN
      rw [r173, r174, r175, r176, r177, r178, r179]
      rw [y0]
      exact ⟨by simp [upd]; exact v1, by simp [upd]; exact v2, by simp [upd]; exact v3, by simp [upd]; rfl, v5, v6⟩
    · rw [if_neg hz]
      exact ⟨q0, te.1, te.2.1, hz, te.2.2.2⟩
