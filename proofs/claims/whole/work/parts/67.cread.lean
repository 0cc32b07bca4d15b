/-! A mint's whole text: the class. -/
def A0 : MD := (fun _ _ => 0, 0, 0, 0, 0)
/-- a mint's whole text -/
def mrun (B : Nat → Int32) (n : Nat) : Nat → MD → Nat → Nat → Nat → Except Nat MD
  | 0, _, _, _, _ => .error 0
  | f + 1, A, bt, dt, pos => match mcl B n A bt dt pos with
    | .error c => .error c
    | .ok q => if kd B n q.2.2.2 = 3 then mrun B n f q.1 q.2.1 q.2.2.1 (nx B n q.2.2.2) else if kd B n q.2.2.2 = 0 ∧ ¬ mk q.1 = 0 then .ok q.1 else .error (1 + 8 * q.2.2.2)
theorem mrun_e {B : Nat → Int32} {n f bt dt pos c : Nat} {A : MD} (h : mcl B n A bt dt pos = .error c) : mrun B n (f + 1) A bt dt pos = .error c := by simp only [mrun, h]
theorem mrun_k {B : Nat → Int32} {n f bt dt pos : Nat} {A : MD} {q : MD × Nat × Nat × Nat} (h : mcl B n A bt dt pos = .ok q) : mrun B n (f + 1) A bt dt pos = if kd B n q.2.2.2 = 3 then mrun B n f q.1 q.2.1 q.2.2.1 (nx B n q.2.2.2) else if kd B n q.2.2.2 = 0 ∧ ¬ mk q.1 = 0 then .ok q.1 else .error (1 + 8 * q.2.2.2) := by simp only [mrun, h]
theorem rd_ok {B : Nat → Int32} {n : Nat} {s : Nat × Nat} {lo hi : Int32} (h : (rd B n s lo hi).2 = 0) : s.2 = 0 ∧ okN B n s.1 lo hi := by
  have z := rd_0 h
  refine ⟨z, ?_⟩
  unfold rd at h
  rw [if_pos z] at h
  by_cases w : okN B n s.1 lo hi
  · exact w
  · rw [if_neg w] at h
    have : cdN B n s.1 = 0 := h
    unfold cdN at this; omega
def zH (A : MD) : Prop := ∀ c, c < mn A → mr A 4 c = 0 ∧ mr A 5 c = 0
theorem mcl_ok {B : Nat → Int32} {n bt dt pos : Nat} {A : MD} {q : MD × Nat × Nat × Nat} (hA : mdOK A) (hz : zH A) (h : mcl B n A bt dt pos = .ok q) : mdOK q.1 ∧ zH q.1 ∧ mn q.1 + mk q.1 + q.2.1 + q.2.2.1 = mn A + mk A + bt + dt + 1 := by
  obtain ⟨a1, a2, a3⟩ := hA
  unfold mcl at h
  by_cases k0 : kd B n pos = 21
  · rw [if_pos k0] at h
    by_cases hf : 12 ≤ mn A
    · rw [if_pos hf] at h; cases h
    · rw [if_neg hf] at h
      split at h
      · rename_i z4
        obtain ⟨z3, o4⟩ := rd_ok z4
        obtain ⟨z2, o3⟩ := rd_ok z3
        obtain ⟨z1, o2⟩ := rd_ok z2
        cases h
        refine ⟨⟨by show mn A + 1 ≤ 12; omega, a2, fun c hc => ?_⟩, fun c hc => ?_, by show mn A + 1 + mk A + bt + dt = _; omega⟩
        · have hc2 : c < mn A + 1 := hc
          simp only [addC, mr]
          by_cases z : c = mn A
          · simp [z]
            refine ⟨?_, ?_, ?_⟩
            · have := o2.2.1; rw [Int32.le_iff_toInt_le, ti_1] at this; rw [Int32.lt_iff_toInt_lt, ti_0]; omega
            · have := o4.2.1; rw [Int32.le_iff_toInt_le, ti_1] at this; rw [Int32.lt_iff_toInt_lt, ti_0]; omega
            · have w1 := o3.2.1; have w2 := o3.2.2
              rw [Int32.le_iff_toInt_le, ti_0] at w1; rw [Int32.le_iff_toInt_le, ti_999] at w2
              exact ⟨w1, w2⟩
          · simp [z]
            exact a3 c (by omega)
        · have hc2 : c < mn A + 1 := hc
          simp only [addC, mr]
          by_cases z : c = mn A
          · simp [z]
          · simp [z]
            exact hz c (by omega)
      · cases h
  · rw [if_neg k0] at h
    by_cases k1 : kd B n pos = 26
    · rw [if_pos k1] at h
      by_cases hf : 4 ≤ mk A
      · rw [if_pos hf] at h; cases h
      · rw [if_neg hf] at h
        split at h
        · cases h
          refine ⟨⟨a1, by show mk A + 1 ≤ 4; omega, fun c hc => ?_⟩, fun c hc => ?_, by show mn A + (mk A + 1) + bt + dt = _; omega⟩
          · have hc2 : c < mn A := hc
            simp only [addK, mr]
            simp
            exact a3 c hc2
          · have hc2 : c < mn A := hc
            simp only [addK, mr]
            simp
            exact hz c hc2
        · cases h
    · rw [if_neg k1] at h
      by_cases k2 : kd B n pos = 27
      · rw [if_pos k2] at h
        by_cases hf : ¬ bt = 0
        · rw [if_pos hf] at h; cases h
        · rw [if_neg hf] at h
          split at h
          · cases h
            exact ⟨⟨a1, a2, a3⟩, hz, by show mn A + mk A + 1 + dt = _; omega⟩
          · cases h
      · rw [if_neg k2] at h
        by_cases k3 : kd B n pos = 28
        · rw [if_pos k3] at h
          by_cases hf : ¬ dt = 0
          · rw [if_pos hf] at h; cases h
          · rw [if_neg hf] at h
            split at h
            · cases h
              exact ⟨⟨a1, a2, a3⟩, hz, by show mn A + mk A + bt + 1 = _; omega⟩
            · cases h
        · rw [if_neg k3] at h; cases h
theorem mrun_ok {B : Nat → Int32} {n : Nat} : ∀ f A bt dt pos A2, mdOK A → zH A → mrun B n f A bt dt pos = .ok A2 → mdOK A2 ∧ zH A2 ∧ 0 < mk A2 := by
  intro f
  induction f with
  | zero => intro A bt dt pos A2 _ _ h; simp only [mrun] at h; cases h
  | succ f ih =>
    intro A bt dt pos A2 hA hz h
    cases e : mcl B n A bt dt pos with
    | error c => rw [mrun_e e] at h; cases h
    | ok q =>
      rw [mrun_k e] at h
      obtain ⟨b1, b2, b3⟩ := mcl_ok hA hz e
      split at h
      · exact ih _ _ _ _ _ b1 b2 h
      · split at h
        · rename_i z; cases h; exact ⟨b1, b2, by omega⟩
        · cases h
theorem A0_ok : mdOK A0 ∧ zH A0 := ⟨⟨by decide, by decide, fun c hc => absurd hc (Nat.not_lt_zero c)⟩, fun c hc => absurd hc (Nat.not_lt_zero c)⟩
def mrP (g : mm_H) (c : Nat) (r : Except Nat MD) : Prop := match r with
  | .ok A => c = 0 ∧ viewD g A
  | .error e => c = e ∧ ¬ e = 0 ∧ e < 4000
set_option maxRecDepth 100000 in
set_option maxHeartbeats 4000000 in
theorem mX6_read (d : Nat) (h : mm_H) (B : Nat → Int32) (n : Nat) (hn : n ≤ 400) (pos : Nat) (t : TX B n h pos 0) : ∃ c g, mm_M (d + 4) YX6_read [.ref 8] h (some (.int (nI c))) g ∧ frm pM8 h g ∧ mrP g c (mrun B n 30 A0 0 0 pos) := by
  suffices hE : mm_E (d + 4) YX6_read 0 [some (.ref 8), none] [] h (fun v g => ∃ c, v = some (.int (nI c)) ∧ frm pM8 h g ∧ mrP g c (mrun B n 30 A0 0 0 pos)) by
    obtain ⟨v, g, hR, c, rfl, h1⟩ := hE
    exact ⟨c, g, mm_M.of _ rfl rfl (Nat.le_of_ble_eq_true rfl) hR, h1⟩
  have fp4 : ∀ {g k : mm_H}, frm pM8 h g → frm (onep 4) g k → frm pM8 h k := fun a b => a.trans (pM8_4 b)
  have K66e : ∀ gg pos c r x1, frm pM8 h gg → TX B n gg pos c → ¬ c = 0 → c < 4000 → r = .error c → mm_E (d + 4) YX6_read 66 [some (.ref 8), x1] [] gg (fun v g => ∃ c, v = some (.int (nI c)) ∧ frm pM8 h g ∧ mrP g c r) := by
    intro gg pos c r x1 fg tg hc hc4 hr
    have M1 := mX8_kind (d + 3) gg B n pos c tg
    obtain ⟨g1, Fm, Ft, Ff⟩ := mX8_fail (d + 3) gg B n pos c tg hn hc4 0 (by decide)
    have ef : flt c pos 0 = c := by unfold flt; rw [if_neg hc]
    rw [ef] at Ft
    have e5 : ∀ g, TX B n g pos c → g.1 4 5 = nI c := fun g t => by obtain ⟨N, j, a, b, c, e, e2, tb, g1, g2, g3⟩ := t; exact g3
    refine mm_Es (fun _ _ => mm_aload_n dX6_read_66 rfl rfl) ?_
    refine mm_Es (fun _ _ => mm_getS dX6_read_67 fX6_18 sh_8 rfl gr_8_1) ?_
    refine mm_Es (fun _ _ => mm_cV (Y1 := YX8_kind) dX6_read_70 lX6_41 vX8_kind (M1) sh_4 rfl rfl (by simp [Value.category])) ?_
    refine mm_Ebn (fun _ _ => mm_if_ne 86 dX6_read_73 (by decide)) (fun c_73 => ?_) (fun c_73 => ?_)
    · refine mm_Es (fun _ _ => mm_aload_n dX6_read_86 rfl rfl) ?_
      refine mm_Es (fun _ _ => mm_getS dX6_read_87 fX6_18 sh_8 rfl gr_8_1) ?_
      refine mm_Es (fun _ _ => mm_iconst (x := 0) dX6_read_90 (by decide)) ?_
      refine mm_Es (fun _ _ => mm_cV (Y1 := YX8_fail) dX6_read_91 lX6_51 vX8_fail (Fm) sh_4 rfl rfl (by simp [Value.category])) ?_
      refine mm_Es (fun _ _ => mm_aload_n dX6_read_94 rfl rfl) ?_
      refine mm_Es (fun _ _ => mm_getS dX6_read_95 fX6_18 sh_8 rfl gr_8_1) ?_
      refine mm_Es (fun _ _ => mm_getI dX6_read_98 fX6_32 sh_4 rfl) ?_
      refine mm_Er (mm_ireturn dX6_read_101 rfl) ?_
      first | exact ⟨c, by rw [e5 g1 Ft], fp4 fg Ff, by rw [hr]; exact ⟨rfl, hc, hc4⟩⟩ | exact ⟨c, by rw [e5 gg tg], fg, by rw [hr]; exact ⟨rfl, hc, hc4⟩⟩
    · refine mm_Es (fun _ _ => mm_aload_n dX6_read_76 rfl rfl) ?_
      refine mm_Es (fun _ _ => mm_getS dX6_read_77 fX6_12 sh_8 rfl gr_8_0) ?_
      refine mm_Es (fun _ _ => mm_getI dX6_read_80 fX6_48 sh_9 rfl) ?_
      refine mm_Ebn (fun _ _ => mm_if_ne 94 dX6_read_83 (by decide)) (fun c_83 => ?_) (fun c_83 => ?_)
      · refine mm_Es (fun _ _ => mm_aload_n dX6_read_94 rfl rfl) ?_
        refine mm_Es (fun _ _ => mm_getS dX6_read_95 fX6_18 sh_8 rfl gr_8_1) ?_
        refine mm_Es (fun _ _ => mm_getI dX6_read_98 fX6_32 sh_4 rfl) ?_
        refine mm_Er (mm_ireturn dX6_read_101 rfl) ?_
        first | exact ⟨c, by rw [e5 g1 Ft], fp4 fg Ff, by rw [hr]; exact ⟨rfl, hc, hc4⟩⟩ | exact ⟨c, by rw [e5 gg tg], fg, by rw [hr]; exact ⟨rfl, hc, hc4⟩⟩
      · refine mm_Es (fun _ _ => mm_aload_n dX6_read_86 rfl rfl) ?_
        refine mm_Es (fun _ _ => mm_getS dX6_read_87 fX6_18 sh_8 rfl gr_8_1) ?_
        refine mm_Es (fun _ _ => mm_iconst (x := 0) dX6_read_90 (by decide)) ?_
        refine mm_Es (fun _ _ => mm_cV (Y1 := YX8_fail) dX6_read_91 lX6_51 vX8_fail (Fm) sh_4 rfl rfl (by simp [Value.category])) ?_
        refine mm_Es (fun _ _ => mm_aload_n dX6_read_94 rfl rfl) ?_
        refine mm_Es (fun _ _ => mm_getS dX6_read_95 fX6_18 sh_8 rfl gr_8_1) ?_
        refine mm_Es (fun _ _ => mm_getI dX6_read_98 fX6_32 sh_4 rfl) ?_
        refine mm_Er (mm_ireturn dX6_read_101 rfl) ?_
        first | exact ⟨c, by rw [e5 g1 Ft], fp4 fg Ff, by rw [hr]; exact ⟨rfl, hc, hc4⟩⟩ | exact ⟨c, by rw [e5 gg tg], fg, by rw [hr]; exact ⟨rfl, hc, hc4⟩⟩
  have K66 : ∀ gg pos A x1, frm pM8 h gg → TX B n gg pos 0 → viewD gg A → mk A ≤ 4 → mm_E (d + 4) YX6_read 66 [some (.ref 8), x1] [] gg (fun v g => ∃ c, v = some (.int (nI c)) ∧ frm pM8 h g ∧ mrP g c (if kd B n pos = 0 ∧ ¬ mk A = 0 then .ok A else .error (1 + 8 * pos))) := by
    intro gg pos A x1 fg tg hV h4
    have hle := tg.le
    have M1 := mX8_kind (d + 3) gg B n pos 0 tg
    have kb := kd_lt B n pos
    obtain ⟨g1, Fm, Ft, Ff⟩ := mX8_fail (d + 3) gg B n pos 0 tg hn (by decide) 0 (by decide)
    have ef : flt 0 pos 0 = 1 + 8 * pos := by unfold flt; rw [if_pos rfl, Nat.add_zero]
    rw [ef] at Ft
    have e5 : ∀ g c, TX B n g pos c → g.1 4 5 = nI c := fun g c t => by obtain ⟨N, j, a, b, c, e, e2, tb, g1, g2, g3⟩ := t; exact g3
    by_cases hz : kd B n pos = 0 ∧ ¬ mk A = 0
    · rw [if_pos hz]
      refine mm_Es (fun _ _ => mm_aload_n dX6_read_66 rfl rfl) ?_
      refine mm_Es (fun _ _ => mm_getS dX6_read_67 fX6_18 sh_8 rfl gr_8_1) ?_
      refine mm_Es (fun _ _ => mm_cV (Y1 := YX8_kind) dX6_read_70 lX6_41 vX8_kind (M1) sh_4 rfl rfl (by simp [Value.category])) ?_
      refine mm_Ebn (fun _ _ => mm_if_ne 86 dX6_read_73 (by decide)) (fun c_73 => ?_) (fun c_73 => ?_)
      · exact absurd (by rw [hz.1]; rfl) c_73
      · refine mm_Es (fun _ _ => mm_aload_n dX6_read_76 rfl rfl) ?_
        refine mm_Es (fun _ _ => mm_getS dX6_read_77 fX6_12 sh_8 rfl gr_8_0) ?_
        refine mm_Es (fun _ _ => mm_getI dX6_read_80 fX6_48 sh_9 rfl) ?_
        refine mm_Ebn (fun _ _ => mm_if_ne 94 dX6_read_83 (by decide)) (fun c_83 => ?_) (fun c_83 => ?_)
        · refine mm_Es (fun _ _ => mm_aload_n dX6_read_94 rfl rfl) ?_
          refine mm_Es (fun _ _ => mm_getS dX6_read_95 fX6_18 sh_8 rfl gr_8_1) ?_
          refine mm_Es (fun _ _ => mm_getI dX6_read_98 fX6_32 sh_4 rfl) ?_
          refine mm_Er (mm_ireturn dX6_read_101 rfl) ?_
          exact ⟨0, by rw [e5 gg 0 tg], fg, rfl, hV⟩
        · exact absurd ((nI_eq (b := 0) (by omega) (by omega)).mp (hV.2.1.symm.trans c_83)) hz.2
    · rw [if_neg hz]
      refine mm_Es (fun _ _ => mm_aload_n dX6_read_66 rfl rfl) ?_
      refine mm_Es (fun _ _ => mm_getS dX6_read_67 fX6_18 sh_8 rfl gr_8_1) ?_
      refine mm_Es (fun _ _ => mm_cV (Y1 := YX8_kind) dX6_read_70 lX6_41 vX8_kind (M1) sh_4 rfl rfl (by simp [Value.category])) ?_
      refine mm_Ebn (fun _ _ => mm_if_ne 86 dX6_read_73 (by decide)) (fun c_73 => ?_) (fun c_73 => ?_)
      · refine mm_Es (fun _ _ => mm_aload_n dX6_read_86 rfl rfl) ?_
        refine mm_Es (fun _ _ => mm_getS dX6_read_87 fX6_18 sh_8 rfl gr_8_1) ?_
        refine mm_Es (fun _ _ => mm_iconst (x := 0) dX6_read_90 (by decide)) ?_
        refine mm_Es (fun _ _ => mm_cV (Y1 := YX8_fail) dX6_read_91 lX6_51 vX8_fail (Fm) sh_4 rfl rfl (by simp [Value.category])) ?_
        refine mm_Es (fun _ _ => mm_aload_n dX6_read_94 rfl rfl) ?_
        refine mm_Es (fun _ _ => mm_getS dX6_read_95 fX6_18 sh_8 rfl gr_8_1) ?_
        refine mm_Es (fun _ _ => mm_getI dX6_read_98 fX6_32 sh_4 rfl) ?_
        refine mm_Er (mm_ireturn dX6_read_101 rfl) ?_
        exact ⟨1 + 8 * pos, by rw [e5 g1 _ Ft], fp4 fg Ff, rfl, by omega, by omega⟩
      · refine mm_Es (fun _ _ => mm_aload_n dX6_read_76 rfl rfl) ?_
        refine mm_Es (fun _ _ => mm_getS dX6_read_77 fX6_12 sh_8 rfl gr_8_0) ?_
        refine mm_Es (fun _ _ => mm_getI dX6_read_80 fX6_48 sh_9 rfl) ?_
        refine mm_Ebn (fun _ _ => mm_if_ne 94 dX6_read_83 (by decide)) (fun c_83 => ?_) (fun c_83 => ?_)
        · exact absurd ⟨(nI_eq (b := 0) (by omega) (by omega)).mp c_73, fun z => c_83 (by rw [hV.2.1, z]; rfl)⟩ hz
        · refine mm_Es (fun _ _ => mm_aload_n dX6_read_86 rfl rfl) ?_
          refine mm_Es (fun _ _ => mm_getS dX6_read_87 fX6_18 sh_8 rfl gr_8_1) ?_
          refine mm_Es (fun _ _ => mm_iconst (x := 0) dX6_read_90 (by decide)) ?_
          refine mm_Es (fun _ _ => mm_cV (Y1 := YX8_fail) dX6_read_91 lX6_51 vX8_fail (Fm) sh_4 rfl rfl (by simp [Value.category])) ?_
          refine mm_Es (fun _ _ => mm_aload_n dX6_read_94 rfl rfl) ?_
          refine mm_Es (fun _ _ => mm_getS dX6_read_95 fX6_18 sh_8 rfl gr_8_1) ?_
          refine mm_Es (fun _ _ => mm_getI dX6_read_98 fX6_32 sh_4 rfl) ?_
          refine mm_Er (mm_ireturn dX6_read_101 rfl) ?_
          exact ⟨1 + 8 * pos, by rw [e5 g1 _ Ft], fp4 fg Ff, rfl, by omega, by omega⟩
  have K19 : ∀ f A bt dt pos gg i, i = mn A + mk A + bt + dt → i + f = 30 → frm pM8 h gg → DS B n gg A bt dt pos → mdOK A → zH A → mm_E (d + 4) YX6_read 19 [some (.ref 8), some (.int (nI i))] [] gg (fun v g => ∃ c, v = some (.int (nI c)) ∧ frm pM8 h g ∧ mrP g c (mrun B n f A bt dt pos)) := by
    intro f
    induction f with
    | zero =>
      intro A bt dt pos gg i hi hf fg S
      obtain ⟨-, -, -, -, s1, s2, s3, s4⟩ := S
      omega
    | succ f ih =>
      intro A bt dt pos gg i hi hf fg S hA hzA
      obtain ⟨g1, M1, f1, r1⟩ := mX6_readClause d gg B n hn A bt dt pos S
      have e5 : gg.1 4 5 = 0 := by obtain ⟨⟨N, j, a, b, c, e, e2, tb, g1, g2, g3⟩, -⟩ := S; exact g3
      have hi18 : i ≤ 18 := by obtain ⟨-, -, -, -, s1, s2, s3, s4⟩ := S; omega
      have fg1 := fg.trans f1
      cases e : mcl B n A bt dt pos with
      | error c =>
        rw [e] at r1
        obtain ⟨pos2, t2, c0, c4⟩ := r1
        have M2 := mX8_kind (d + 3) g1 B n pos2 c t2
        obtain ⟨g2, S2, t3, f3⟩ := mX8_step (d + 3) g1 B n pos2 c t2
        have e52 : g2.1 4 5 = nI c := by obtain ⟨N, j, a, b, c, e, e2, tb, g1, g2, g3⟩ := t3; exact g3
        rw [mrun_e e]
        have KE := fun gg pos x1 fg tg => K66e gg pos c (.error c) x1 fg tg c0 c4 rfl
        have KQ : mm_E (d + 4) YX6_read 19 [some (.ref 8), some (.int (nI (i + 1)))] [] g2 (fun v g => ∃ c_1, v = some (.int (nI c_1)) ∧ frm pM8 h g ∧ mrP g c_1 (.error c)) := by
          refine mm_Es (fun _ _ => mm_iload_n dX6_read_19 rfl rfl) ?_
          refine mm_Es (fun _ _ => mm_bipush (x := 24) dX6_read_20 (by decide)) ?_
          refine mm_Eb (fun _ _ => mm_icmp_ge 66 dX6_read_22 (by decide)) (fun c_22 => ?_) (fun c_22 => ?_)
          · exact absurd c_22 (nI_ge (b := 24) (by omega) (by omega))
          · refine mm_Es (fun _ _ => mm_aload_n dX6_read_25 rfl rfl) ?_
            refine mm_Es (fun _ _ => mm_getS dX6_read_26 fX6_18 sh_8 rfl gr_8_1) ?_
            refine mm_Es (fun _ _ => mm_getI dX6_read_29 fX6_32 sh_4 rfl) ?_
            refine mm_Ebn (fun _ _ => mm_if_ne 66 dX6_read_32 (by decide)) (fun c_32 => ?_) (fun c_32 => ?_)
            · exact KE _ _ _ (fp4 fg1 f3) t3
            · exact absurd ((nI_eq (b := 0) (by omega) (by omega)).mp (e52.symm.trans c_32)) c0
        refine mm_Es (fun _ _ => mm_iload_n dX6_read_19 rfl rfl) ?_
        refine mm_Es (fun _ _ => mm_bipush (x := 24) dX6_read_20 (by decide)) ?_
        refine mm_Eb (fun _ _ => mm_icmp_ge 66 dX6_read_22 (by decide)) (fun c_22 => ?_) (fun c_22 => ?_)
        · exact absurd c_22 (nI_ge (b := 24) (by omega) (by omega))
        · refine mm_Es (fun _ _ => mm_aload_n dX6_read_25 rfl rfl) ?_
          refine mm_Es (fun _ _ => mm_getS dX6_read_26 fX6_18 sh_8 rfl gr_8_1) ?_
          refine mm_Es (fun _ _ => mm_getI dX6_read_29 fX6_32 sh_4 rfl) ?_
          refine mm_Ebn (fun _ _ => mm_if_ne 66 dX6_read_32 (by decide)) (fun c_32 => ?_) (fun c_32 => ?_)
          · exact absurd e5 c_32
          · refine mm_Es (fun _ _ => mm_aload_n dX6_read_35 rfl rfl) ?_
            refine mm_Es (fun _ _ => mm_cV (Y1 := YX6_readClause) dX6_read_36 lX6_38 vX6_readClause (M1) sh_8 rfl rfl (by simp [Value.category])) ?_
            refine mm_Es (fun _ _ => mm_aload_n dX6_read_39 rfl rfl) ?_
            refine mm_Es (fun _ _ => mm_getS dX6_read_40 fX6_18 sh_8 rfl gr_8_1) ?_
            refine mm_Es (fun _ _ => mm_cV (Y1 := YX8_kind) dX6_read_43 lX6_41 vX8_kind (M2) sh_4 rfl rfl (by simp [Value.category])) ?_
            refine mm_Es (fun _ _ => mm_iconst (x := 3) dX6_read_46 (by decide)) ?_
            refine mm_Eb (fun _ _ => mm_icmp_eq 53 dX6_read_47 (by decide)) (fun c_47 => ?_) (fun c_47 => ?_)
            · refine mm_Es (fun _ _ => mm_aload_n dX6_read_53 rfl rfl) ?_
              refine mm_Es (fun _ _ => mm_getS dX6_read_54 fX6_18 sh_8 rfl gr_8_1) ?_
              refine mm_Es (fun _ _ => mm_cV (Y1 := YX8_step) dX6_read_57 lX6_45 vX8_step (S2) sh_4 rfl rfl (by simp [Value.category])) ?_
              refine mm_Es (fun _ _ => mm_iinc dX6_read_60 rfl (nI_inc i) rfl) ?_
              refine mm_Es (fun _ _ => mm_goto 19 dX6_read_63 (by decide)) ?_
              exact KQ
            · refine mm_Es (fun _ _ => mm_goto 66 dX6_read_50 (by decide)) ?_
              exact KE _ _ _ fg1 t2
      | ok q =>
        rw [e] at r1
        obtain ⟨t2, hV2, b2, d2, m2, k2, bb2, dd2⟩ := r1
        obtain ⟨ok1, ok2, ok3⟩ := mcl_ok hA hzA e
        have M2 := mX8_kind (d + 3) g1 B n q.2.2.2 0 t2
        have kb := kd_lt B n q.2.2.2
        obtain ⟨g2, S2, t3, f3⟩ := mX8_step (d + 3) g1 B n q.2.2.2 0 t2
        rw [mrun_k e]
        by_cases h3 : kd B n q.2.2.2 = 3
        · rw [if_pos h3]
          have K := ih q.1 q.2.1 q.2.2.1 (nx B n q.2.2.2) g2 (i + 1) (by omega) (by omega) (fp4 fg1 f3) ⟨t3, viewD_f hV2 f3 (fun c hc => by simp [onep]; omega), by rw [f3.i rfl]; exact b2, by rw [f3.i rfl]; exact d2, m2, k2, bb2, dd2⟩ ok1 ok2
          refine mm_Es (fun _ _ => mm_iload_n dX6_read_19 rfl rfl) ?_
          refine mm_Es (fun _ _ => mm_bipush (x := 24) dX6_read_20 (by decide)) ?_
          refine mm_Eb (fun _ _ => mm_icmp_ge 66 dX6_read_22 (by decide)) (fun c_22 => ?_) (fun c_22 => ?_)
          · exact absurd c_22 (nI_ge (b := 24) (by omega) (by omega))
          · refine mm_Es (fun _ _ => mm_aload_n dX6_read_25 rfl rfl) ?_
            refine mm_Es (fun _ _ => mm_getS dX6_read_26 fX6_18 sh_8 rfl gr_8_1) ?_
            refine mm_Es (fun _ _ => mm_getI dX6_read_29 fX6_32 sh_4 rfl) ?_
            refine mm_Ebn (fun _ _ => mm_if_ne 66 dX6_read_32 (by decide)) (fun c_32 => ?_) (fun c_32 => ?_)
            · exact absurd e5 c_32
            · refine mm_Es (fun _ _ => mm_aload_n dX6_read_35 rfl rfl) ?_
              refine mm_Es (fun _ _ => mm_cV (Y1 := YX6_readClause) dX6_read_36 lX6_38 vX6_readClause (M1) sh_8 rfl rfl (by simp [Value.category])) ?_
              refine mm_Es (fun _ _ => mm_aload_n dX6_read_39 rfl rfl) ?_
              refine mm_Es (fun _ _ => mm_getS dX6_read_40 fX6_18 sh_8 rfl gr_8_1) ?_
              refine mm_Es (fun _ _ => mm_cV (Y1 := YX8_kind) dX6_read_43 lX6_41 vX8_kind (M2) sh_4 rfl rfl (by simp [Value.category])) ?_
              refine mm_Es (fun _ _ => mm_iconst (x := 3) dX6_read_46 (by decide)) ?_
              refine mm_Eb (fun _ _ => mm_icmp_eq 53 dX6_read_47 (by decide)) (fun c_47 => ?_) (fun c_47 => ?_)
              · refine mm_Es (fun _ _ => mm_aload_n dX6_read_53 rfl rfl) ?_
                refine mm_Es (fun _ _ => mm_getS dX6_read_54 fX6_18 sh_8 rfl gr_8_1) ?_
                refine mm_Es (fun _ _ => mm_cV (Y1 := YX8_step) dX6_read_57 lX6_45 vX8_step (S2) sh_4 rfl rfl (by simp [Value.category])) ?_
                refine mm_Es (fun _ _ => mm_iinc dX6_read_60 rfl (nI_inc i) rfl) ?_
                refine mm_Es (fun _ _ => mm_goto 19 dX6_read_63 (by decide)) ?_
                exact K
              · exact absurd (by rw [h3]; rfl) c_47
        · rw [if_neg h3]
          have K := K66 g1 q.2.2.2 q.1 (some (.int (nI i))) fg1 t2 hV2 k2
          refine mm_Es (fun _ _ => mm_iload_n dX6_read_19 rfl rfl) ?_
          refine mm_Es (fun _ _ => mm_bipush (x := 24) dX6_read_20 (by decide)) ?_
          refine mm_Eb (fun _ _ => mm_icmp_ge 66 dX6_read_22 (by decide)) (fun c_22 => ?_) (fun c_22 => ?_)
          · exact absurd c_22 (nI_ge (b := 24) (by omega) (by omega))
          · refine mm_Es (fun _ _ => mm_aload_n dX6_read_25 rfl rfl) ?_
            refine mm_Es (fun _ _ => mm_getS dX6_read_26 fX6_18 sh_8 rfl gr_8_1) ?_
            refine mm_Es (fun _ _ => mm_getI dX6_read_29 fX6_32 sh_4 rfl) ?_
            refine mm_Ebn (fun _ _ => mm_if_ne 66 dX6_read_32 (by decide)) (fun c_32 => ?_) (fun c_32 => ?_)
            · exact absurd e5 c_32
            · refine mm_Es (fun _ _ => mm_aload_n dX6_read_35 rfl rfl) ?_
              refine mm_Es (fun _ _ => mm_cV (Y1 := YX6_readClause) dX6_read_36 lX6_38 vX6_readClause (M1) sh_8 rfl rfl (by simp [Value.category])) ?_
              refine mm_Es (fun _ _ => mm_aload_n dX6_read_39 rfl rfl) ?_
              refine mm_Es (fun _ _ => mm_getS dX6_read_40 fX6_18 sh_8 rfl gr_8_1) ?_
              refine mm_Es (fun _ _ => mm_cV (Y1 := YX8_kind) dX6_read_43 lX6_41 vX8_kind (M2) sh_4 rfl rfl (by simp [Value.category])) ?_
              refine mm_Es (fun _ _ => mm_iconst (x := 3) dX6_read_46 (by decide)) ?_
              refine mm_Eb (fun _ _ => mm_icmp_eq 53 dX6_read_47 (by decide)) (fun c_47 => ?_) (fun c_47 => ?_)
              · exact absurd ((nI_eq (b := 3) (by omega) (by omega)).mp c_47) h3
              · refine mm_Es (fun _ _ => mm_goto 66 dX6_read_50 (by decide)) ?_
                exact K
  have MC := mX5_clear (d + 3) h 9 mint9
  obtain ⟨ge, ege⟩ : ∃ g : mm_H, g = (mm_up (mm_up (mm_up (mm_up (mm_up (mm_up h.1 9 0 0) 9 7 0) 9 10 0) 9 11 0) 8 2 0) 8 3 0, h.2.1, h.2.2) := ⟨_, rfl⟩
  have fe : frm (rg 8 9) h ge := by rw [ege]; exact (((((((frm.refl _ h).up (c := 9) rfl).up (c := 9) rfl).up (c := 9) rfl).up (c := 9) rfl).up (c := 8) rfl).up (c := 8) rfl)
  have te : TX B n ge pos 0 := TX_f t fe ⟨rfl, rfl, rfl, rfl⟩
  have ve : viewD ge A0 := by
    rw [ege]; unfold viewD; dsimp only
    refine ⟨?_, ?_, ?_, ?_, fun c hc => absurd hc (Nat.not_lt_zero c), fun c hc => absurd hc (Nat.not_lt_zero c)⟩
    · rw [mm_up_n (by decide), mm_up_n (by decide), mm_up_k (by decide), mm_up_k (by decide), mm_up_k (by decide), mm_up_e]; rfl
    · rw [mm_up_n (by decide), mm_up_n (by decide), mm_up_k (by decide), mm_up_k (by decide), mm_up_e]; rfl
    · rw [mm_up_n (by decide), mm_up_n (by decide), mm_up_k (by decide), mm_up_e]; rfl
    · rw [mm_up_n (by decide), mm_up_n (by decide), mm_up_e]; rfl
  have K := K19 30 A0 0 0 pos ge 0 rfl rfl (fe.mono (fun c hc => by simp only [pM8, Bool.or_eq_false_iff, rg, decide_eq_false_iff_not] at hc ⊢; omega)) ⟨te, ve, by rw [ege]; dsimp only; rw [mm_up_k (by decide), mm_up_e]; rfl, by rw [ege]; dsimp only; rw [mm_up_e]; rfl, by decide, by decide, by decide, by decide⟩ A0_ok.1 A0_ok.2
  refine mm_Es (fun _ _ => mm_aload_n dX6_read_0 rfl rfl) ?_
  refine mm_Es (fun _ _ => mm_getS dX6_read_1 fX6_12 sh_8 rfl gr_8_0) ?_
  refine mm_Es (fun _ _ => mm_cV (Y1 := YX5_clear) dX6_read_4 lX6_22 vX5_clear (MC) sh_9 rfl rfl (by simp [Value.category])) ?_
  refine mm_Es (fun _ _ => mm_aload_n dX6_read_7 rfl rfl) ?_
  refine mm_Es (fun _ _ => mm_iconst (x := 0) dX6_read_8 (by decide)) ?_
  refine mm_Es (fun _ _ => mm_putI dX6_read_9 fX6_25 sh_8 rfl rfl rfl) ?_
  refine mm_Es (fun _ _ => mm_aload_n dX6_read_12 rfl rfl) ?_
  refine mm_Es (fun _ _ => mm_iconst (x := 0) dX6_read_13 (by decide)) ?_
  refine mm_Es (fun _ _ => mm_putI dX6_read_14 fX6_29 sh_8 rfl rfl rfl) ?_
  refine mm_Es (fun _ _ => mm_iconst (x := 0) dX6_read_17 (by decide)) ?_
  refine mm_Es (fun _ _ => mm_istore_n dX6_read_18 rfl (by decide) rfl) ?_
  exact mm_Ec rfl rfl ege.symm K
