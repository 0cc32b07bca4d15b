/-! Fields, rows, calls. -/
theorem mm_shlen : mm_shL.length = mm_N := by decide +kernel
theorem mm_shsmall : ∀ q ∈ mm_shL, q.2 < 2 ^ 31 := by decide +kernel
theorem mm_lt {a : Nat} {q : Nat × Nat} (h : mm_sh a = q) (h9 : q.1 ≠ 9) : a < mm_N := by
  rcases Nat.lt_or_ge a mm_N with z | z
  · exact z
  · exfalso
    have e : mm_sh a = (9, 0) := by
      unfold mm_sh
      rw [List.getD_eq_getElem?_getD, List.getElem?_eq_none (by rw [mm_shlen]; exact z)]
      rfl
    rw [e] at h
    exact h9 (by rw [← h])
theorem mm_len {a : Nat} {q : Nat × Nat} (h : mm_sh a = q) : q.2 < 2 ^ 31 := by
  rw [← h]
  unfold mm_sh
  rw [List.getD_eq_getElem?_getD]
  cases e : mm_shL[a]? with
  | none => decide
  | some z => exact mm_shsmall z (List.mem_of_getElem? e)
theorem mm_fs_at (ad : Nat → Nat) (h : mm_H) (a ci : Nat) {k : Nat} (hk : k < mm_nf ci) : (mm_fs ad h a ci)[k]? = some (mm_fv ad h a (mm_ft ci k) k) := by
  unfold mm_fs
  rw [List.getElem?_map, List.getElem?_range hk]
  rfl
theorem mm_fs_len (ad : Nat → Nat) (h : mm_H) (a ci : Nat) : (mm_fs ad h a ci).length = mm_nf ci := by simp [mm_fs]
theorem mm_obj (tC : Nat → ClassId) (ad : Nat → Nat) (h : mm_H) {a ci : Nat} (ha : mm_sh a = (0, ci)) : (mm_w tC ad h)[a]? = some (ad a, .inr (ci, mm_fs ad h a ci)) := by
  rw [mm_w_at tC ad h (mm_lt ha (by simp)), ha]
  rfl
theorem mm_ints (tC : Nat → ClassId) (ad : Nat → Nat) (h : mm_H) {a k n : Nat} (hk : k = 1 ∨ k = 2 ∨ k = 3) (ha : mm_sh a = (k, n)) : (mm_w tC ad h)[a]? = some (ad a, .inl (tC k, n, .inl (h.1 a))) := by
  rw [mm_w_at tC ad h (mm_lt ha (by show k ≠ 9; omega)), ha]
  rcases hk with rfl | rfl | rfl <;> rfl
theorem mm_longs (tC : Nat → ClassId) (ad : Nat → Nat) (h : mm_H) {a n : Nat} (ha : mm_sh a = (4, n)) : (mm_w tC ad h)[a]? = some (ad a, .inl (tC 4, n, .inr (.inl (h.2.1 a)))) := by
  rw [mm_w_at tC ad h (mm_lt ha (by simp)), ha]
  rfl
theorem mm_refs (tC : Nat → ClassId) (ad : Nat → Nat) (h : mm_H) {a k n : Nat} (hk : k = 5 ∨ k = 6) (ha : mm_sh a = (k, n)) : (mm_w tC ad h)[a]? = some (ad a, .inl (tC k, n, .inr (.inr (.inr (.inr (fun i => (mm_gr a i).map ad)))))) := by
  rw [mm_w_at tC ad h (mm_lt ha (by show k ≠ 9; omega)), ha]
  rcases hk with rfl | rfl <;> rfl
/-- a number's field set -/
theorem mm_fs_set (ad : Nat → Nat) (h : mm_H) (a ci : Nat) {k : Nat} (x : Int32) (hk : k < mm_nf ci) (ht : mm_ft ci k = 0) : (mm_fs ad h a ci).set k (.int x) = mm_fs ad (mm_up h.1 a k x, h.2.1, h.2.2) a ci := by
  apply List.ext_getElem?
  intro i
  by_cases hi : i = k
  · subst hi
    rw [List.getElem?_set_self (by rw [mm_fs_len]; exact hk), mm_fs_at _ _ _ _ hk, ht]
    simp [mm_fv, mm_up, upd]
  · rw [List.getElem?_set_ne (fun z => hi z.symm)]
    by_cases hn : i < mm_nf ci
    · rw [mm_fs_at _ _ _ _ hn, mm_fs_at _ _ _ _ hn]
      congr 1
      unfold mm_fv
      split <;> simp [mm_up, upd, hi]
    · rw [List.getElem?_eq_none (by rw [mm_fs_len]; omega), List.getElem?_eq_none (by rw [mm_fs_len]; omega)]
theorem mm_fs_setR (ad : Nat → Nat) (h : mm_H) (a ci : Nat) {k : Nat} (b : Nat) (hk : k < mm_nf ci) (ht : mm_ft ci k = 3) (hone : ∀ j, j < mm_nf ci → mm_ft ci j = 3 → j = k) (hft : ∀ j, j < mm_nf ci → mm_ft ci j ≤ 3) : (mm_fs ad h a ci).set k (.ref (ad b)) = mm_fs ad (h.1, h.2.1, mm_upR h.2.2 a b) a ci := by
  apply List.ext_getElem?
  intro i
  by_cases hi : i = k
  · subst hi
    rw [List.getElem?_set_self (by rw [mm_fs_len]; exact hk), mm_fs_at _ _ _ _ hk, ht]
    simp [mm_fv, mm_upR]
  · rw [List.getElem?_set_ne (fun z => hi z.symm)]
    by_cases hn : i < mm_nf ci
    · rw [mm_fs_at _ _ _ _ hn, mm_fs_at _ _ _ _ hn]
      have h3 : mm_ft ci i ≠ 3 := fun z => hi (hone i hn z)
      have h4 := hft i hn
      have h5 : mm_ft ci i = 0 ∨ mm_ft ci i = 1 ∨ mm_ft ci i = 2 := by omega
      rcases h5 with z | z | z <;> rw [z] <;> rfl
    · rw [List.getElem?_eq_none (by rw [mm_fs_len]; omega), List.getElem?_eq_none (by rw [mm_fs_len]; omega)]
section MMH
variable {d : Nat} {Y : mm_Y} {pc : Nat} {ls : List (Option Value)} {st : List Value} {h : mm_H} {v : Option Value} {h' : mm_H}
theorem mm_getI {a idx ci k : Nat} {ty : FieldType} (hd : decode Y.2.1 pc = .ok (.getfield idx, 3)) (hf : mm_Fd Y.1.cls idx ci k ty) (ha : mm_sh a = (0, ci)) (ht : mm_ft ci k = 0) (kk : mm_R d Y (pc + 3) ls (.int (h.1 a k) :: st) h v h') : mm_R d Y pc ls (.ref a :: st) h v h' := by
  intro p l e s m args below meth c D tC ad A C H locs la hP hS hL
  obtain ⟨Cn, T, N, ty0, f1, f2, f3, f4, f5, f6, f7, f8, -⟩ := hf
  have hv : (mm_fs ad h a ci)[k]? = some (.int (h.1 a k)) := by rw [mm_fs_at _ _ _ _ (by rw [← f3]; exact f4), ht]; rfl
  exact va_get (D := D) (cl := vwCl) (tys := mm_tys tC) (C := Cn) (T := T) (N := N) C.1 C.2.1 C.2.2.2.2.2.1 f2 C.2.2.2.2.1 C.2.2.2.2.2.2.2.1 hP a (mm_obj tC ad h ha) f1 k f4 (C.2.2.2.2.2.1 _ f7) (fun _ z => z) hv hd (kk p l e s m args below meth c D tC ad A C H locs la hP hS hL)
theorem mm_getS {a idx ci k b : Nat} {ty : FieldType} (hd : decode Y.2.1 pc = .ok (.getfield idx, 3)) (hf : mm_Fd Y.1.cls idx ci k ty) (ha : mm_sh a = (0, ci)) (ht : mm_ft ci k = 2) (hg : mm_gr a k = some b) (kk : mm_R d Y (pc + 3) ls (.ref b :: st) h v h') : mm_R d Y pc ls (.ref a :: st) h v h' := by
  intro p l e s m args below meth c D tC ad A C H locs la hP hS hL
  obtain ⟨Cn, T, N, ty0, f1, f2, f3, f4, f5, f6, f7, f8, -⟩ := hf
  have hv : (mm_fs ad h a ci)[k]? = some (.ref (ad b)) := by rw [mm_fs_at _ _ _ _ (by rw [← f3]; exact f4), ht]; simp [mm_fv, hg, va_rf]
  exact va_get (D := D) (cl := vwCl) (tys := mm_tys tC) (C := Cn) (T := T) (N := N) C.1 C.2.1 C.2.2.2.2.2.1 f2 C.2.2.2.2.1 C.2.2.2.2.2.2.2.1 hP a (mm_obj tC ad h ha) f1 k f4 (C.2.2.2.2.2.1 _ f7) (fun _ z => z) hv hd (kk p l e s m args below meth c D tC ad A C H locs la hP hS hL)
theorem mm_getR {a idx ci k b : Nat} {ty : FieldType} (hd : decode Y.2.1 pc = .ok (.getfield idx, 3)) (hf : mm_Fd Y.1.cls idx ci k ty) (ha : mm_sh a = (0, ci)) (ht : mm_ft ci k = 3) (hg : h.2.2 a = b) (kk : mm_R d Y (pc + 3) ls (.ref b :: st) h v h') : mm_R d Y pc ls (.ref a :: st) h v h' := by
  intro p l e s m args below meth c D tC ad A C H locs la hP hS hL
  obtain ⟨Cn, T, N, ty0, f1, f2, f3, f4, f5, f6, f7, f8, -⟩ := hf
  have hv : (mm_fs ad h a ci)[k]? = some (.ref (ad b)) := by rw [mm_fs_at _ _ _ _ (by rw [← f3]; exact f4), ht, ← hg]; rfl
  exact va_get (D := D) (cl := vwCl) (tys := mm_tys tC) (C := Cn) (T := T) (N := N) C.1 C.2.1 C.2.2.2.2.2.1 f2 C.2.2.2.2.1 C.2.2.2.2.2.2.2.1 hP a (mm_obj tC ad h ha) f1 k f4 (C.2.2.2.2.2.1 _ f7) (fun _ z => z) hv hd (kk p l e s m args below meth c D tC ad A C H locs la hP hS hL)
theorem mm_putI {a idx ci k : Nat} {ty : FieldType} {x : Int32} (hd : decode Y.2.1 pc = .ok (.putfield idx, 3)) (hf : mm_Fd Y.1.cls idx ci k ty) (ha : mm_sh a = (0, ci)) (ht : mm_ft ci k = 0) (hn : narrow ty (.int x) = .int x) (hx : fits ty (.int x) = true) (kk : mm_R d Y (pc + 3) ls st (mm_up h.1 a k x, h.2.1, h.2.2) v h') : mm_R d Y pc ls (.int x :: .ref a :: st) h v h' := by
  intro p l e s m args below meth c D tC ad A C H locs la hP hS hL
  obtain ⟨Cn, T, N, ty0, f1, f2, f3, f4, f5, f6, f7, f8, f9⟩ := hf
  have hk : k < mm_nf ci := by rw [← f3]; exact f4
  have hfin : (T k).2.2.2 = false := by
    rcases f9 with z | z
    · exact z
    · rw [ht] at z; cases z
  refine va_put (D := D) (cl := vwCl) (tys := mm_tys tC) (C := Cn) (T := T) (N := N) (v := .int x) (ty := ty) C.1 C.2.1 C.2.2.2.2.2.1 f2 ty0 f5 f6 C.2.2.2.2.1 C.2.2.2.2.2.2.2.1 hP (mm_D h C.2.2.2.2.2.2.2.2.2.1) hS a (mm_obj tC ad h ha) f1 k f4 (C.2.2.2.2.2.1 _ f7) (fun _ z => z) hfin ((f5 k f4).trans (congrArg some f8)) hn hx (by rw [mm_fs_len]; exact hk) hd (fun H1 locs1 hP1 hD1 hS1 => ?_)
  refine kk p l e s m args below meth c D tC ad A C H1 locs1 la ?_ hS1 hL
  rw [mm_fs_set ad h a ci x hk ht, mm_w_set tC ad (h := h) (g := (mm_up h.1 a k x, h.2.1, h.2.2)) (mm_lt ha (by simp)) (fun b hb => ⟨by simp [mm_up, hb], rfl, rfl⟩) (by rw [ha]; rfl)] at hP1
  exact hP1
theorem mm_putR {a idx ci k b : Nat} {n : String} (hd : decode Y.2.1 pc = .ok (.putfield idx, 3)) (hf : mm_Fd Y.1.cls idx ci k (.object n)) (ha : mm_sh a = (0, ci)) (ht : mm_ft ci k = 3) (hone : ∀ j, j < mm_nf ci → mm_ft ci j = 3 → j = k) (hft : ∀ j, j < mm_nf ci → mm_ft ci j ≤ 3) (kk : mm_R d Y (pc + 3) ls st (h.1, h.2.1, mm_upR h.2.2 a b) v h') : mm_R d Y pc ls (.ref b :: .ref a :: st) h v h' := by
  intro p l e s m args below meth c D tC ad A C H locs la hP hS hL
  obtain ⟨Cn, T, N, ty0, f1, f2, f3, f4, f5, f6, f7, f8, f9⟩ := hf
  have hk : k < mm_nf ci := by rw [← f3]; exact f4
  have hfin : (T k).2.2.2 = false := by
    rcases f9 with z | z
    · exact z
    · rw [ht] at z; cases z
  refine va_put (D := D) (cl := vwCl) (tys := mm_tys tC) (C := Cn) (T := T) (N := N) (v := .ref (ad b)) (ty := .object n) C.1 C.2.1 C.2.2.2.2.2.1 f2 ty0 f5 f6 C.2.2.2.2.1 C.2.2.2.2.2.2.2.1 hP (mm_D h C.2.2.2.2.2.2.2.2.2.1) hS a (mm_obj tC ad h ha) f1 k f4 (C.2.2.2.2.2.1 _ f7) (fun _ z => z) hfin ((f5 k f4).trans (congrArg some f8)) rfl rfl (by rw [mm_fs_len]; exact hk) hd (fun H1 locs1 hP1 hD1 hS1 => ?_)
  refine kk p l e s m args below meth c D tC ad A C H1 locs1 la ?_ hS1 hL
  rw [mm_fs_setR ad h a ci b hk ht hone hft, mm_w_set tC ad (h := h) (g := (h.1, h.2.1, mm_upR h.2.2 a b)) (mm_lt ha (by simp)) (fun b hb => ⟨rfl, rfl, by simp [mm_upR, hb]⟩) (by rw [ha]; rfl)] at hP1
  exact hP1
/-! rows -/
theorem mm_iald {a n : Nat} {i : Int32} (j : Nat) (hd : decode Y.2.1 pc = .ok (.iaload, 1)) (ha : mm_sh a = (1, n)) (hi : i = nI j) (hj : j < n) (kk : mm_R d Y (pc + 1) ls (.int (h.1 a j) :: st) h v h') : mm_R d Y pc ls (.int i :: .ref a :: st) h v h' := by
  intro p l e s m args below meth c D tC ad A C H locs la hP hS hL
  have hn := mm_len ha
  subst hi
  have K := kk p l e s m args below meth c D tC ad A C H locs la hP hS hL
  rw [← nI_clamp (Nat.lt_trans hj hn)] at K
  exact va_iald C.1 C.2.1 C.2.2.2.2.2.2.2.1 hP a 0 (mm_ints tC ad h (Or.inl rfl) ha) rfl (vp_in_nI hj hn) hd K
theorem mm_bald {a n : Nat} {i : Int32} (j : Nat) (hd : decode Y.2.1 pc = .ok (.baload, 1)) (ha : mm_sh a = (2, n)) (hi : i = nI j) (hj : j < n) (kk : mm_R d Y (pc + 1) ls (.int (h.1 a j) :: st) h v h') : mm_R d Y pc ls (.int i :: .ref a :: st) h v h' := by
  intro p l e s m args below meth c D tC ad A C H locs la hP hS hL
  have hn := mm_len ha
  subst hi
  have K := kk p l e s m args below meth c D tC ad A C H locs la hP hS hL
  rw [← nI_clamp (Nat.lt_trans hj hn)] at K
  exact va_bald C.1 C.2.1 C.2.2.2.2.2.2.2.1 hP a 1 (mm_ints tC ad h (Or.inr (Or.inl rfl)) ha) rfl (vp_in_nI hj hn) hd K
theorem mm_zald {a n : Nat} {i : Int32} (j : Nat) (hd : decode Y.2.1 pc = .ok (.baload, 1)) (ha : mm_sh a = (3, n)) (hi : i = nI j) (hj : j < n) (kk : mm_R d Y (pc + 1) ls (.int (h.1 a j) :: st) h v h') : mm_R d Y pc ls (.int i :: .ref a :: st) h v h' := by
  intro p l e s m args below meth c D tC ad A C H locs la hP hS hL
  have hn := mm_len ha
  subst hi
  have K := kk p l e s m args below meth c D tC ad A C H locs la hP hS hL
  rw [← nI_clamp (Nat.lt_trans hj hn)] at K
  exact va_zald C.1 C.2.1 C.2.2.2.2.2.2.2.1 hP a 2 (mm_ints tC ad h (Or.inr (Or.inr rfl)) ha) rfl (vp_in_nI hj hn) hd K
theorem mm_lald {a n : Nat} {i : Int32} (j : Nat) (hd : decode Y.2.1 pc = .ok (.laload, 1)) (ha : mm_sh a = (4, n)) (hi : i = nI j) (hj : j < n) (kk : mm_R d Y (pc + 1) ls (.long (h.2.1 a j) :: st) h v h') : mm_R d Y pc ls (.int i :: .ref a :: st) h v h' := by
  intro p l e s m args below meth c D tC ad A C H locs la hP hS hL
  have hn := mm_len ha
  subst hi
  have K := kk p l e s m args below meth c D tC ad A C H locs la hP hS hL
  rw [← nI_clamp (Nat.lt_trans hj hn)] at K
  exact va_lald C.1 C.2.1 C.2.2.2.2.2.2.2.1 hP a 3 (mm_longs tC ad h ha) rfl (vp_in_nI hj hn) hd K
theorem mm_aald {a n b k : Nat} {i : Int32} (j : Nat) (hd : decode Y.2.1 pc = .ok (.aaload, 1)) (hk : k = 5 ∨ k = 6) (ha : mm_sh a = (k, n)) (hi : i = nI j) (hj : j < n) (hg : mm_gr a j = some b) (kk : mm_R d Y (pc + 1) ls (.ref b :: st) h v h') : mm_R d Y pc ls (.int i :: .ref a :: st) h v h' := by
  intro p l e s m args below meth c D tC ad A C H locs la hP hS hL
  have hn := mm_len ha
  subst hi
  have K : W p l e (mm_rm d) s m args below meth c H locs 0 0 (MQ below (mm_Qc D tC ad A v h') args s 0 0 A) (F0 m (pc + 1) la (va_rf ((mm_gr a (nI j).toNatClampNeg).map ad) :: st.map (mm_cv ad))) := by
    rw [nI_clamp (Nat.lt_trans hj hn), hg]
    exact kk p l e s m args below meth c D tC ad A C H locs la hP hS hL
  rcases hk with rfl | rfl
  · exact va_aldq (f := fun i => (mm_gr a i).map ad) C.1 C.2.1 C.2.2.2.2.2.2.2.1 hP a 4 (mm_refs tC ad h (Or.inl rfl) ha) rfl (vp_in_nI hj hn) hd K
  · exact va_aldq (f := fun i => (mm_gr a i).map ad) C.1 C.2.1 C.2.2.2.2.2.2.2.1 hP a 5 (mm_refs tC ad h (Or.inr rfl) ha) rfl (vp_in_nI hj hn) hd K
theorem mm_iast {a n : Nat} {i x : Int32} (j : Nat) (hd : decode Y.2.1 pc = .ok (.iastore, 1)) (ha : mm_sh a = (1, n)) (hi : i = nI j) (hj : j < n) (kk : mm_R d Y (pc + 1) ls st (mm_up h.1 a j x, h.2.1, h.2.2) v h') : mm_R d Y pc ls (.int x :: .int i :: .ref a :: st) h v h' := by
  intro p l e s m args below meth c D tC ad A C H locs la hP hS hL
  have hn := mm_len ha
  subst hi
  refine va_iast C.1 C.2.1 C.2.2.2.2.2.2.2.1 hP (mm_D h C.2.2.2.2.2.2.2.2.2.1) hS a 0 (mm_ints tC ad h (Or.inl rfl) ha) rfl (vp_in_nI hj hn) hd (fun H1 locs1 hP1 _ hS1 => ?_)
  refine kk p l e s m args below meth c D tC ad A C H1 locs1 la ?_ hS1 hL
  rw [nI_clamp (Nat.lt_trans hj hn), mm_w_set tC ad (h := h) (g := (mm_up h.1 a j x, h.2.1, h.2.2)) (mm_lt ha (by simp)) (fun b hb => ⟨by simp [mm_up, hb], rfl, rfl⟩) (by rw [ha]; simp [mm_ent, mm_up])] at hP1
  exact hP1
theorem mm_bast {a n : Nat} {i x y : Int32} (j : Nat) (hd : decode Y.2.1 pc = .ok (.bastore, 1)) (ha : mm_sh a = (2, n)) (hi : i = nI j) (hj : j < n) (hx : vp_nar .byte x = y) (kk : mm_R d Y (pc + 1) ls st (mm_up h.1 a j y, h.2.1, h.2.2) v h') : mm_R d Y pc ls (.int x :: .int i :: .ref a :: st) h v h' := by
  intro p l e s m args below meth c D tC ad A C H locs la hP hS hL
  have hn := mm_len ha
  subst hi
  refine va_bast C.1 C.2.1 C.2.2.2.2.2.2.2.1 hP (mm_D h C.2.2.2.2.2.2.2.2.2.1) hS a 1 (mm_ints tC ad h (Or.inr (Or.inl rfl)) ha) rfl (vp_in_nI hj hn) hd (fun H1 locs1 hP1 _ hS1 => ?_)
  refine kk p l e s m args below meth c D tC ad A C H1 locs1 la ?_ hS1 hL
  rw [nI_clamp (Nat.lt_trans hj hn), hx, mm_w_set tC ad (h := h) (g := (mm_up h.1 a j y, h.2.1, h.2.2)) (mm_lt ha (by simp)) (fun b hb => ⟨by simp [mm_up, hb], rfl, rfl⟩) (by rw [ha]; simp [mm_ent, mm_up])] at hP1
  exact hP1
theorem mm_zast {a n : Nat} {i x y : Int32} (j : Nat) (hd : decode Y.2.1 pc = .ok (.bastore, 1)) (ha : mm_sh a = (3, n)) (hi : i = nI j) (hj : j < n) (hx : vp_nar .boolean x = y) (kk : mm_R d Y (pc + 1) ls st (mm_up h.1 a j y, h.2.1, h.2.2) v h') : mm_R d Y pc ls (.int x :: .int i :: .ref a :: st) h v h' := by
  intro p l e s m args below meth c D tC ad A C H locs la hP hS hL
  have hn := mm_len ha
  subst hi
  refine va_zast C.1 C.2.1 C.2.2.2.2.2.2.2.1 hP (mm_D h C.2.2.2.2.2.2.2.2.2.1) hS a 2 (mm_ints tC ad h (Or.inr (Or.inr rfl)) ha) rfl (vp_in_nI hj hn) hd (fun H1 locs1 hP1 _ hS1 => ?_)
  refine kk p l e s m args below meth c D tC ad A C H1 locs1 la ?_ hS1 hL
  rw [nI_clamp (Nat.lt_trans hj hn), hx, mm_w_set tC ad (h := h) (g := (mm_up h.1 a j y, h.2.1, h.2.2)) (mm_lt ha (by simp)) (fun b hb => ⟨by simp [mm_up, hb], rfl, rfl⟩) (by rw [ha]; simp [mm_ent, mm_up])] at hP1
  exact hP1
theorem mm_last {a n : Nat} {i : Int32} {x : Int64} (j : Nat) (hd : decode Y.2.1 pc = .ok (.lastore, 1)) (ha : mm_sh a = (4, n)) (hi : i = nI j) (hj : j < n) (kk : mm_R d Y (pc + 1) ls st (h.1, mm_upL h.2.1 a j x, h.2.2) v h') : mm_R d Y pc ls (.long x :: .int i :: .ref a :: st) h v h' := by
  intro p l e s m args below meth c D tC ad A C H locs la hP hS hL
  have hn := mm_len ha
  subst hi
  refine va_last C.1 C.2.1 C.2.2.2.2.2.2.2.1 hP (mm_D h C.2.2.2.2.2.2.2.2.2.1) hS a 3 (mm_longs tC ad h ha) rfl (vp_in_nI hj hn) hd (fun H1 locs1 hP1 _ hS1 => ?_)
  refine kk p l e s m args below meth c D tC ad A C H1 locs1 la ?_ hS1 hL
  rw [nI_clamp (Nat.lt_trans hj hn), mm_w_set tC ad (h := h) (g := (h.1, mm_upL h.2.1 a j x, h.2.2)) (mm_lt ha (by simp)) (fun b hb => ⟨rfl, by simp [mm_upL, hb], rfl⟩) (by rw [ha]; simp [mm_ent, mm_upL])] at hP1
  exact hP1
theorem mm_alen {a n k : Nat} (hd : decode Y.2.1 pc = .ok (.arraylength, 1)) (hk : k = 1 ∨ k = 2 ∨ k = 3) (ha : mm_sh a = (k, n)) (kk : mm_R d Y (pc + 1) ls (.int (nI n) :: st) h v h') : mm_R d Y pc ls (.ref a :: st) h v h' := by
  intro p l e s m args below meth c D tC ad A C H locs la hP hS hL
  have K := kk p l e s m args below meth c D tC ad A C H locs la hP hS hL
  have hw := mm_ints tC ad h hk ha
  rcases hk with rfl | rfl | rfl
  · exact va_alen C.1 C.2.1 C.2.2.2.2.2.2.2.1 hP a 0 hw (ty := .int) rfl (v := nI n) rfl hd K
  · exact va_alen C.1 C.2.1 C.2.2.2.2.2.2.2.1 hP a 1 hw (ty := .byte) rfl (v := nI n) rfl hd K
  · exact va_alen C.1 C.2.1 C.2.2.2.2.2.2.2.1 hP a 2 hw (ty := .boolean) rfl (v := nI n) rfl hd K
theorem mm_alenL {a n : Nat} (hd : decode Y.2.1 pc = .ok (.arraylength, 1)) (ha : mm_sh a = (4, n)) (kk : mm_R d Y (pc + 1) ls (.int (nI n) :: st) h v h') : mm_R d Y pc ls (.ref a :: st) h v h' := by
  intro p l e s m args below meth c D tC ad A C H locs la hP hS hL
  have K := kk p l e s m args below meth c D tC ad A C H locs la hP hS hL
  exact va_alen C.1 C.2.1 C.2.2.2.2.2.2.2.1 hP a 3 (mm_longs tC ad h ha) (ty := .long) rfl (v := nI n) rfl hd K
end MMH
/-! entry and calls -/
theorem mm_Z.same {ad : Nat → Nat} {A : Nat → Prop} {u U : State} (hv : U.vm = u.vm) (hh : U.heap = u.heap) (hZ : mm_Z ad A u) : mm_Z ad A U := by
  obtain ⟨⟨h1, h2, h3⟩, h4⟩ := hZ
  have al : u.vm.Alike U.vm := by rw [hv]; exact Vm.Alike.refl _
  refine ⟨⟨?_, ?_, fun i q hq => vk_R.same hv (h3 i q hq)⟩, fun q hq => va_Nw.same rfl hv.symm (h4 q hq)⟩
  · rw [hh]; exact h1.moved al
  · rw [hh]; exact ⟨h2.1.moved al, h2.2.imp (fun z => z.moved al) (fun z => z.moved al)⟩
theorem mm_Z.go {ad : Nat → Nat} {A B : Nat → Prop} {s U : State} {H : Heap} {locs : List Loc} (hZ : mm_Z ad A s) (hS : va_S A s.heap H locs) (hB : ∀ q, B q → A q) (hU : U.heap = H) (hW : s.WarmedH U.vm) : mm_Z ad B U := by
  obtain ⟨⟨h1, h2, h3⟩, h4⟩ := hZ
  refine ⟨⟨?_, ?_, fun i q hq => (h3 i q hq).warm hW⟩, fun q hq => va_Nw.warmM hW (h4 q hq)⟩
  · rw [hU]; exact ((h1.moved hW.alike).kept hS.2.1).narrow hB
  · rw [hU]; exact ⟨((h2.1.moved hW.alike).kept hS.2.1).narrow hB, h2.2.imp (fun z => ((z.moved hW.alike).kept hS.2.1).narrow hB) (fun z => ((z.moved hW.alike).kept hS.2.1).narrow hB)⟩
theorem mm_A_in {tC : Nat → ClassId} {ad : Nat → Nat} {A : Nat → Prop} {s : State} {H : Heap} {locs : List Loc} {h g : mm_H} (hD : va_D A (mm_w tC ad g)) (hS : va_S A s.heap H locs) (hA : ∀ q, s.heap.size ≤ q → A q) : ∀ q, va_A (mm_w tC ad h) H.size q → A q := by
  intro q hq
  rcases hq with ⟨k, e, hk⟩ | hq
  · exact (mm_D h hD).2 k (q, e) hk
  · exact hA q (Nat.le_trans hS.1 hq)
theorem mm_M.of {d : Nat} {Y : mm_Y} {av : List Value} (ls : List (Option Value)) {h : mm_H} {v : Option Value} {h' : mm_H} (hy : plainName Y.1.cls = true) (hls : mm_lo av ++ List.replicate (Y.2.2.1 - (mm_lo av).length) none = ls) (hle : (mm_lo av).length ≤ Y.2.2.1) (k : mm_R d Y 0 ls [] h v h') : mm_M d Y av h v h' := by
  intro l D tC ad sz
  refine Met.ofW (cc := Y.2.1) (maxL := Y.2.2.1) (ret := Y.2.2.2) hy rfl ?_
  intro p e s m args below meth c s₁ B hml hv
  obtain ⟨rfl, hsz, hP, hK, hD0, hZ⟩ := hv
  have hts := atoms_spec (ws := mm_ws Y) B.pre
  have hown : s.vm.findClass Y.1.cls = some m.cls := findClass_of_methodNamed B.named
  subst hsz
  have hD : va_D (va_A (mm_w tC ad h) s.heap.size) (mm_w tC ad h) := hD0.self
  have C : mm_C mm_Z Y p s m (av.map (mm_cv ad)).toArray meth c D tC ad (va_A (mm_w tC ad h) s.heap.size) := ⟨B.exec, B.bytes, hml, B.returns, hown, fun w hw => hts w (List.mem_cons_of_mem _ hw), B.notSynchronized, hK, fun q hq => Or.inr hq, mm_D mm_h0 hD, hZ⟩
  have hl := lv_entry (av.map (mm_cv ad)) (n := Y.2.2.1) (by rw [mm_lo_sl]; exact hle)
  rw [lg_entry_eq]
  refine k p l e s m _ below meth c D tC ad _ C s.heap [] _ hP va_S.rf ⟨hl.1, hl.2.1, fun i w hi => ?_⟩
  rw [← hls] at hi
  have hi2 : (mm_lo av)[i]? = some (some w) := by
    by_cases hlt : i < (mm_lo av).length
    · rw [List.getElem?_append_left hlt] at hi
      exact hi
    · rw [List.getElem?_append_right (by omega), List.getElem?_replicate] at hi
      split at hi <;> simp at hi
  have := hl.2.2 _ (mm_lo_in ad av 0 i w hi2)
  simpa using this
/-- behind a call -/
theorem mm_after {p : Program} {l : Launch} {e : Env} {s : State} {m : MethodId} {args : Array Value} {below : List Frame} {meth : Method} {c : Code} {D : va_G} {tC : Nat → ClassId} {ad : Nat → Nat} {A : Nat → Prop} {R : Room} {H : Heap} {locs : List Loc} {pc : Nat} {la : Array Slot} {st0 rest : List Value} {a : Array Value} {h h1 : mm_H} {v1 : Option Value} {Q : State → Prop}
    (hr : va_Run p l e R s m args below meth c H locs 0 0 0 0 (F0 m pc la st0) rest (mm_Qc D tC ad (va_A (mm_w tC ad h) H.size) v1 h1 a) (va_A (mm_w tC ad h) H.size)) (hS : va_S A s.heap H locs) (hA : ∀ q, va_A (mm_w tC ad h) H.size q → A q)
    (kk : ∀ (H1 : Heap) (locs1 : List Loc), va_P D vwCl (mm_w tC ad h1) H1 → va_S A s.heap H1 locs1 → W p l e R s m args below meth c H1 locs1 0 0 Q (F0 m (pc + 3) la ((v1.map (mm_cv ad)).toList ++ rest))) : W p l e R s m args below meth c H locs 0 0 Q (F0 m pc la st0) := by
  intro T hT X
  obtain ⟨v, st₀, t, T', L, h0, X', hL, e1, e2, ⟨hv, hb, hz, hk⟩, st⟩ := hr T hT X
  cases hv
  rw [h0] at hz hk
  obtain ⟨t2, a1, b1⟩ := kk T'.heap (locs ++ L) (by rw [e1]; exact hb)
    ⟨Nat.le_trans hS.1 (by rw [e1]; exact hz), fun q h1 h2 => by rw [e1, hk q (Nat.lt_of_lt_of_le h1 hS.1) (fun z => h2 (hA q z))]; exact hS.2.1 q h1 h2, fun q hq => by
      rcases List.mem_append.mp hq with h | h
      · exact hS.2.2 q h
      · exact hA _ (hL q h)⟩ T' rfl X'
  exact ⟨t2, st t2 a1, b1⟩
theorem mm_blind {av : List Value} {B : State → Prop} (hB : ∀ (U : State) (g : JFrame) (mk : MethodId) (a : Array Value), B U → B (U.calling g mk a)) : FrameBlind (va_Pc av B) := fun a U g mk q => ⟨q.1, hB U g mk a q.2⟩
theorem mm_blindM {D : va_G} {tC : Nat → ClassId} {ad : Nat → Nat} {h : mm_H} {sz : Nat} {av : List Value} {A : Nat → Prop} : FrameBlind (va_Pc av (fun U => U.heap.size = sz ∧ va_P D vwCl (mm_w tC ad h) U.heap ∧ va_K D vwCl (mm_tys tC) U ∧ va_D (fun _ => True) (mm_w tC ad h) ∧ mm_Z ad A U)) :=
  mm_blind (fun U g mk a q => ⟨q.1, q.2.1, va_K.moved (u := U) (U := U.calling g mk a) (Vm.Alike.refl U.vm) q.2.2.1, q.2.2.2.1, mm_Z.same (u := U) (U := U.calling g mk a) rfl rfl q.2.2.2.2⟩)
theorem mm_sumcat (ad : Nat → Nat) (st : List Value) : ((st.map (mm_cv ad)).map fun v => v.category).sum = (st.map fun v => v.category).sum := by
  rw [List.map_map]
  congr 1
  exact List.map_congr_left (fun v _ => mm_cv_cat ad v)
section MMC
variable {d : Nat} {Y Y1 : mm_Y} {pc : Nat} {ls : List (Option Value)} {st stk : List Value} {h h1 : mm_H} {v v1 : Option Value} {h' : mm_H} {idx n b ci : Nat} {as : List Value}
theorem mm_callV (hd : decode Y.2.1 pc = .ok (.invokevirtual idx, 3)) (hl : Cond.methodLink Y.1.cls idx Y1.1 ∈ mm_T0) (hy : mm_MV Y1 ci n) (hb : mm_sh b = (0, ci)) (hst : stk = as.reverse ++ .ref b :: st) (hn : as.length = n) (hc : (st.map fun v => v.category).sum ≤ 8) (hM : mm_M d Y1 (.ref b :: as) h v1 h1) (k : mm_R (d + 1) Y (pc + 3) ls (v1.toList ++ st) h1 v h') : mm_R (d + 1) Y pc ls stk h v h' := by
  subst hst
  intro p l e s m args below meth c D tC ad A C H locs la hP hS hL
  obtain ⟨y1, y2, y3, y4, ⟨q, y5, y6⟩, y7, y8⟩ := hy
  have hA := mm_A_in (h := h) C.2.2.2.2.2.2.2.2.2.1 hS C.2.2.2.2.2.2.2.2.1
  have hG : GoodIn mm_T0 (wsV Y.1.cls idx Y1.1.cls Y1.1 (mm_ws Y1)) := mm_T0_good (by
    intro w hw
    rcases List.mem_append.mp hw with z | z
    · simp only [List.mem_cons, List.not_mem_nil, or_false] at z
      rcases z with rfl | rfl | rfl | rfl
      · exact hl
      · exact y2
      · exact y3
      · exact y4
    · rcases List.mem_cons.mp z with rfl | z
      · exact y1
      · exact z)
  have cw := cwV (R := mm_rm (d + 1)) (s := s) (args := args) (rm := mm_rm d) (mc := 0) (ms := 0) (ws' := mm_T0) n C.2.2.2.2.2.1 hG rfl rfl rfl ⟨rfl, y7⟩ ⟨Nat.le_refl _, by show 8 + (Y1.2.2.1 + 11) + 60 * d ≤ 60 * (d + 1); omega⟩
  refine mm_after (h := h) (h1 := h1) (v1 := v1) (rest := st.map (mm_cv ad)) (va_runV (b := ad b) (As := as.map (mm_cv ad)) ⟨C.1, C.2.1, C.2.2.1, C.2.2.2.2.1, C.2.2.2.2.2.1⟩ (hM l D tC ad H.size) cw ⟨mm_blindM, ?_, fun U hU hW => ⟨rfl, by rw [hU], by rw [hU]; exact hP, va_K.moved hW.alike C.2.2.2.2.2.2.2.1, (mm_D h C.2.2.2.2.2.2.2.2.2.1).weaken (fun _ _ _ _ => trivial), mm_Z.go C.2.2.2.2.2.2.2.2.2.2 hS hA hU hW⟩⟩ rfl (by rw [List.length_map]; exact hn) hL.1 (by simp [mm_cv]) (lv_room (by rw [mm_sumcat]; exact hc)) hd ⟨Nat.le_refl _, Nat.le_refl _⟩) hS hA (fun H1 locs1 hP1 hS1 => ?_)
  · have := va_recv C.2.2.2.2.2.2.2.1 hP y5 (mm_obj tC ad h hb)
    rw [y6] at this
    exact this
  · have K := k p l e s m args below meth c D tC ad A C H1 locs1 la hP1 hS1 hL
    rw [List.map_append] at K
    have ev : (v1.map (mm_cv ad)).toList = v1.toList.map (mm_cv ad) := by cases v1 <;> rfl
    rw [ev]
    exact K
theorem mm_callS (hd : decode Y.2.1 pc = .ok (.invokestatic idx, 3)) (hl : Cond.methodLink Y.1.cls idx Y1.1 ∈ mm_T0) (hy : mm_MS Y1 n) (hst : stk = as.reverse ++ st) (hn : as.length = n) (hc : (st.map fun v => v.category).sum ≤ 8) (hM : mm_M d Y1 as h v1 h1) (k : mm_R (d + 1) Y (pc + 3) ls (v1.toList ++ st) h1 v h') : mm_R (d + 1) Y pc ls stk h v h' := by
  subst hst
  intro p l e s m args below meth c D tC ad A C H locs la hP hS hL
  obtain ⟨y1, y2, y4, y7, y8⟩ := hy
  have hA := mm_A_in (h := h) C.2.2.2.2.2.2.2.2.2.1 hS C.2.2.2.2.2.2.2.2.1
  have hG : GoodIn mm_T0 (va_wsS Y.1.cls idx Y1.1 (mm_ws Y1)) := mm_T0_good (by
    intro w hw
    rcases List.mem_append.mp hw with z | z
    · simp only [List.mem_cons, List.not_mem_nil, or_false] at z
      rcases z with rfl | rfl | rfl
      · exact hl
      · exact y2
      · exact y4
    · rcases List.mem_cons.mp z with rfl | z
      · exact y1
      · exact z)
  have cw := va_cwS (R := mm_rm (d + 1)) (s := s) (args := args) (rm := mm_rm d) (mc := 0) (ms := 0) (ws' := mm_T0) n C.2.2.2.2.2.1 hG rfl rfl rfl y7 ⟨Nat.le_refl _, by show 8 + (Y1.2.2.1 + 11) + 60 * d ≤ 60 * (d + 1); omega⟩
  refine mm_after (h := h) (h1 := h1) (v1 := v1) (rest := st.map (mm_cv ad)) (va_runS (As := as.map (mm_cv ad)) ⟨C.1, C.2.1, C.2.2.1, C.2.2.2.2.1, C.2.2.2.2.2.1⟩ (hM l D tC ad H.size) cw ⟨mm_blindM, fun U hU hW => ⟨rfl, by rw [hU], by rw [hU]; exact hP, va_K.moved hW.alike C.2.2.2.2.2.2.2.1, (mm_D h C.2.2.2.2.2.2.2.2.2.1).weaken (fun _ _ _ _ => trivial), mm_Z.go C.2.2.2.2.2.2.2.2.2.2 hS hA hU hW⟩⟩ rfl (by rw [List.length_map]; exact hn) hL.1 (by simp) (lv_room (by rw [mm_sumcat]; exact hc)) hd ⟨Nat.le_refl _, Nat.le_refl _⟩) hS hA (fun H1 locs1 hP1 hS1 => ?_)
  have K := k p l e s m args below meth c D tC ad A C H1 locs1 la hP1 hS1 hL
  rw [List.map_append] at K
  have ev : (v1.map (mm_cv ad)).toList = v1.toList.map (mm_cv ad) := by cases v1 <;> rfl
  rw [ev]
  exact K
theorem mm_callSN (hd : decode Y.2.1 pc = .ok (.invokestatic idx, 3)) (hl : (Y.1.cls, idx, Y1.1) ∈ mm_nest) (hy : mm_MS Y1 n) (hst : stk = as.reverse ++ st) (hn : as.length = n) (hc : (st.map fun v => v.category).sum ≤ 8) (hM : mm_M d Y1 as h v1 h1) (k : mm_R (d + 1) Y (pc + 3) ls (v1.toList ++ st) h1 v h') : mm_R (d + 1) Y pc ls stk h v h' := by
  subst hst
  intro p l e s m args below meth c D tC ad A C H locs la hP hS hL
  obtain ⟨y1, y2, y4, y7, y8⟩ := hy
  have hA := mm_A_in (h := h) C.2.2.2.2.2.2.2.2.2.1 hS C.2.2.2.2.2.2.2.2.1
  have hG : GoodIn mm_T0 (mm_ws Y1) := mm_T0_good (by
    intro w z
    rcases List.mem_cons.mp z with rfl | z
    · exact y1
    · exact z)
  have cw := va_cnB (R := mm_rm (d + 1)) (s := s) (args := args) (rm := mm_rm d) (mc := 0) (ms := 0) (ws' := mm_T0) (host := "RingingCoins") (own := Y.1.cls) (index := idx) n C.2.2.2.2.2.1 hG rfl rfl rfl (C.2.2.2.2.2.2.2.2.2.2.2 _ hl) (C.2.2.2.2.2.1 _ y4) y7 ⟨Nat.le_refl _, by show 8 + (Y1.2.2.1 + 11) + 60 * d ≤ 60 * (d + 1); omega⟩
  refine mm_after (h := h) (h1 := h1) (v1 := v1) (rest := st.map (mm_cv ad)) (va_runSN (As := as.map (mm_cv ad)) ⟨C.1, C.2.1, C.2.2.1, C.2.2.2.2.1, C.2.2.2.2.2.1⟩ (hM l D tC ad H.size) ⟨cw, C.2.2.2.2.2.1 _ y2, trivial⟩ ⟨mm_blindM, fun U hU hW => ⟨rfl, by rw [hU], by rw [hU]; exact hP, va_K.moved hW.alike C.2.2.2.2.2.2.2.1, (mm_D h C.2.2.2.2.2.2.2.2.2.1).weaken (fun _ _ _ _ => trivial), mm_Z.go C.2.2.2.2.2.2.2.2.2.2 hS hA hU hW⟩⟩ rfl (by rw [List.length_map]; exact hn) hL.1 (by simp) (lv_room (by rw [mm_sumcat]; exact hc)) hd ⟨Nat.le_refl _, Nat.le_refl _⟩) hS hA (fun H1 locs1 hP1 hS1 => ?_)
  have K := k p l e s m args below meth c D tC ad A C H1 locs1 la hP1 hS1 hL
  rw [List.map_append] at K
  have ev : (v1.map (mm_cv ad)).toList = v1.toList.map (mm_cv ad) := by cases v1 <;> rfl
  rw [ev]
  exact K
end MMC
