theorem w_native : Cond.native arraycopyName ∈ mm_T0 := mm_in 701 (by decide +kernel) rfl
theorem w_static : Cond.static arraycopyName ∈ mm_T0 := mm_in 700 (by decide +kernel) rfl
theorem lX5_49 : Cond.methodLink RX5 49 arraycopyName ∈ mm_T0 := mm_in 699 (by decide +kernel) rfl
theorem lX7_39 : Cond.methodLink RX7 39 arraycopyName ∈ mm_T0 := mm_in 1151 (by decide +kernel) rfl
/-! Copies of rows; rows laid anew. -/
theorem mm_up_row {I : Nat → Nat → Int32} {a k : Nat} {f : Nat → Int32} {x : Int32} : mm_up (mm_row I a f) a k x = mm_row I a (upd f k x) := by
  funext b
  by_cases h : b = a
  · subst h; simp [mm_up, mm_row]
  · simp [mm_up, mm_row, h]
theorem mm_row_self {I : Nat → Nat → Int32} {a : Nat} : mm_row I a (I a) = I := by
  funext b
  by_cases h : b = a
  · subst h; simp [mm_row]
  · simp [mm_row, h]
theorem mm_row_s {I : Nat → Nat → Int32} {a : Nat} {f : Nat → Int32} : mm_row I a f a = f := by simp [mm_row]
theorem mm_row_n {I : Nat → Nat → Int32} {a b : Nat} {f : Nat → Int32} (h : b ≠ a) : mm_row I a f b = I b := by simp [mm_row, h]
theorem mm_row_row {I : Nat → Nat → Int32} {a : Nat} {f g : Nat → Int32} : mm_row (mm_row I a f) a g = mm_row I a g := by
  funext b
  by_cases h : b = a
  · subst h; simp [mm_row]
  · simp [mm_row, h]
theorem mm_copyi {d : Nat} {Y : mm_Y} {pc : Nat} {ls : List (Option Value)} {st : List Value} {h : mm_H} {v : Option Value} {h' : mm_H} {idx a b na nb : Nat} {sp dp n : Int32} (hd : decode Y.2.1 pc = .ok (.invokestatic idx, 3)) (hl : Cond.methodLink Y.1.cls idx arraycopyName ∈ mm_T0) (ha : mm_sh a = (1, na)) (hb : mm_sh b = (1, nb)) (h1 : ¬ sp < 0) (h2 : ¬ dp < 0) (h3 : ¬ n < 0) (h4 : sp.toNatClampNeg + n.toNatClampNeg ≤ na) (h5 : dp.toNatClampNeg + n.toNatClampNeg ≤ nb) (hc : (st.map fun v => v.category).sum ≤ 8)
    (kk : mm_R (d + 1) Y (pc + 3) ls st (mm_row h.1 b (va_cpy (h.1 a) (h.1 b) sp.toNatClampNeg dp.toNatClampNeg n.toNatClampNeg), h.2.1, h.2.2) v h') : mm_R (d + 1) Y pc ls (.int n :: .int dp :: .ref b :: .int sp :: .ref a :: st) h v h' := by
  intro p l e s m args below meth c D tC ad A C H locs la hP hS hL
  refine va_copyi (ty := .int) C.1 C.2.1 (C.2.2.1.trans hL.1.symm) C.2.2.2.2.1 (C.2.2.2.2.2.1 _ hl) (C.2.2.2.2.2.1 _ w_native) (C.2.2.2.2.2.1 _ w_static) (C.2.2.2.2.2.1 _ ini_J10) C.2.2.2.2.2.2.2.1 hP (mm_D h C.2.2.2.2.2.2.2.2.2.1) hS a b 0 0 (mm_ints tC ad h (Or.inl rfl) ha) (mm_ints tC ad h (Or.inl rfl) hb) rfl rfl rfl h1 h2 h3 h4 h5 (fun _ _ => rfl) (by show 1 ≤ d + 1; omega) ?_ hd (fun H1 locs1 hP1 _ hS1 => ?_)
  · rw [mm_sumcat]
    have : nativeFrameWords "java/lang/System" "arraycopy" 5 + 11 ≤ 52 := by decide +kernel
    show _ ≤ 60 * (d + 1)
    omega
  · refine kk p l e s m args below meth c D tC ad A C H1 locs1 la ?_ hS1 hL
    rw [mm_w_set tC ad (h := h) (g := (mm_row h.1 b (va_cpy (h.1 a) (h.1 b) sp.toNatClampNeg dp.toNatClampNeg n.toNatClampNeg), h.2.1, h.2.2)) (mm_lt hb (by simp)) (fun b' hb' => ⟨by simp [mm_row, hb'], rfl, rfl⟩) (by rw [hb]; simp [mm_ent, mm_row])] at hP1
    exact hP1
