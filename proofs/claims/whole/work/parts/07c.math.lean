set_option maxRecDepth 100000 in
theorem wc_max : Cond.code Lib.Math.max.name Lib.Math.max.code 2 (some .int) ∈ mm_T0 := mm_in 573 rfl rfl
theorem ws_max : Cond.static Lib.Math.max.name ∈ mm_T0 := mm_in 572 (by decide +kernel) rfl
set_option maxRecDepth 100000 in
theorem wc_min : Cond.code Lib.Math.min.name Lib.Math.min.code 2 (some .int) ∈ mm_T0 := mm_in 906 rfl rfl
theorem ws_min : Cond.static Lib.Math.min.name ∈ mm_T0 := mm_in 905 (by decide +kernel) rfl
set_option maxRecDepth 100000 in
theorem wc_maxL : Cond.code Lib.MathLoose.max_long.x Lib.MathLoose.max_long.code 4 (some .long) ∈ mm_T0 := mm_in 874 rfl rfl
theorem ws_maxL : Cond.static Lib.MathLoose.max_long.x ∈ mm_T0 := mm_in 873 (by decide +kernel) rfl
set_option maxRecDepth 100000 in
theorem wc_minL : Cond.code Lib.MathLoose.min_long.x Lib.MathLoose.min_long.code 4 (some .long) ∈ mm_T0 := mm_in 871 rfl rfl
theorem ws_minL : Cond.static Lib.MathLoose.min_long.x ∈ mm_T0 := mm_in 870 (by decide +kernel) rfl
theorem mm_maxI {d : Nat} {Y : mm_Y} {pc : Nat} {ls : List (Option Value)} {st : List Value} {h : mm_H} {v : Option Value} {h' : mm_H} {idx : Nat} {x y : Int32} (hd : decode Y.2.1 pc = .ok (.invokestatic idx, 3)) (hl : Cond.methodLink Y.1.cls idx Lib.Math.max.name ∈ mm_T0) (hc : (st.map fun v => v.category).sum ≤ 8) (k : mm_R (d + 1) Y (pc + 3) ls (.int (if x < y then y else x) :: st) h v h') : mm_R (d + 1) Y pc ls (.int y :: .int x :: st) h v h' := by
  intro p l e s m args below meth c D tC ad A C H locs la hP hS hL
  refine va_mmax C.1 C.2.1 (C.2.2.1.trans hL.1.symm) C.2.2.2.2.1 (C.2.2.2.2.2.1 _ hl) (C.2.2.2.2.2.1 _ ws_max) (C.2.2.2.2.2.1 _ ini_J9) (C.2.2.2.2.2.1 _ wc_max) (by show 1 ≤ d + 1; omega) ?_ (Nat.le_refl _) (Nat.le_refl _) hd (k p l e s m args below meth c D tC ad A C H locs la hP hS hL)
  rw [mm_sumcat]
  show _ ≤ 60 * (d + 1)
  omega
theorem mm_minI {d : Nat} {Y : mm_Y} {pc : Nat} {ls : List (Option Value)} {st : List Value} {h : mm_H} {v : Option Value} {h' : mm_H} {idx : Nat} {x y : Int32} (hd : decode Y.2.1 pc = .ok (.invokestatic idx, 3)) (hl : Cond.methodLink Y.1.cls idx Lib.Math.min.name ∈ mm_T0) (hc : (st.map fun v => v.category).sum ≤ 8) (k : mm_R (d + 1) Y (pc + 3) ls (.int (if y < x then y else x) :: st) h v h') : mm_R (d + 1) Y pc ls (.int y :: .int x :: st) h v h' := by
  intro p l e s m args below meth c D tC ad A C H locs la hP hS hL
  refine va_mmin C.1 C.2.1 (C.2.2.1.trans hL.1.symm) C.2.2.2.2.1 (C.2.2.2.2.2.1 _ hl) (C.2.2.2.2.2.1 _ ws_min) (C.2.2.2.2.2.1 _ ini_J9) (C.2.2.2.2.2.1 _ wc_min) (by show 1 ≤ d + 1; omega) ?_ (Nat.le_refl _) (Nat.le_refl _) hd (k p l e s m args below meth c D tC ad A C H locs la hP hS hL)
  rw [mm_sumcat]
  show _ ≤ 60 * (d + 1)
  omega
theorem mm_maxL {d : Nat} {Y : mm_Y} {pc : Nat} {ls : List (Option Value)} {st : List Value} {h : mm_H} {v : Option Value} {h' : mm_H} {idx : Nat} {x y : Int64} (hd : decode Y.2.1 pc = .ok (.invokestatic idx, 3)) (hl : Cond.methodLink Y.1.cls idx Lib.MathLoose.max_long.x ∈ mm_T0) (hc : (st.map fun v => v.category).sum ≤ 8) (k : mm_R (d + 1) Y (pc + 3) ls (.long (if y < x then x else y) :: st) h v h') : mm_R (d + 1) Y pc ls (.long y :: .long x :: st) h v h' := by
  intro p l e s m args below meth c D tC ad A C H locs la hP hS hL
  refine va_mmax_long C.1 C.2.1 (C.2.2.1.trans hL.1.symm) C.2.2.2.2.1 (C.2.2.2.2.2.1 _ hl) (C.2.2.2.2.2.1 _ ws_maxL) (C.2.2.2.2.2.1 _ ini_J9) (C.2.2.2.2.2.1 _ wc_maxL) (by show 1 ≤ d + 1; omega) ?_ (Nat.le_refl _) (Nat.le_refl _) hd (k p l e s m args below meth c D tC ad A C H locs la hP hS hL)
  rw [mm_sumcat]
  show _ ≤ 60 * (d + 1)
  omega
theorem mm_minL {d : Nat} {Y : mm_Y} {pc : Nat} {ls : List (Option Value)} {st : List Value} {h : mm_H} {v : Option Value} {h' : mm_H} {idx : Nat} {x y : Int64} (hd : decode Y.2.1 pc = .ok (.invokestatic idx, 3)) (hl : Cond.methodLink Y.1.cls idx Lib.MathLoose.min_long.x ∈ mm_T0) (hc : (st.map fun v => v.category).sum ≤ 8) (k : mm_R (d + 1) Y (pc + 3) ls (.long (if y < x then y else x) :: st) h v h') : mm_R (d + 1) Y pc ls (.long y :: .long x :: st) h v h' := by
  intro p l e s m args below meth c D tC ad A C H locs la hP hS hL
  refine va_mmin_long C.1 C.2.1 (C.2.2.1.trans hL.1.symm) C.2.2.2.2.1 (C.2.2.2.2.2.1 _ hl) (C.2.2.2.2.2.1 _ ws_minL) (C.2.2.2.2.2.1 _ ini_J9) (C.2.2.2.2.2.1 _ wc_minL) (by show 1 ≤ d + 1; omega) ?_ (Nat.le_refl _) (Nat.le_refl _) hd (k p l e s m args below meth c D tC ad A C H locs la hP hS hL)
  rw [mm_sumcat]
  show _ ≤ 60 * (d + 1)
  omega
