/-! String constants, by number: 0 the words of the class, 1 .. 10 the words of a VALUE, 11 counter, 12 blur, 13 deaf, 14 not, 15 and, 16 or, 17 if -/
def mm_so : List (String × Nat × String) := [("RingingCoins$Text", 66, "note strength worth falls cracks coin down damp many loudest counter blur deaf if not and or "), ("RingingCoinsModel", 188, "note"), ("RingingCoinsModel", 189, "strength"), ("RingingCoinsModel", 190, "worth"), ("RingingCoinsModel", 191, "falls"), ("RingingCoinsModel", 192, "cracks"), ("RingingCoinsModel", 194, "coin"), ("RingingCoinsModel", 196, "down"), ("RingingCoinsModel", 197, "damp"), ("RingingCoinsModel", 198, "many"), ("RingingCoinsModel", 200, "loudest"), ("RingingCoinsModel", 202, "counter"), ("RingingCoinsModel", 204, "blur"), ("RingingCoinsModel", 206, "deaf"), ("RingingCoinsModel", 288, "not"), ("RingingCoinsModel", 302, "and"), ("RingingCoinsModel", 304, "or"), ("RingingCoinsModel", 339, "if")]
def mm_sb : List (List Int32) := [[110, 111, 116, 101, 32, 115, 116, 114, 101, 110, 103, 116, 104, 32, 119, 111, 114, 116, 104, 32, 102, 97, 108, 108, 115, 32, 99, 114, 97, 99, 107, 115, 32, 99, 111, 105, 110, 32, 100, 111, 119, 110, 32, 100, 97, 109, 112, 32, 109, 97, 110, 121, 32, 108, 111, 117, 100, 101, 115, 116, 32, 99, 111, 117, 110, 116, 101, 114, 32, 98, 108, 117, 114, 32, 100, 101, 97, 102, 32, 105, 102, 32, 110, 111, 116, 32, 97, 110, 100, 32, 111, 114, 32], [110, 111, 116, 101], [115, 116, 114, 101, 110, 103, 116, 104], [119, 111, 114, 116, 104], [102, 97, 108, 108, 115], [99, 114, 97, 99, 107, 115], [99, 111, 105, 110], [100, 111, 119, 110], [100, 97, 109, 112], [109, 97, 110, 121], [108, 111, 117, 100, 101, 115, 116], [99, 111, 117, 110, 116, 101, 114], [98, 108, 117, 114], [100, 101, 97, 102], [110, 111, 116], [97, 110, 100], [111, 114], [105, 102]]
def mm_sl : List Nat := [93, 4, 8, 5, 5, 6, 4, 4, 4, 4, 7, 7, 4, 4, 3, 3, 2, 2]
def mm_Z (ad : Nat → Nat) (A : Nat → Prop) (s : State) : Prop := mm_X mm_sl mm_sb mm_so ad A s ∧ mm_Nn s
/-- from this place the method comes to its end, with this answer and this memory -/
def mm_R (d : Nat) (Y : mm_Y) (pc : Nat) (ls : List (Option Value)) (st : List Value) (h : mm_H) (v : Option Value) (h' : mm_H) : Prop :=
  ∀ (p : Program) (l : Launch) (e : Env) (s : State) (m : MethodId) (args : Array Value) (below : List Frame) (meth : Method) (c : Code) (D : va_G) (tC : Nat → ClassId) (ad : Nat → Nat) (A : Nat → Prop),
    mm_C mm_Z Y p s m args meth c D tC ad A → ∀ (H : Heap) (locs : List Loc) (la : Array Slot), va_P D vwCl (mm_w tC ad h) H → va_S A s.heap H locs → mm_has ad la Y.2.2.1 ls →
      W p l e (mm_rm d) s m args below meth c H locs 0 0 (MQ below (mm_Qc D tC ad A v h') args s 0 0 A) (F0 m pc la (st.map (mm_cv ad)))
/-- a method's contract: with these arguments and this memory it comes to its end, with this answer and that memory -/
def mm_M (d : Nat) (Y : mm_Y) (av : List Value) (h : mm_H) (v : Option Value) (h' : mm_H) : Prop :=
  ∀ (l : Launch) (D : va_G) (tC : Nat → ClassId) (ad : Nat → Nat) (sz : Nat), Met l Y.1 (mm_ws Y) (mm_rm d)
    (va_Pc (av.map (mm_cv ad)) (fun U => U.heap.size = sz ∧ va_P D vwCl (mm_w tC ad h) U.heap ∧ va_K D vwCl (mm_tys tC) U ∧ va_D (fun _ => True) (mm_w tC ad h) ∧ mm_Z ad (va_A (mm_w tC ad h) sz) U))
    (mm_Qc D tC ad (va_A (mm_w tC ad h) sz) v h') 0 0 (va_A (mm_w tC ad h) sz)
section MMR
variable {d : Nat} {Y : mm_Y} {pc : Nat} {ls : List (Option Value)} {st : List Value} {h : mm_H} {v : Option Value} {h' : mm_H}
theorem mm_iconst {n : Int} {x : Int32} (hd : decode Y.2.1 pc = .ok (.iconst n, 1)) (hv : Int32.ofInt n = x) (k : mm_R d Y (pc + 1) ls (.int x :: st) h v h') : mm_R d Y pc ls (st) h v h' :=
  fun p l e s m args below meth c D tC ad A C H locs la hP hS hL => lv_iconst C.1 C.2.1 hd hv (k p l e s m args below meth c D tC ad A C H locs la hP hS hL)
theorem mm_bipush {n : Int} {x : Int32} (hd : decode Y.2.1 pc = .ok (.bipush n, 2)) (hv : (Int8.ofInt n).toInt32 = x) (k : mm_R d Y (pc + 2) ls (.int x :: st) h v h') : mm_R d Y pc ls (st) h v h' :=
  fun p l e s m args below meth c D tC ad A C H locs la hP hS hL => lv_bipush C.1 C.2.1 hd hv (k p l e s m args below meth c D tC ad A C H locs la hP hS hL)
theorem mm_sipush {n : Int} {x : Int32} (hd : decode Y.2.1 pc = .ok (.sipush n, 3)) (hv : (Int16.ofInt n).toInt32 = x) (k : mm_R d Y (pc + 3) ls (.int x :: st) h v h') : mm_R d Y pc ls (st) h v h' :=
  fun p l e s m args below meth c D tC ad A C H locs la hP hS hL => lv_sipush C.1 C.2.1 hd hv (k p l e s m args below meth c D tC ad A C H locs la hP hS hL)
theorem mm_lconst {n : Fin 2} {x : Int64} (hd : decode Y.2.1 pc = .ok (.lconst n, 1)) (hv : Int64.ofNat (n : Nat) = x) (k : mm_R d Y (pc + 1) ls (.long x :: st) h v h') : mm_R d Y pc ls (st) h v h' :=
  fun p l e s m args below meth c D tC ad A C H locs la hP hS hL => lv_lconst C.1 C.2.1 hd hv (k p l e s m args below meth c D tC ad A C H locs la hP hS hL)
theorem mm_ldc {i : Nat} {x : Int32} (hd : decode Y.2.1 pc = .ok (.ldc i, 2)) (hw : Cond.constant Y.1.cls i x ∈ mm_T0) (k : mm_R d Y (pc + 2) ls (.int x :: st) h v h') : mm_R d Y pc ls (st) h v h' :=
  fun p l e s m args below meth c D tC ad A C H locs la hP hS hL => lv_ldc C.1 C.2.1 C.2.2.2.2.1 (C.2.2.2.2.2.1 _ hw) hd (k p l e s m args below meth c D tC ad A C H locs la hP hS hL)
theorem mm_ldcw {i : Nat} {x : Int32} (hd : decode Y.2.1 pc = .ok (.ldc_w i, 3)) (hw : Cond.constant Y.1.cls i x ∈ mm_T0) (k : mm_R d Y (pc + 3) ls (.int x :: st) h v h') : mm_R d Y pc ls (st) h v h' :=
  fun p l e s m args below meth c D tC ad A C H locs la hP hS hL => lv_ldcw C.1 C.2.1 C.2.2.2.2.1 (C.2.2.2.2.2.1 _ hw) hd (k p l e s m args below meth c D tC ad A C H locs la hP hS hL)
theorem mm_ldc2 {i : Nat} {x : Int64} (hd : decode Y.2.1 pc = .ok (.ldc2_w i, 3)) (hw : Cond.constantLong Y.1.cls i x ∈ mm_T0) (k : mm_R d Y (pc + 3) ls (.long x :: st) h v h') : mm_R d Y pc ls (st) h v h' :=
  fun p l e s m args below meth c D tC ad A C H locs la hP hS hL => lv_ldc2 C.1 C.2.1 C.2.2.2.2.1 (C.2.2.2.2.2.1 _ hw) hd (k p l e s m args below meth c D tC ad A C H locs la hP hS hL)
theorem mm_iload_n {k : Fin 4} {i : Nat} {x : Int32} (hd : decode Y.2.1 pc = .ok (.iload_n k, 1)) (hi : (k : Nat) = i) (hl : ls[i]? = some (some (.int x))) (k : mm_R d Y (pc + 1) ls (.int x :: st) h v h') : mm_R d Y pc ls (st) h v h' :=
  fun p l e s m args below meth c D tC ad A C H locs la hP hS hL => lv_iload_n C.1 C.2.1 hd hi (hL.2.2 i _ hl) (k p l e s m args below meth c D tC ad A C H locs la hP hS hL)
theorem mm_iload {i : Nat} {x : Int32} (hd : decode Y.2.1 pc = .ok (.iload i, 2)) (hl : ls[i]? = some (some (.int x))) (k : mm_R d Y (pc + 2) ls (.int x :: st) h v h') : mm_R d Y pc ls (st) h v h' :=
  fun p l e s m args below meth c D tC ad A C H locs la hP hS hL => lv_iload C.1 C.2.1 hd (hL.2.2 i _ hl) (k p l e s m args below meth c D tC ad A C H locs la hP hS hL)
theorem mm_lload_n {k : Fin 4} {i : Nat} {x : Int64} (hd : decode Y.2.1 pc = .ok (.lload_n k, 1)) (hi : (k : Nat) = i) (hl : ls[i]? = some (some (.long x))) (k : mm_R d Y (pc + 1) ls (.long x :: st) h v h') : mm_R d Y pc ls (st) h v h' :=
  fun p l e s m args below meth c D tC ad A C H locs la hP hS hL => lv_lload_n C.1 C.2.1 hd hi (hL.2.2 i _ hl) (k p l e s m args below meth c D tC ad A C H locs la hP hS hL)
theorem mm_lload {i : Nat} {x : Int64} (hd : decode Y.2.1 pc = .ok (.lload i, 2)) (hl : ls[i]? = some (some (.long x))) (k : mm_R d Y (pc + 2) ls (.long x :: st) h v h') : mm_R d Y pc ls (st) h v h' :=
  fun p l e s m args below meth c D tC ad A C H locs la hP hS hL => lv_lload C.1 C.2.1 hd (hL.2.2 i _ hl) (k p l e s m args below meth c D tC ad A C H locs la hP hS hL)
theorem mm_aload_n {k : Fin 4} {i : Nat} {x : Nat} (hd : decode Y.2.1 pc = .ok (.aload_n k, 1)) (hi : (k : Nat) = i) (hl : ls[i]? = some (some (.ref x))) (k : mm_R d Y (pc + 1) ls (.ref x :: st) h v h') : mm_R d Y pc ls (st) h v h' :=
  fun p l e s m args below meth c D tC ad A C H locs la hP hS hL => lv_aload_n C.1 C.2.1 hd hi (hL.2.2 i _ hl) (k p l e s m args below meth c D tC ad A C H locs la hP hS hL)
theorem mm_aload {i : Nat} {x : Nat} (hd : decode Y.2.1 pc = .ok (.aload i, 2)) (hl : ls[i]? = some (some (.ref x))) (k : mm_R d Y (pc + 2) ls (.ref x :: st) h v h') : mm_R d Y pc ls (st) h v h' :=
  fun p l e s m args below meth c D tC ad A C H locs la hP hS hL => lv_aload C.1 C.2.1 hd (hL.2.2 i _ hl) (k p l e s m args below meth c D tC ad A C H locs la hP hS hL)
theorem mm_istore_n {k : Fin 4} {i : Nat} {x : Int32} (hd : decode Y.2.1 pc = .ok (.istore_n k, 1)) (hi : (k : Nat) = i) (hn : i < Y.2.2.1) (hq : mm_nl ls i = true) (k : mm_R d Y (pc + 1) (ls.set i (some (.int x))) st h v h') : mm_R d Y pc ls (.int x :: st) h v h' :=
  fun p l e s m args below meth c D tC ad A C H locs la hP hS hL => lv_istore_n C.1 C.2.1 hd hi hL.al hn rfl (fun la' hl' => k p l e s m args below meth c D tC ad A C H locs la' hP hS (mm_has_st1 (v := .int x) hL hq hl'))
theorem mm_istore {i : Nat} {x : Int32} (hd : decode Y.2.1 pc = .ok (.istore i, 2)) (hn : i < Y.2.2.1) (hq : mm_nl ls i = true) (k : mm_R d Y (pc + 2) (ls.set i (some (.int x))) st h v h') : mm_R d Y pc ls (.int x :: st) h v h' :=
  fun p l e s m args below meth c D tC ad A C H locs la hP hS hL => lv_istore C.1 C.2.1 hd hL.al hn rfl (fun la' hl' => k p l e s m args below meth c D tC ad A C H locs la' hP hS (mm_has_st1 (v := .int x) hL hq hl'))
theorem mm_astore_n {k : Fin 4} {i : Nat} {x : Nat} (hd : decode Y.2.1 pc = .ok (.astore_n k, 1)) (hi : (k : Nat) = i) (hn : i < Y.2.2.1) (hq : mm_nl ls i = true) (k : mm_R d Y (pc + 1) (ls.set i (some (.ref x))) st h v h') : mm_R d Y pc ls (.ref x :: st) h v h' :=
  fun p l e s m args below meth c D tC ad A C H locs la hP hS hL => lv_astore_n C.1 C.2.1 hd hi hL.al hn rfl (fun la' hl' => k p l e s m args below meth c D tC ad A C H locs la' hP hS (mm_has_st1 (v := .ref x) hL hq hl'))
theorem mm_astore {i : Nat} {x : Nat} (hd : decode Y.2.1 pc = .ok (.astore i, 2)) (hn : i < Y.2.2.1) (hq : mm_nl ls i = true) (k : mm_R d Y (pc + 2) (ls.set i (some (.ref x))) st h v h') : mm_R d Y pc ls (.ref x :: st) h v h' :=
  fun p l e s m args below meth c D tC ad A C H locs la hP hS hL => lv_astore C.1 C.2.1 hd hL.al hn rfl (fun la' hl' => k p l e s m args below meth c D tC ad A C H locs la' hP hS (mm_has_st1 (v := .ref x) hL hq hl'))
theorem mm_lstore_n {k : Fin 4} {i : Nat} {x : Int64} (hd : decode Y.2.1 pc = .ok (.lstore_n k, 1)) (hi : (k : Nat) = i) (hn : i + 1 < Y.2.2.1) (hq : mm_nl ls i = true) (k : mm_R d Y (pc + 1) ((ls.set i (some (.long x))).set (i + 1) none) st h v h') : mm_R d Y pc ls (.long x :: st) h v h' :=
  fun p l e s m args below meth c D tC ad A C H locs la hP hS hL => lv_lstore_n C.1 C.2.1 hd hi hL.al hn rfl (fun la' hl' => k p l e s m args below meth c D tC ad A C H locs la' hP hS (mm_has_st2 (v := .long x) hL hq hl'))
theorem mm_lstore {i : Nat} {x : Int64} (hd : decode Y.2.1 pc = .ok (.lstore i, 2)) (hn : i + 1 < Y.2.2.1) (hq : mm_nl ls i = true) (k : mm_R d Y (pc + 2) ((ls.set i (some (.long x))).set (i + 1) none) st h v h') : mm_R d Y pc ls (.long x :: st) h v h' :=
  fun p l e s m args below meth c D tC ad A C H locs la hP hS hL => lv_lstore C.1 C.2.1 hd hL.al hn rfl (fun la' hl' => k p l e s m args below meth c D tC ad A C H locs la' hP hS (mm_has_st2 (v := .long x) hL hq hl'))
theorem mm_iinc {i : Nat} {n : Int} {x y : Int32} (hd : decode Y.2.1 pc = .ok (.iinc i n, 3)) (hl : ls[i]? = some (some (.int x))) (hv : x + Int32.ofInt n = y) (hq : mm_nl ls i = true) (k : mm_R d Y (pc + 3) (ls.set i (some (.int y))) st h v h') : mm_R d Y pc ls st h v h' := by
  intro p l e s m args below meth c D tC ad A C H locs la hP hS hL
  have hn : i < Y.2.2.1 := by
    have := (Array.getElem?_eq_some_iff.mp (hL.2.2 i _ hl)).1
    rw [hL.1] at this
    exact this
  obtain ⟨k0, hk0⟩ := List.getElem?_of_mem (mm_al_in (ad := ad) hn hl)
  exact lv_iinc C.1 C.2.1 hd hL.al hk0 hv hn rfl (fun la' hl' => k p l e s m args below meth c D tC ad A C H locs la' hP hS (mm_has_st1 (v := .int y) hL hq hl'))
theorem mm_iadd {x y : Int32} (hd : decode Y.2.1 pc = .ok (.iadd, 1)) (k : mm_R d Y (pc + 1) ls (.int (x + y) :: st) h v h') : mm_R d Y pc ls (.int y :: .int x :: st) h v h' :=
  fun p l e s m args below meth c D tC ad A C H locs la hP hS hL => lv_iadd C.1 C.2.1 hd (k p l e s m args below meth c D tC ad A C H locs la hP hS hL)
theorem mm_isub {x y : Int32} (hd : decode Y.2.1 pc = .ok (.isub, 1)) (k : mm_R d Y (pc + 1) ls (.int (x - y) :: st) h v h') : mm_R d Y pc ls (.int y :: .int x :: st) h v h' :=
  fun p l e s m args below meth c D tC ad A C H locs la hP hS hL => lv_isub C.1 C.2.1 hd (k p l e s m args below meth c D tC ad A C H locs la hP hS hL)
theorem mm_imul {x y : Int32} (hd : decode Y.2.1 pc = .ok (.imul, 1)) (k : mm_R d Y (pc + 1) ls (.int (x * y) :: st) h v h') : mm_R d Y pc ls (.int y :: .int x :: st) h v h' :=
  fun p l e s m args below meth c D tC ad A C H locs la hP hS hL => lv_imul C.1 C.2.1 hd (k p l e s m args below meth c D tC ad A C H locs la hP hS hL)
theorem mm_iand {x y : Int32} (hd : decode Y.2.1 pc = .ok (.iand, 1)) (k : mm_R d Y (pc + 1) ls (.int (x &&& y) :: st) h v h') : mm_R d Y pc ls (.int y :: .int x :: st) h v h' :=
  fun p l e s m args below meth c D tC ad A C H locs la hP hS hL => lv_iand C.1 C.2.1 hd (k p l e s m args below meth c D tC ad A C H locs la hP hS hL)
theorem mm_ior {x y : Int32} (hd : decode Y.2.1 pc = .ok (.ior, 1)) (k : mm_R d Y (pc + 1) ls (.int (x ||| y) :: st) h v h') : mm_R d Y pc ls (.int y :: .int x :: st) h v h' :=
  fun p l e s m args below meth c D tC ad A C H locs la hP hS hL => lv_ior C.1 C.2.1 hd (k p l e s m args below meth c D tC ad A C H locs la hP hS hL)
theorem mm_ixor {x y : Int32} (hd : decode Y.2.1 pc = .ok (.ixor, 1)) (k : mm_R d Y (pc + 1) ls (.int (x ^^^ y) :: st) h v h') : mm_R d Y pc ls (.int y :: .int x :: st) h v h' :=
  fun p l e s m args below meth c D tC ad A C H locs la hP hS hL => lv_ixor C.1 C.2.1 hd (k p l e s m args below meth c D tC ad A C H locs la hP hS hL)
theorem mm_ishl {x y : Int32} (hd : decode Y.2.1 pc = .ok (.ishl, 1)) (k : mm_R d Y (pc + 1) ls (.int (x <<< (y &&& 31)) :: st) h v h') : mm_R d Y pc ls (.int y :: .int x :: st) h v h' :=
  fun p l e s m args below meth c D tC ad A C H locs la hP hS hL => lv_ishl C.1 C.2.1 hd (k p l e s m args below meth c D tC ad A C H locs la hP hS hL)
theorem mm_ishr {x y : Int32} (hd : decode Y.2.1 pc = .ok (.ishr, 1)) (k : mm_R d Y (pc + 1) ls (.int (x >>> (y &&& 31)) :: st) h v h') : mm_R d Y pc ls (.int y :: .int x :: st) h v h' :=
  fun p l e s m args below meth c D tC ad A C H locs la hP hS hL => lv_ishr C.1 C.2.1 hd (k p l e s m args below meth c D tC ad A C H locs la hP hS hL)
theorem mm_idiv {x y : Int32} (hd : decode Y.2.1 pc = .ok (.idiv, 1)) (hn : ¬ y = 0) (k : mm_R d Y (pc + 1) ls (.int (x / y) :: st) h v h') : mm_R d Y pc ls (.int y :: .int x :: st) h v h' :=
  fun p l e s m args below meth c D tC ad A C H locs la hP hS hL => lv_idiv C.1 C.2.1 hd hn (k p l e s m args below meth c D tC ad A C H locs la hP hS hL)
theorem mm_irem {x y : Int32} (hd : decode Y.2.1 pc = .ok (.irem, 1)) (hn : ¬ y = 0) (k : mm_R d Y (pc + 1) ls (.int (x - x / y * y) :: st) h v h') : mm_R d Y pc ls (.int y :: .int x :: st) h v h' :=
  fun p l e s m args below meth c D tC ad A C H locs la hP hS hL => lv_irem C.1 C.2.1 hd hn (k p l e s m args below meth c D tC ad A C H locs la hP hS hL)
theorem mm_ineg {x : Int32} (hd : decode Y.2.1 pc = .ok (.ineg, 1)) (k : mm_R d Y (pc + 1) ls (.int (-x) :: st) h v h') : mm_R d Y pc ls (.int x :: st) h v h' :=
  fun p l e s m args below meth c D tC ad A C H locs la hP hS hL => lv_ineg C.1 C.2.1 hd (k p l e s m args below meth c D tC ad A C H locs la hP hS hL)
theorem mm_iushr {x y z : Int32} (hd : decode Y.2.1 pc = .ok (.iushr, 1)) (hz : (x.toUInt32 >>> (y.toUInt32 &&& Int32.toUInt32 31)).toInt32 = z) (k : mm_R d Y (pc + 1) ls (.int z :: st) h v h') : mm_R d Y pc ls (.int y :: .int x :: st) h v h' :=
  fun p l e s m args below meth c D tC ad A C H locs la hP hS hL => lv_iushr C.1 C.2.1 hd hz (k p l e s m args below meth c D tC ad A C H locs la hP hS hL)
theorem mm_ladd {x y : Int64} (hd : decode Y.2.1 pc = .ok (.ladd, 1)) (k : mm_R d Y (pc + 1) ls (.long (x + y) :: st) h v h') : mm_R d Y pc ls (.long y :: .long x :: st) h v h' :=
  fun p l e s m args below meth c D tC ad A C H locs la hP hS hL => lv_ladd C.1 C.2.1 hd (k p l e s m args below meth c D tC ad A C H locs la hP hS hL)
theorem mm_lsub {x y : Int64} (hd : decode Y.2.1 pc = .ok (.lsub, 1)) (k : mm_R d Y (pc + 1) ls (.long (x - y) :: st) h v h') : mm_R d Y pc ls (.long y :: .long x :: st) h v h' :=
  fun p l e s m args below meth c D tC ad A C H locs la hP hS hL => lv_lsub C.1 C.2.1 hd (k p l e s m args below meth c D tC ad A C H locs la hP hS hL)
theorem mm_lmul {x y : Int64} (hd : decode Y.2.1 pc = .ok (.lmul, 1)) (k : mm_R d Y (pc + 1) ls (.long (x * y) :: st) h v h') : mm_R d Y pc ls (.long y :: .long x :: st) h v h' :=
  fun p l e s m args below meth c D tC ad A C H locs la hP hS hL => lv_lmul C.1 C.2.1 hd (k p l e s m args below meth c D tC ad A C H locs la hP hS hL)
theorem mm_land {x y : Int64} (hd : decode Y.2.1 pc = .ok (.land, 1)) (k : mm_R d Y (pc + 1) ls (.long (x &&& y) :: st) h v h') : mm_R d Y pc ls (.long y :: .long x :: st) h v h' :=
  fun p l e s m args below meth c D tC ad A C H locs la hP hS hL => lv_land C.1 C.2.1 hd (k p l e s m args below meth c D tC ad A C H locs la hP hS hL)
theorem mm_lor {x y : Int64} (hd : decode Y.2.1 pc = .ok (.lor, 1)) (k : mm_R d Y (pc + 1) ls (.long (x ||| y) :: st) h v h') : mm_R d Y pc ls (.long y :: .long x :: st) h v h' :=
  fun p l e s m args below meth c D tC ad A C H locs la hP hS hL => lv_lor C.1 C.2.1 hd (k p l e s m args below meth c D tC ad A C H locs la hP hS hL)
theorem mm_ldiv {x y : Int64} (hd : decode Y.2.1 pc = .ok (.ldiv, 1)) (hn : ¬ y = 0) (k : mm_R d Y (pc + 1) ls (.long (x / y) :: st) h v h') : mm_R d Y pc ls (.long y :: .long x :: st) h v h' :=
  fun p l e s m args below meth c D tC ad A C H locs la hP hS hL => lv_ldiv C.1 C.2.1 hd hn (k p l e s m args below meth c D tC ad A C H locs la hP hS hL)
theorem mm_lrem {x y : Int64} (hd : decode Y.2.1 pc = .ok (.lrem, 1)) (hn : ¬ y = 0) (k : mm_R d Y (pc + 1) ls (.long (x - x / y * y) :: st) h v h') : mm_R d Y pc ls (.long y :: .long x :: st) h v h' :=
  fun p l e s m args below meth c D tC ad A C H locs la hP hS hL => lv_lrem C.1 C.2.1 hd hn (k p l e s m args below meth c D tC ad A C H locs la hP hS hL)
theorem mm_lcmp {x y : Int64} (hd : decode Y.2.1 pc = .ok (.lcmp, 1)) (k : mm_R d Y (pc + 1) ls (.int (lg_cmp x y) :: st) h v h') : mm_R d Y pc ls (.long y :: .long x :: st) h v h' :=
  fun p l e s m args below meth c D tC ad A C H locs la hP hS hL => W.lcmp C.1 C.2.1 hd (k p l e s m args below meth c D tC ad A C H locs la hP hS hL)
theorem mm_i2l {x : Int32} {y : Int64} (hd : decode Y.2.1 pc = .ok (.i2l, 1)) (hy : x.toInt64 = y) (k : mm_R d Y (pc + 1) ls (.long y :: st) h v h') : mm_R d Y pc ls (.int x :: st) h v h' :=
  fun p l e s m args below meth c D tC ad A C H locs la hP hS hL => lv_i2l C.1 C.2.1 hd hy (k p l e s m args below meth c D tC ad A C H locs la hP hS hL)
theorem mm_l2i {x : Int64} {y : Int32} (hd : decode Y.2.1 pc = .ok (.l2i, 1)) (hy : x.toInt32 = y) (k : mm_R d Y (pc + 1) ls (.int y :: st) h v h') : mm_R d Y pc ls (.long x :: st) h v h' :=
  fun p l e s m args below meth c D tC ad A C H locs la hP hS hL => lv_l2i C.1 C.2.1 hd hy (k p l e s m args below meth c D tC ad A C H locs la hP hS hL)
theorem mm_i2b {x y : Int32} (hd : decode Y.2.1 pc = .ok (.i2b, 1)) (hy : x.toInt8.toInt32 = y) (k : mm_R d Y (pc + 1) ls (.int y :: st) h v h') : mm_R d Y pc ls (.int x :: st) h v h' :=
  fun p l e s m args below meth c D tC ad A C H locs la hP hS hL => lv_i2b C.1 C.2.1 hd hy (k p l e s m args below meth c D tC ad A C H locs la hP hS hL)
theorem mm_i2c {x y : Int32} (hd : decode Y.2.1 pc = .ok (.i2c, 1)) (hy : (x.toUInt32 % 65536).toInt32 = y) (k : mm_R d Y (pc + 1) ls (.int y :: st) h v h') : mm_R d Y pc ls (.int x :: st) h v h' :=
  fun p l e s m args below meth c D tC ad A C H locs la hP hS hL => lv_i2c C.1 C.2.1 hd hy (k p l e s m args below meth c D tC ad A C H locs la hP hS hL)
theorem mm_dup {a : Value} (hd : decode Y.2.1 pc = .ok (.dup, 1)) (ha : a.category = 1) (k : mm_R d Y (pc + 1) ls (a :: a :: st) h v h') : mm_R d Y pc ls (a :: st) h v h' :=
  fun p l e s m args below meth c D tC ad A C H locs la hP hS hL => lv_dup C.1 C.2.1 hd ((mm_cv_cat ad a).trans ha) (k p l e s m args below meth c D tC ad A C H locs la hP hS hL)
theorem mm_pop {a : Value} (hd : decode Y.2.1 pc = .ok (.pop, 1)) (ha : a.category = 1) (k : mm_R d Y (pc + 1) ls (st) h v h') : mm_R d Y pc ls (a :: st) h v h' :=
  fun p l e s m args below meth c D tC ad A C H locs la hP hS hL => lv_pop C.1 C.2.1 hd ((mm_cv_cat ad a).trans ha) (k p l e s m args below meth c D tC ad A C H locs la hP hS hL)
theorem mm_dup2 {a b : Value} (hd : decode Y.2.1 pc = .ok (.dup2, 1)) (ha : a.category = 1) (hb : b.category = 1) (k : mm_R d Y (pc + 1) ls (a :: b :: a :: b :: st) h v h') : mm_R d Y pc ls (a :: b :: st) h v h' :=
  fun p l e s m args below meth c D tC ad A C H locs la hP hS hL => lv_dup2_11 C.1 C.2.1 hd ((mm_cv_cat ad a).trans ha) ((mm_cv_cat ad b).trans hb) (k p l e s m args below meth c D tC ad A C H locs la hP hS hL)
theorem mm_if_eq {x : Int32} {off : Int} (tgt : Nat) (hd : decode Y.2.1 pc = .ok (.ifCond .eq off, 3)) (ht : (pc : Int) + off = (tgt : Int)) (kt : x = 0 → mm_R d Y tgt ls st h v h') (kf : ¬ x = 0 → mm_R d Y (pc + 3) ls st h v h') : mm_R d Y pc ls (.int x :: st) h v h' :=
  fun p l e s m args below meth c D tC ad A C H locs la hP hS hL => lv_if_eq C.1 C.2.1 hd ht (fun z => kt z p l e s m args below meth c D tC ad A C H locs la hP hS hL) (fun z => kf z p l e s m args below meth c D tC ad A C H locs la hP hS hL)
theorem mm_icmp_eq {x y : Int32} {off : Int} (tgt : Nat) (hd : decode Y.2.1 pc = .ok (.if_icmp .eq off, 3)) (ht : (pc : Int) + off = (tgt : Int)) (kt : x = y → mm_R d Y tgt ls st h v h') (kf : ¬ x = y → mm_R d Y (pc + 3) ls st h v h') : mm_R d Y pc ls (.int y :: .int x :: st) h v h' :=
  fun p l e s m args below meth c D tC ad A C H locs la hP hS hL => lv_icmp_eq C.1 C.2.1 hd ht (fun z => kt z p l e s m args below meth c D tC ad A C H locs la hP hS hL) (fun z => kf z p l e s m args below meth c D tC ad A C H locs la hP hS hL)
theorem mm_if_ne {x : Int32} {off : Int} (tgt : Nat) (hd : decode Y.2.1 pc = .ok (.ifCond .ne off, 3)) (ht : (pc : Int) + off = (tgt : Int)) (kt : ¬ x = 0 → mm_R d Y tgt ls st h v h') (kf : x = 0 → mm_R d Y (pc + 3) ls st h v h') : mm_R d Y pc ls (.int x :: st) h v h' :=
  fun p l e s m args below meth c D tC ad A C H locs la hP hS hL => lv_if_ne C.1 C.2.1 hd ht (fun z => kt z p l e s m args below meth c D tC ad A C H locs la hP hS hL) (fun z => kf z p l e s m args below meth c D tC ad A C H locs la hP hS hL)
theorem mm_icmp_ne {x y : Int32} {off : Int} (tgt : Nat) (hd : decode Y.2.1 pc = .ok (.if_icmp .ne off, 3)) (ht : (pc : Int) + off = (tgt : Int)) (kt : ¬ x = y → mm_R d Y tgt ls st h v h') (kf : x = y → mm_R d Y (pc + 3) ls st h v h') : mm_R d Y pc ls (.int y :: .int x :: st) h v h' :=
  fun p l e s m args below meth c D tC ad A C H locs la hP hS hL => lv_icmp_ne C.1 C.2.1 hd ht (fun z => kt z p l e s m args below meth c D tC ad A C H locs la hP hS hL) (fun z => kf z p l e s m args below meth c D tC ad A C H locs la hP hS hL)
theorem mm_if_lt {x : Int32} {off : Int} (tgt : Nat) (hd : decode Y.2.1 pc = .ok (.ifCond .lt off, 3)) (ht : (pc : Int) + off = (tgt : Int)) (kt : x < 0 → mm_R d Y tgt ls st h v h') (kf : ¬ x < 0 → mm_R d Y (pc + 3) ls st h v h') : mm_R d Y pc ls (.int x :: st) h v h' :=
  fun p l e s m args below meth c D tC ad A C H locs la hP hS hL => lv_if_lt C.1 C.2.1 hd ht (fun z => kt z p l e s m args below meth c D tC ad A C H locs la hP hS hL) (fun z => kf z p l e s m args below meth c D tC ad A C H locs la hP hS hL)
theorem mm_icmp_lt {x y : Int32} {off : Int} (tgt : Nat) (hd : decode Y.2.1 pc = .ok (.if_icmp .lt off, 3)) (ht : (pc : Int) + off = (tgt : Int)) (kt : x < y → mm_R d Y tgt ls st h v h') (kf : ¬ x < y → mm_R d Y (pc + 3) ls st h v h') : mm_R d Y pc ls (.int y :: .int x :: st) h v h' :=
  fun p l e s m args below meth c D tC ad A C H locs la hP hS hL => lv_icmp_lt C.1 C.2.1 hd ht (fun z => kt z p l e s m args below meth c D tC ad A C H locs la hP hS hL) (fun z => kf z p l e s m args below meth c D tC ad A C H locs la hP hS hL)
theorem mm_if_ge {x : Int32} {off : Int} (tgt : Nat) (hd : decode Y.2.1 pc = .ok (.ifCond .ge off, 3)) (ht : (pc : Int) + off = (tgt : Int)) (kt : 0 ≤ x → mm_R d Y tgt ls st h v h') (kf : ¬ 0 ≤ x → mm_R d Y (pc + 3) ls st h v h') : mm_R d Y pc ls (.int x :: st) h v h' :=
  fun p l e s m args below meth c D tC ad A C H locs la hP hS hL => lv_if_ge C.1 C.2.1 hd ht (fun z => kt z p l e s m args below meth c D tC ad A C H locs la hP hS hL) (fun z => kf z p l e s m args below meth c D tC ad A C H locs la hP hS hL)
theorem mm_icmp_ge {x y : Int32} {off : Int} (tgt : Nat) (hd : decode Y.2.1 pc = .ok (.if_icmp .ge off, 3)) (ht : (pc : Int) + off = (tgt : Int)) (kt : y ≤ x → mm_R d Y tgt ls st h v h') (kf : ¬ y ≤ x → mm_R d Y (pc + 3) ls st h v h') : mm_R d Y pc ls (.int y :: .int x :: st) h v h' :=
  fun p l e s m args below meth c D tC ad A C H locs la hP hS hL => lv_icmp_ge C.1 C.2.1 hd ht (fun z => kt z p l e s m args below meth c D tC ad A C H locs la hP hS hL) (fun z => kf z p l e s m args below meth c D tC ad A C H locs la hP hS hL)
theorem mm_if_gt {x : Int32} {off : Int} (tgt : Nat) (hd : decode Y.2.1 pc = .ok (.ifCond .gt off, 3)) (ht : (pc : Int) + off = (tgt : Int)) (kt : 0 < x → mm_R d Y tgt ls st h v h') (kf : ¬ 0 < x → mm_R d Y (pc + 3) ls st h v h') : mm_R d Y pc ls (.int x :: st) h v h' :=
  fun p l e s m args below meth c D tC ad A C H locs la hP hS hL => lv_if_gt C.1 C.2.1 hd ht (fun z => kt z p l e s m args below meth c D tC ad A C H locs la hP hS hL) (fun z => kf z p l e s m args below meth c D tC ad A C H locs la hP hS hL)
theorem mm_icmp_gt {x y : Int32} {off : Int} (tgt : Nat) (hd : decode Y.2.1 pc = .ok (.if_icmp .gt off, 3)) (ht : (pc : Int) + off = (tgt : Int)) (kt : y < x → mm_R d Y tgt ls st h v h') (kf : ¬ y < x → mm_R d Y (pc + 3) ls st h v h') : mm_R d Y pc ls (.int y :: .int x :: st) h v h' :=
  fun p l e s m args below meth c D tC ad A C H locs la hP hS hL => lv_icmp_gt C.1 C.2.1 hd ht (fun z => kt z p l e s m args below meth c D tC ad A C H locs la hP hS hL) (fun z => kf z p l e s m args below meth c D tC ad A C H locs la hP hS hL)
theorem mm_if_le {x : Int32} {off : Int} (tgt : Nat) (hd : decode Y.2.1 pc = .ok (.ifCond .le off, 3)) (ht : (pc : Int) + off = (tgt : Int)) (kt : x ≤ 0 → mm_R d Y tgt ls st h v h') (kf : ¬ x ≤ 0 → mm_R d Y (pc + 3) ls st h v h') : mm_R d Y pc ls (.int x :: st) h v h' :=
  fun p l e s m args below meth c D tC ad A C H locs la hP hS hL => lv_if_le C.1 C.2.1 hd ht (fun z => kt z p l e s m args below meth c D tC ad A C H locs la hP hS hL) (fun z => kf z p l e s m args below meth c D tC ad A C H locs la hP hS hL)
theorem mm_icmp_le {x y : Int32} {off : Int} (tgt : Nat) (hd : decode Y.2.1 pc = .ok (.if_icmp .le off, 3)) (ht : (pc : Int) + off = (tgt : Int)) (kt : x ≤ y → mm_R d Y tgt ls st h v h') (kf : ¬ x ≤ y → mm_R d Y (pc + 3) ls st h v h') : mm_R d Y pc ls (.int y :: .int x :: st) h v h' :=
  fun p l e s m args below meth c D tC ad A C H locs la hP hS hL => lv_icmp_le C.1 C.2.1 hd ht (fun z => kt z p l e s m args below meth c D tC ad A C H locs la hP hS hL) (fun z => kf z p l e s m args below meth c D tC ad A C H locs la hP hS hL)
theorem mm_goto {off : Int} (tgt : Nat) (hd : decode Y.2.1 pc = .ok (.goto off, 3)) (ht : (pc : Int) + off = (tgt : Int)) (k : mm_R d Y tgt ls st h v h') : mm_R d Y pc ls st h v h' :=
  fun p l e s m args below meth c D tC ad A C H locs la hP hS hL => lv_goto C.1 C.2.1 hd ht (k p l e s m args below meth c D tC ad A C H locs la hP hS hL)
theorem mm_tableIn {dflt lo hi : Int} {offs : Array Int} {len : Nat} {x : Int32} {off : Int} (tgt : Nat) (hd : decode Y.2.1 pc = .ok (.tableswitch dflt lo hi offs, len)) (h1 : ¬ x.toInt < lo) (h2 : ¬ hi < x.toInt) (ho : offs[(x.toInt - lo).toNat]? = some off) (ht : (pc : Int) + off = (tgt : Int)) (k : mm_R d Y tgt ls st h v h') : mm_R d Y pc ls (.int x :: st) h v h' :=
  fun p l e s m args below meth c D tC ad A C H locs la hP hS hL => lv_tableIn C.1 C.2.1 hd h1 h2 ho ht (k p l e s m args below meth c D tC ad A C H locs la hP hS hL)
theorem mm_tableOut {dflt lo hi : Int} {offs : Array Int} {len : Nat} {x : Int32} (tgt : Nat) (hd : decode Y.2.1 pc = .ok (.tableswitch dflt lo hi offs, len)) (h1 : x.toInt < lo ∨ hi < x.toInt) (ht : (pc : Int) + dflt = (tgt : Int)) (k : mm_R d Y tgt ls st h v h') : mm_R d Y pc ls (.int x :: st) h v h' :=
  fun p l e s m args below meth c D tC ad A C H locs la hP hS hL => lv_tableOut C.1 C.2.1 hd h1 ht (k p l e s m args below meth c D tC ad A C H locs la hP hS hL)
theorem mm_lookup {dflt : Int} {ps : Array (Int × Int)} {len : Nat} {x : Int32} {off : Int} (tgt : Nat) (hd : decode Y.2.1 pc = .ok (.lookupswitch dflt ps, len)) (hp : (ps.toList.zip (ps.toList.drop 1)).all (fun (a, next) => a.1 < next.1) = true) (ho : Op.lookupswitch.offset ps.toList dflt x.toInt = off) (ht : (pc : Int) + off = (tgt : Int)) (k : mm_R d Y tgt ls st h v h') : mm_R d Y pc ls (.int x :: st) h v h' :=
  fun p l e s m args below meth c D tC ad A C H locs la hP hS hL => lv_lookup C.1 C.2.1 hd hp ho ht (k p l e s m args below meth c D tC ad A C H locs la hP hS hL)
theorem mm_fin {D : va_G} {tC : Nat → ClassId} {ad : Nat → Nat} {A : Nat → Prop} {s t : State} {args : Array Value} {H : Heap} {locs : List Loc} (hP : va_P D vwCl (mm_w tC ad h) H) (hS : va_S A s.heap H locs) (ht : t.heap = H) : mm_Qc D tC ad A v h args s (.returned (v.map (mm_cv ad))) t := ⟨rfl, by rw [ht]; exact hP, hS.F ht⟩
theorem mm_ireturn {x : Int32} (hd : decode Y.2.1 pc = .ok (.ireturn, 1)) (hr : Y.2.2.2 = some .int) : mm_R d Y pc ls [.int x] h (some (.int x)) h :=
  fun p l e s m args below meth c D tC ad A C H locs la hP hS hL => W.iret (v := x) C.1 C.2.1 (C.2.2.2.1.trans hr) (fun t ht _ => mm_fin hP hS ht) hS.2.2 hd C.2.2.2.2.2.2.1
theorem mm_zreturn {x : Int32} {ty : FieldType} (hd : decode Y.2.1 pc = .ok (.ireturn, 1)) (hr : Y.2.2.2 = some ty) (hn : narrow ty (.int x) = .int x) : mm_R d Y pc ls [.int x] h (some (.int x)) h :=
  fun p l e s m args below meth c D tC ad A C H locs la hP hS hL => W.zret (v := x) C.1 C.2.1 (C.2.2.2.1.trans hr) hn (fun t ht _ => mm_fin hP hS ht) hS.2.2 hd C.2.2.2.2.2.2.1
theorem mm_lreturn {x : Int64} (hd : decode Y.2.1 pc = .ok (.lreturn, 1)) (hr : Y.2.2.2 = some .long) : mm_R d Y pc ls [.long x] h (some (.long x)) h :=
  fun p l e s m args below meth c D tC ad A C H locs la hP hS hL => W.lret (v := x) C.1 C.2.1 (C.2.2.2.1.trans hr) (fun t ht _ => mm_fin hP hS ht) hS.2.2 hd C.2.2.2.2.2.2.1
theorem mm_return (hd : decode Y.2.1 pc = .ok (.return_, 1)) (hr : Y.2.2.2 = none) : mm_R d Y pc ls [] h none h :=
  fun p l e s m args below meth c D tC ad A C H locs la hP hS hL => W.vret C.1 C.2.1 (C.2.2.2.1.trans hr) (fun t ht _ => mm_fin (v := none) hP hS ht) hS.2.2 hd C.2.2.2.2.2.2.1
theorem mm_areturn {a : Nat} {n : String} (hd : decode Y.2.1 pc = .ok (.areturn, 1)) (hr : Y.2.2.2 = some (.object n)) : mm_R d Y pc ls [.ref a] h (some (.ref a)) h :=
  fun p l e s m args below meth c D tC ad A C H locs la hP hS hL => W.aret (v := .ref (ad a)) C.1 C.2.1 (C.2.2.2.1.trans hr) (Or.inl ⟨n, rfl⟩) (Or.inr ⟨_, rfl⟩) (fun t ht _ => mm_fin (v := some (.ref a)) hP hS ht) hS.2.2 hd C.2.2.2.2.2.2.1
/-- fewer known locals, another spelling of the same -/
theorem mm_less {ls' : List (Option Value)} (hl : ∀ (i : Nat) (w : Value), ls'[i]? = some (some w) → ls[i]? = some (some w)) (k : mm_R d Y pc ls' st h v h') : mm_R d Y pc ls st h v h' :=
  fun p l e s m args below meth c D tC ad A C H locs la hP hS hL => k p l e s m args below meth c D tC ad A C H locs la hP hS (hL.less hl)
end MMR
