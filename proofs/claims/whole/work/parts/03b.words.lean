/-! the tables' words that stay true in every later state -/
def mm_T0 : List Cond := lw_tbl.filter goodWord
theorem mm_in {w : Cond} (i : Nat) (h : lw_tbl[i]? = some w) (hg : goodWord w = true) : w ∈ mm_T0 := List.mem_filter.mpr ⟨List.mem_of_getElem? h, hg⟩
theorem mm_T0_good {ws : List Cond} (h : ∀ w ∈ ws, w ∈ mm_T0) : GoodIn mm_T0 ws := fun w hw => ⟨h w hw, good_of_word (List.mem_filter.mp (h w hw)).2⟩
/-- a method: name, bytes, locals, answer -/
abbrev mm_Y : Type := MethodName × ByteArray × Nat × Option FieldType
/-- what a link of a field says, once and for all -/
def mm_Fd (own : String) (idx ci k : Nat) (ty : FieldType) : Prop := ∃ (C : String) (T : u_T) (N : Nat) (ty0 : Nat → FieldType), vwCl[ci]? = some (C, T, N) ∧ (∀ w ∈ u_ws C T N, w ∈ mm_T0) ∧ N = mm_nf ci ∧ k < N ∧ (∀ k, k < N → parseFieldDescriptor (T k).2.2.1 = some (ty0 k)) ∧ (∀ a, a < N → ∀ b, b < N → a ≠ b → (T a).2.1 ≠ (T b).2.1) ∧ Cond.fieldLink own idx (T k).1 (T k).2.1 (T k).2.2.1 ∈ mm_T0 ∧ ty0 k = ty ∧ ((T k).2.2.2 = false ∨ mm_ft ci k = 2)
/-- what the tables say of a method, once and for all -/
def mm_MV (Y : mm_Y) (ci n : Nat) : Prop := Cond.code Y.1 Y.2.1 Y.2.2.1 Y.2.2.2 ∈ mm_T0 ∧ Cond.instanceMethod Y.1 ∈ mm_T0 ∧ Cond.selects Y.1.cls Y.1 Y.1 ∈ mm_T0 ∧ Cond.initialized Y.1.cls ∈ mm_T0 ∧ (∃ q, vwCl[ci]? = some q ∧ q.1 = Y.1.cls) ∧ (Y.1.cls ≠ "java/lang/invoke/MethodHandle" ∧ Y.1.cls ≠ "java/lang/invoke/VarHandle" ∧ (parseMethodDescriptor Y.1.desc).map (fun d => d.parameters.length) = some n) ∧ Y.2.2.1 ≤ 41
def mm_MS (Y : mm_Y) (n : Nat) : Prop := Cond.code Y.1 Y.2.1 Y.2.2.1 Y.2.2.2 ∈ mm_T0 ∧ Cond.static Y.1 ∈ mm_T0 ∧ Cond.initialized Y.1.cls ∈ mm_T0 ∧ (Y.1.cls ≠ "java/lang/invoke/MethodHandle" ∧ Y.1.cls ≠ "java/lang/invoke/VarHandle" ∧ (parseMethodDescriptor Y.1.desc).map (fun d => d.parameters.length) = some n) ∧ Y.2.2.1 ≤ 41
