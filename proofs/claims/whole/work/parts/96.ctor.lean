/-! Constructors: a memory of cells in the order of their making. -/
/-- a cell: 0 an object of a class with its fields; 1 .. 4 a row of that kind and length; 5, 6 a row of references -/
abbrev cc_E : Type := Nat × Nat × List Value
abbrev cc_H : Type := (Nat → cc_E) × Nat
def cc_ad (base : Nat) : Nat → Nat := fun i => base + i
def cc_ref (v : Value) : Option Nat := match v with
  | .ref a => some a
  | _ => none
def cc_ent (tC : Nat → ClassId) (base : Nat) (q : cc_E) : va_E := match q.1 with
  | 0 => .inr (q.2.1, q.2.2.map (mm_cv (cc_ad base)))
  | 4 => .inl (tC 4, q.2.1, .inr (.inl (fun _ => 0)))
  | 5 => .inl (tC 5, q.2.1, .inr (.inr (.inr (.inr (fun i => (cc_ref (q.2.2.getD i .null)).map (cc_ad base))))))
  | 6 => .inl (tC 6, q.2.1, .inr (.inr (.inr (.inr (fun i => (cc_ref (q.2.2.getD i .null)).map (cc_ad base))))))
  | k => .inl (tC k, q.2.1, .inl (fun _ => 0))
def cc_w (tC : Nat → ClassId) (base : Nat) (h : cc_H) : va_W := (List.range h.2).map (fun a => (base + a, cc_ent tC base (h.1 a)))
def cc_up (f : Nat → cc_E) (a : Nat) (e : cc_E) : Nat → cc_E := fun b => if b = a then e else f b
theorem cc_up_e {f : Nat → cc_E} {a : Nat} {e : cc_E} : cc_up f a e a = e := if_pos rfl
theorem cc_up_n {f : Nat → cc_E} {a b : Nat} {e : cc_E} (h : b ≠ a) : cc_up f a e b = f b := if_neg h
theorem cc_w_len (tC : Nat → ClassId) (base : Nat) (h : cc_H) : (cc_w tC base h).length = h.2 := by simp [cc_w]
theorem cc_w_at (tC : Nat → ClassId) (base : Nat) (h : cc_H) {a : Nat} (ha : a < h.2) : (cc_w tC base h)[a]? = some (base + a, cc_ent tC base (h.1 a)) := by
  unfold cc_w
  rw [List.getElem?_map, List.getElem?_range ha]
  rfl
theorem cc_w_out (tC : Nat → ClassId) (base : Nat) (h : cc_H) {a : Nat} (ha : ¬ a < h.2) : (cc_w tC base h)[a]? = none := by
  rw [List.getElem?_eq_none]
  rw [cc_w_len]; omega
theorem cc_w_set (tC : Nat → ClassId) (base : Nat) {h : cc_H} {a : Nat} (ha : a < h.2) {q : cc_E} {e : va_E} (he : cc_ent tC base q = e) : (cc_w tC base h).set a (base + a, e) = cc_w tC base (cc_up h.1 a q, h.2) := by
  apply List.ext_getElem?
  intro i
  by_cases hi : i = a
  · subst hi
    rw [List.getElem?_set_self (by rw [cc_w_len]; exact ha), cc_w_at tC base (cc_up h.1 i q, h.2) ha]
    dsimp only
    rw [cc_up_e, he]
  · rw [List.getElem?_set_ne (fun z => hi z.symm)]
    by_cases hn : i < h.2
    · rw [cc_w_at tC base h hn, cc_w_at tC base (cc_up h.1 a q, h.2) hn]
      dsimp only
      rw [cc_up_n hi]
    · rw [cc_w_out tC base h hn, cc_w_out tC base (cc_up h.1 a q, h.2) hn]
theorem cc_w_push (tC : Nat → ClassId) (base : Nat) (h : cc_H) {q : cc_E} {e : va_E} (he : cc_ent tC base q = e) : cc_w tC base h ++ [(base + h.2, e)] = cc_w tC base (cc_up h.1 h.2 q, h.2 + 1) := by
  unfold cc_w
  dsimp only
  rw [List.range_succ, List.map_append]
  congr 1
  · apply List.map_congr_left
    intro a ha
    have := List.mem_range.mp ha
    rw [cc_up_n (by omega)]
  · show _ = [(base + h.2, cc_ent tC base (cc_up h.1 h.2 q h.2))]
    rw [cc_up_e, he]
theorem cc_D (tC : Nat → ClassId) (base : Nat) (h : cc_H) : va_D (fun q => base ≤ q) (cc_w tC base h) := by
  have key : ∀ (k : Nat) (q : Nat × va_E), (cc_w tC base h)[k]? = some q → q.1 = base + k := by
    intro k q hk
    by_cases hn : k < h.2
    · rw [cc_w_at tC base h hn] at hk; cases hk; rfl
    · rw [cc_w_out tC base h hn] at hk; cases hk
  refine ⟨fun i j p q hi hj e => ?_, fun k q hk => ?_⟩
  · have := key i p hi
    have := key j q hj
    omega
  · have := key k q hk
    show base ≤ q.1
    omega
def cc_rm (d mc ms : Nat) : Room := { frames := d, cells := mc, slots := ms, locals := 60 * d }
def cc_Q (D : va_G) (tC : Nat → ClassId) (base : Nat) (h : cc_H) : Array Value → State → Outcome → State → Prop := va_Qv (S := Unit) (fun _ => True) (fun _ t => t.heap.size = base + h.2 ∧ va_P D vwCl (cc_w tC base h) t.heap) (fun q => base ≤ q)
/-- constructors that a class of the same nest calls -/
def cc_nest : List (String × Nat × MethodName) := [(RX10, 15, yX8_init), (RX6, 11, yX5_init), (RX4, 17, yX3_init), (RX10, 44, yX7_init), (RX7, 11, yX5_init), (RX10, 55, yX5_init), (RX10, 60, yX3_init)]
def cc_B (D : va_G) (tC : Nat → ClassId) (U : State) : Prop := va_K D vwCl (mm_tys tC) U ∧ (va_AO "RingingCoins$Law" U ∧ va_AO "RingingCoins$State" U) ∧ ∀ q ∈ cc_nest, va_Nw (.methodLinkNest q.1 q.2.1 q.2.2 "RingingCoins") U
theorem cc_B.same {D : va_G} {tC : Nat → ClassId} {u U : State} (hv : u.vm = U.vm) (h : cc_B D tC u) : cc_B D tC U :=
  have hvm : u.vm.Alike U.vm := by rw [hv]; exact Vm.Alike.refl _
  ⟨va_K.moved hvm h.1, ⟨va_AO.moved hvm h.2.1.1, va_AO.moved hvm h.2.1.2⟩, fun q hq => va_Nw.same rfl hv (h.2.2 q hq)⟩
theorem cc_B.warm {D : va_G} {tC : Nat → ClassId} {u U : State} (hW : u.WarmedH U.vm) (h : cc_B D tC u) : cc_B D tC U := ⟨va_K.moved hW.alike h.1, ⟨va_AO.moved hW.alike h.2.1.1, va_AO.moved hW.alike h.2.1.2⟩, fun q hq => va_Nw.warmM hW (h.2.2 q hq)⟩
def cc_C (Y : mm_Y) (p : Program) (s : State) (m : MethodId) (args : Array Value) (meth : Method) (c : Code) (D : va_G) (tC : Nat → ClassId) (base : Nat) : Prop :=
  p.tables.exec = Jvm.exec ∧ c.code = Y.2.1 ∧ c.maxLocals = Y.2.2.1 ∧ meth.sig.returnType = Y.2.2.2 ∧ s.vm.findClass Y.1.cls = some m.cls ∧ (∀ w ∈ mm_T0, w.before args s = true) ∧ meth.locks = false ∧ cc_B D tC s ∧ base ≤ s.heap.size ∧ meth.name = "<init>"
/-- from this place the constructor comes to its end, with that memory -/
def cc_R (d : Nat) (Y : mm_Y) (mc ms pc : Nat) (ls : List (Option Value)) (st : List Value) (h : cc_H) (k n : Nat) (h' : cc_H) : Prop :=
  ∀ (p : Program) (l : Launch) (e : Env) (s : State) (m : MethodId) (args : Array Value) (below : List Frame) (meth : Method) (c : Code) (D : va_G) (tC : Nat → ClassId) (base : Nat),
    cc_C Y p s m args meth c D tC base → ∀ (H : Heap) (locs : List Loc) (la : Array Slot), H.size = base + h.2 → va_P D vwCl (cc_w tC base h) H → va_S (fun q => base ≤ q) s.heap H locs → mm_has (cc_ad base) la Y.2.2.1 ls →
      W p l e (cc_rm d mc ms) s m args below meth c H locs k n (MQ below (cc_Q D tC base h') args s mc ms (fun q => base ≤ q)) (F0 m pc la (st.map (mm_cv (cc_ad base))))
def cc_Pc (D : va_G) (tC : Nat → ClassId) (base : Nat) (av : List Value) (h : cc_H) : Array Value → State → Prop := va_Pc (av.map (mm_cv (cc_ad base))) (fun U => U.heap.size = base + h.2 ∧ va_P D vwCl (cc_w tC base h) U.heap ∧ cc_B D tC U)
/-- a constructor's contract -/
def cc_M (d : Nat) (Y : mm_Y) (mc ms : Nat) (av : List Value) (h h' : cc_H) : Prop :=
  ∀ (l : Launch) (D : va_G) (tC : Nat → ClassId) (base : Nat), Met l Y.1 (mm_ws Y) (cc_rm d mc ms) (cc_Pc D tC base av h) (cc_Q D tC base h') mc ms (fun q => base ≤ q)
theorem cc_M.of {d : Nat} {Y : mm_Y} {mc ms : Nat} {av : List Value} (ls : List (Option Value)) {h h' : cc_H} (hy : plainName Y.1.cls = true) (hnm : Y.1.name = "<init>") (hls : mm_lo av ++ List.replicate (Y.2.2.1 - (mm_lo av).length) none = ls) (hle : (mm_lo av).length ≤ Y.2.2.1) (k : cc_R d Y mc ms 0 ls [] h 0 0 h') : cc_M d Y mc ms av h h' := by
  intro l D tC base
  refine Met.ofW (cc := Y.2.1) (maxL := Y.2.2.1) (ret := Y.2.2.2) hy rfl ?_
  intro p e s m args below meth c s₁ B hml hv
  obtain ⟨rfl, hsz, hP, hK⟩ := hv
  have hts := atoms_spec (ws := mm_ws Y) B.pre
  have hown : s.vm.findClass Y.1.cls = some m.cls := findClass_of_methodNamed B.named
  have hin : meth.name = "<init>" := (name_of_methodNamed B.named B.method).1.trans hnm
  have C : cc_C Y p s m (av.map (mm_cv (cc_ad base))).toArray meth c D tC base := ⟨B.exec, B.bytes, hml, B.returns, hown, fun w hw => hts w (List.mem_cons_of_mem _ hw), B.notSynchronized, hK, by omega, hin⟩
  have hl := lv_entry (av.map (mm_cv (cc_ad base))) (n := Y.2.2.1) (by rw [mm_lo_sl]; exact hle)
  rw [lg_entry_eq]
  refine k p l e s m _ below meth c D tC base C s.heap [] _ hsz hP va_S.rf ⟨hl.1, hl.2.1, fun i w hi => ?_⟩
  rw [← hls] at hi
  have hi2 : (mm_lo av)[i]? = some (some w) := by
    by_cases hlt : i < (mm_lo av).length
    · rw [List.getElem?_append_left hlt] at hi
      exact hi
    · rw [List.getElem?_append_right (by omega), List.getElem?_replicate] at hi
      split at hi <;> simp at hi
  have := hl.2.2 _ (mm_lo_in (cc_ad base) av 0 i w hi2)
  simpa using this
section CCR
variable {d : Nat} {Y : mm_Y} {mc ms pc : Nat} {ls : List (Option Value)} {st : List Value} {h : cc_H} {k n : Nat} {h' : cc_H}
theorem cc_iconst {v : Int} {x : Int32} (hd : decode Y.2.1 pc = .ok (.iconst v, 1)) (hv : Int32.ofInt v = x) (kk : cc_R d Y mc ms (pc + 1) ls (.int x :: st) h k n h') : cc_R d Y mc ms pc ls st h k n h' :=
  fun p l e s m args below meth c D tC base C H locs la hz hP hS hL => lv_iconst C.1 C.2.1 hd hv (kk p l e s m args below meth c D tC base C H locs la hz hP hS hL)
theorem cc_bipush {v : Int} {x : Int32} (hd : decode Y.2.1 pc = .ok (.bipush v, 2)) (hv : (Int8.ofInt v).toInt32 = x) (kk : cc_R d Y mc ms (pc + 2) ls (.int x :: st) h k n h') : cc_R d Y mc ms pc ls st h k n h' :=
  fun p l e s m args below meth c D tC base C H locs la hz hP hS hL => lv_bipush C.1 C.2.1 hd hv (kk p l e s m args below meth c D tC base C H locs la hz hP hS hL)
theorem cc_sipush {v : Int} {x : Int32} (hd : decode Y.2.1 pc = .ok (.sipush v, 3)) (hv : (Int16.ofInt v).toInt32 = x) (kk : cc_R d Y mc ms (pc + 3) ls (.int x :: st) h k n h') : cc_R d Y mc ms pc ls st h k n h' :=
  fun p l e s m args below meth c D tC base C H locs la hz hP hS hL => lv_sipush C.1 C.2.1 hd hv (kk p l e s m args below meth c D tC base C H locs la hz hP hS hL)
theorem cc_ldc {i : Nat} {x : Int32} (hd : decode Y.2.1 pc = .ok (.ldc i, 2)) (hw : Cond.constant Y.1.cls i x ∈ mm_T0) (kk : cc_R d Y mc ms (pc + 2) ls (.int x :: st) h k n h') : cc_R d Y mc ms pc ls st h k n h' :=
  fun p l e s m args below meth c D tC base C H locs la hz hP hS hL => lv_ldc C.1 C.2.1 C.2.2.2.2.1 (C.2.2.2.2.2.1 _ hw) hd (kk p l e s m args below meth c D tC base C H locs la hz hP hS hL)
theorem cc_iload_n {q : Fin 4} {i : Nat} {x : Int32} (hd : decode Y.2.1 pc = .ok (.iload_n q, 1)) (hi : (q : Nat) = i) (hl : ls[i]? = some (some (.int x))) (kk : cc_R d Y mc ms (pc + 1) ls (.int x :: st) h k n h') : cc_R d Y mc ms pc ls st h k n h' :=
  fun p l e s m args below meth c D tC base C H locs la hz hP hS hL => lv_iload_n C.1 C.2.1 hd hi (hL.2.2 i _ hl) (kk p l e s m args below meth c D tC base C H locs la hz hP hS hL)
theorem cc_aload_n {q : Fin 4} {i : Nat} {x : Nat} (hd : decode Y.2.1 pc = .ok (.aload_n q, 1)) (hi : (q : Nat) = i) (hl : ls[i]? = some (some (.ref x))) (kk : cc_R d Y mc ms (pc + 1) ls (.ref x :: st) h k n h') : cc_R d Y mc ms pc ls st h k n h' :=
  fun p l e s m args below meth c D tC base C H locs la hz hP hS hL => lv_aload_n C.1 C.2.1 hd hi (hL.2.2 i _ hl) (kk p l e s m args below meth c D tC base C H locs la hz hP hS hL)
theorem cc_istore_n {q : Fin 4} {i : Nat} {x : Int32} (hd : decode Y.2.1 pc = .ok (.istore_n q, 1)) (hi : (q : Nat) = i) (hn : i < Y.2.2.1) (hq : mm_nl ls i = true) (kk : cc_R d Y mc ms (pc + 1) (ls.set i (some (.int x))) st h k n h') : cc_R d Y mc ms pc ls (.int x :: st) h k n h' :=
  fun p l e s m args below meth c D tC base C H locs la hz hP hS hL => lv_istore_n C.1 C.2.1 hd hi hL.al hn rfl (fun la' hl' => kk p l e s m args below meth c D tC base C H locs la' hz hP hS (mm_has_st1 (v := .int x) hL hq hl'))
theorem cc_iinc {i : Nat} {v : Int} {x y : Int32} (hd : decode Y.2.1 pc = .ok (.iinc i v, 3)) (hl : ls[i]? = some (some (.int x))) (hv : x + Int32.ofInt v = y) (hq : mm_nl ls i = true) (kk : cc_R d Y mc ms (pc + 3) (ls.set i (some (.int y))) st h k n h') : cc_R d Y mc ms pc ls st h k n h' := by
  intro p l e s m args below meth c D tC base C H locs la hz hP hS hL
  have hn : i < Y.2.2.1 := by
    have := (Array.getElem?_eq_some_iff.mp (hL.2.2 i _ hl)).1
    rw [hL.1] at this
    exact this
  obtain ⟨k0, hk0⟩ := List.getElem?_of_mem (mm_al_in (ad := cc_ad base) hn hl)
  exact lv_iinc C.1 C.2.1 hd hL.al hk0 hv hn rfl (fun la' hl' => kk p l e s m args below meth c D tC base C H locs la' hz hP hS (mm_has_st1 (v := .int y) hL hq hl'))
theorem cc_dup {a : Value} (hd : decode Y.2.1 pc = .ok (.dup, 1)) (ha : a.category = 1) (kk : cc_R d Y mc ms (pc + 1) ls (a :: a :: st) h k n h') : cc_R d Y mc ms pc ls (a :: st) h k n h' :=
  fun p l e s m args below meth c D tC base C H locs la hz hP hS hL => lv_dup C.1 C.2.1 hd ((mm_cv_cat (cc_ad base) a).trans ha) (kk p l e s m args below meth c D tC base C H locs la hz hP hS hL)
theorem cc_icmp_ge {x y : Int32} {off : Int} (tgt : Nat) (hd : decode Y.2.1 pc = .ok (.if_icmp .ge off, 3)) (ht : (pc : Int) + off = (tgt : Int)) (kt : y ≤ x → cc_R d Y mc ms tgt ls st h k n h') (kf : ¬ y ≤ x → cc_R d Y mc ms (pc + 3) ls st h k n h') : cc_R d Y mc ms pc ls (.int y :: .int x :: st) h k n h' :=
  fun p l e s m args below meth c D tC base C H locs la hz hP hS hL => lv_icmp_ge C.1 C.2.1 hd ht (fun z => kt z p l e s m args below meth c D tC base C H locs la hz hP hS hL) (fun z => kf z p l e s m args below meth c D tC base C H locs la hz hP hS hL)
theorem cc_goto {off : Int} (tgt : Nat) (hd : decode Y.2.1 pc = .ok (.goto off, 3)) (ht : (pc : Int) + off = (tgt : Int)) (kk : cc_R d Y mc ms tgt ls st h k n h') : cc_R d Y mc ms pc ls st h k n h' :=
  fun p l e s m args below meth c D tC base C H locs la hz hP hS hL => lv_goto C.1 C.2.1 hd ht (kk p l e s m args below meth c D tC base C H locs la hz hP hS hL)
theorem cc_return (hd : decode Y.2.1 pc = .ok (.return_, 1)) (hr : Y.2.2.2 = none) (hk : k = mc) (hn : n = ms) (hh : h = h') : cc_R d Y mc ms pc ls [] h k n h' := by
  subst hk; subst hn; subst hh
  exact fun p l e s m args below meth c D tC base C H locs la hz hP hS hL => W.vret C.1 C.2.1 (C.2.2.2.1.trans hr) (fun t ht _ => ⟨⟨(), rfl, trivial, by rw [ht]; exact hz, by rw [ht]; exact hP⟩, hS.F ht⟩) hS.2.2 hd C.2.2.2.2.2.2.1
theorem cc_objI {a idx : Nat} (hd : decode Y.2.1 pc = .ok (.invokespecial idx, 3)) (hl : Cond.methodLink Y.1.cls idx Lib.objectInit ∈ mm_T0) (hi : Cond.instanceMethod Lib.objectInit ∈ mm_T0) (hc : Cond.code Lib.objectInit ⟨#[0xb1]⟩ 1 none ∈ mm_T0) (hst : st = []) (kk : cc_R (d + 1) Y mc ms (pc + 3) ls st h k n h') : cc_R (d + 1) Y mc ms pc ls (.ref a :: st) h k n h' := by
  subst hst
  intro p l e s m args below meth c D tC base C H locs la hz hP hS hL
  refine W.objInit C.1 C.2.1 C.2.2.2.2.1 (C.2.2.2.2.2.1 _ hl) (C.2.2.2.2.2.1 _ hi) (C.2.2.2.2.2.1 _ hc) rfl (by rw [C.2.2.1]; exact hL.1) rfl hd (by show 1 ≤ d + 1; omega) (by show 0 + 0 + 12 ≤ 60 * (d + 1); omega) ?_
  exact kk p l e s m args below meth c D tC base C H locs la hz hP hS hL
/-- a class that is made -/
def cc_Nw (own : String) (idx ci N : Nat) (fs : List Value) : Prop := ∃ (C : String) (T : u_T) (ty : Nat → FieldType), vwCl[ci]? = some (C, T, N) ∧ (∀ w ∈ u_ws C T N, w ∈ mm_T0) ∧ (∀ k, k < N → parseFieldDescriptor (T k).2.2.1 = some (ty k)) ∧ Cond.classLink own idx C ∈ mm_T0 ∧ Cond.instantiable C N ∈ mm_T0 ∧ Cond.initialized C ∈ mm_T0 ∧ ∀ j, j < N → defaultValue (ty j) = vp_V fs j
theorem cc_new {idx ci N : Nat} {fs : List Value} (hd : decode Y.2.1 pc = .ok (.new idx, 3)) (hf : cc_Nw Y.1.cls idx ci N fs) (hfs : ∀ ad, fs.map (mm_cv ad) = fs) (hk : k + 1 ≤ mc) (hn : n + N ≤ ms) (kk : cc_R d Y mc ms (pc + 3) ls (.ref h.2 :: st) (cc_up h.1 h.2 (0, ci, fs), h.2 + 1) (k + 1) (n + N) h') : cc_R d Y mc ms pc ls st h k n h' := by
  intro p l e s m args below meth c D tC base C H locs la hz hP hS hL
  obtain ⟨Cn, T, ty, f1, f2, f3, f4, f5, f6, f7⟩ := hf
  have hKn := C.2.2.2.2.2.2.2.1.1.1 ci _ f1
  refine W.newcK C.1 C.2.1 C.2.2.2.2.1 (C.2.2.2.2.2.1 _ f4) (C.2.2.2.2.2.1 _ f5) (C.2.2.2.2.2.1 _ f6) rfl hd hk hn hKn.2.1 rfl fun H1 kC hkC e1 z1 o1 => ?_
  have hkp : ∀ (k : Nat) (x : Nat × va_E), (cc_w tC base h)[k]? = some x → H1[x.1]? = H[x.1]? := fun k x hx => o1 x.1 ((hP k x hx).lt)
  have e0 : cc_ent tC base (0, ci, fs) = .inr (ci, fs) := by
    show Sum.inr (ci, fs.map (mm_cv (cc_ad base))) = _
    rw [hfs]
  have P1 : va_P D vwCl (cc_w tC base (cc_up h.1 h.2 (0, ci, fs), h.2 + 1)) H1 := by
    rw [← cc_w_push tC base h e0]
    refine (hP.kept hkp).app (fun k x hx => ?_)
    have hzk : k < 1 := (List.getElem?_eq_some_iff.mp hx).1
    rw [show k = 0 by omega] at hx
    cases hx
    rw [← hz]
    exact ⟨_, f1, (u_born ty C.2.2.2.2.2.1 f2 hKn hkC e1 f3).to f7⟩
  have S1 : va_S (fun q => base ≤ q) s.heap H1 locs := ⟨Nat.le_trans hS.1 (by omega), fun x h1 h2 => (o1 x (Nat.lt_of_lt_of_le h1 hS.1)).trans (hS.2.1 x h1 h2), hS.2.2⟩
  have K := kk p l e s m args below meth c D tC base C H1 locs la (by dsimp only; omega) P1 S1 hL
  rw [hz]
  exact K
/-- which row kind an array type is -/
def cc_kd (t : ArrayType) : Nat := match t with
  | .int => 1
  | .byte => 2
  | .boolean => 3
  | .long => 4
  | _ => 9
theorem cc_newa {t : ArrayType} {x : Int32} {N q : Nat} (hd : decode Y.2.1 pc = .ok (.newarray t, 2)) (hq : cc_kd t = q) (hq9 : 1 ≤ q ∧ q ≤ 4) (harr : Cond.arrayClass (newarray.typeOf t) ∈ mm_T0) (hx : ¬ x < 0) (hN : x.toNatClampNeg = N) (hb : N ≤ 60000) (hk : k + 1 ≤ mc) (hn : n + N ≤ ms) (kk : cc_R d Y mc ms (pc + 2) ls (.ref h.2 :: st) (cc_up h.1 h.2 (q, N, []), h.2 + 1) (k + 1) (n + N) h') : cc_R d Y mc ms pc ls (.int x :: st) h k n h' := by
  intro p l e s m args below meth c D tC base C H locs la hz hP hS hL
  have hK := C.2.2.2.2.2.2.2.1.1
  refine va_newaK C.1 C.2.1 (C.2.2.2.2.2.1 _ harr) rfl hd rfl hx hN ?_ hk hn rfl fun H1 cA e1 z1 o1 hAr hNm => ?_
  · have : componentBytes (newarray.typeOf t) ≤ 8 := by cases t <;> decide
    exact Nat.le_trans (Nat.mul_le_mul hb this) (by decide)
  have hkp : ∀ (k : Nat) (y : Nat × va_E), (cc_w tC base h)[k]? = some y → H1[y.1]? = H[y.1]? := fun k y hy => o1 y.1 ((hP k y hy).lt)
  have P1 : va_P D vwCl (cc_w tC base (cc_up h.1 h.2 (q, N, []), h.2 + 1)) H1 := by
    have at1 : va_at D vwCl (base + h.2, cc_ent tC base (q, N, [])) H1 := by
      rw [hz] at e1
      subst hq
      cases t with
      | int =>
        have ec : cA = tC 1 := Option.some.inj (hNm.symm.trans (hK.2 0 _ rfl).2)
        rw [ec] at e1; exact e1
      | byte =>
        have ec : cA = tC 2 := Option.some.inj (hNm.symm.trans (hK.2 1 _ rfl).2)
        rw [ec] at e1; exact e1
      | boolean =>
        have ec : cA = tC 3 := Option.some.inj (hNm.symm.trans (hK.2 2 _ rfl).2)
        rw [ec] at e1; exact e1
      | long =>
        have ec : cA = tC 4 := Option.some.inj (hNm.symm.trans (hK.2 3 _ rfl).2)
        rw [ec] at e1; exact e1
      | char => exact absurd hq9.2 (by decide)
      | float => exact absurd hq9.2 (by decide)
      | double => exact absurd hq9.2 (by decide)
      | short => exact absurd hq9.2 (by decide)
    rw [← cc_w_push tC base h rfl]
    refine (hP.kept hkp).app (fun k y hy => ?_)
    have hzk : k < 1 := (List.getElem?_eq_some_iff.mp hy).1
    rw [show k = 0 by omega] at hy
    cases hy
    exact at1
  have S1 : va_S (fun q => base ≤ q) s.heap H1 locs := ⟨Nat.le_trans hS.1 (by omega), fun y h1 h2 => (o1 y (Nat.lt_of_lt_of_le h1 hS.1)).trans (hS.2.1 y h1 h2), hS.2.2⟩
  have K := kk p l e s m args below meth c D tC base C H1 locs la (by dsimp only; omega) P1 S1 hL
  rw [hz]
  exact K
end CCR
