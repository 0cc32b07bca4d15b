/-! A method's run over one memory: the cells of part 03, their numbers in functions of cell and place. Nothing is made in such a run. -/
/-- the memory: numbers, longs, and where a reference that may be set leads -/
abbrev mm_H : Type := (Nat → Nat → Int32) × (Nat → Nat → Int64) × (Nat → Nat)
def mm_h0 : mm_H := (fun _ _ => 0, fun _ _ => 0, fun _ => 0)
/-- a value of the memory at its true address -/
def mm_cv (ad : Nat → Nat) : Value → Value
  | .ref i => .ref (ad i)
  | v => v
def mm_fv (ad : Nat → Nat) (h : mm_H) (a t k : Nat) : Value := match t with
  | 0 => .int (h.1 a k)
  | 1 => .long (h.2.1 a k)
  | 2 => va_rf ((mm_gr a k).map ad)
  | _ => .ref (ad (h.2.2 a))
def mm_fs (ad : Nat → Nat) (h : mm_H) (a ci : Nat) : List Value := (List.range (mm_nf ci)).map (fun k => mm_fv ad h a (mm_ft ci k) k)
def mm_ent (tC : Nat → ClassId) (ad : Nat → Nat) (h : mm_H) (a : Nat) (q : Nat × Nat) : va_E := match q.1 with
  | 0 => .inr (q.2, mm_fs ad h a q.2)
  | 4 => .inl (tC 4, q.2, .inr (.inl (h.2.1 a)))
  | 5 => .inl (tC 5, q.2, .inr (.inr (.inr (.inr (fun i => (mm_gr a i).map ad)))))
  | 6 => .inl (tC 6, q.2, .inr (.inr (.inr (.inr (fun i => (mm_gr a i).map ad)))))
  | k => .inl (tC k, q.2, .inl (h.1 a))
def mm_w (tC : Nat → ClassId) (ad : Nat → Nat) (h : mm_H) : va_W := (List.range mm_N).map (fun a => (ad a, mm_ent tC ad h a (mm_sh a)))
def mm_tys (tC : Nat → ClassId) : List (ClassId × FieldType) := [(tC 1, .int), (tC 2, .byte), (tC 3, .boolean), (tC 4, .long), (tC 5, .object "RingingCoins$Law"), (tC 6, .object "RingingCoins$State")]
theorem mm_w_at (tC : Nat → ClassId) (ad : Nat → Nat) (h : mm_H) {a : Nat} (ha : a < mm_N) : (mm_w tC ad h)[a]? = some (ad a, mm_ent tC ad h a (mm_sh a)) := by
  unfold mm_w
  rw [List.getElem?_map, List.getElem?_range ha]
  rfl
theorem mm_w_len (tC : Nat → ClassId) (ad : Nat → Nat) (h : mm_H) : (mm_w tC ad h).length = mm_N := by simp [mm_w]
theorem mm_w_out (tC : Nat → ClassId) (ad : Nat → Nat) (h : mm_H) {a : Nat} (ha : ¬ a < mm_N) : (mm_w tC ad h)[a]? = none := by
  rw [List.getElem?_eq_none]
  rw [mm_w_len]; omega
/-- a cell's entry is made of that cell's part of the memory alone -/
theorem mm_ent_eq (tC : Nat → ClassId) (ad : Nat → Nat) {h g : mm_H} {a : Nat} (q : Nat × Nat) (h1 : h.1 a = g.1 a) (h2 : h.2.1 a = g.2.1 a) (h3 : h.2.2 a = g.2.2 a) : mm_ent tC ad h a q = mm_ent tC ad g a q := by
  have hf : ∀ t k, mm_fv ad h a t k = mm_fv ad g a t k := by
    intro t k
    unfold mm_fv
    rw [h1, h2, h3]
  unfold mm_ent
  rw [h1, h2]
  have : mm_fs ad h a q.2 = mm_fs ad g a q.2 := by
    unfold mm_fs
    simp only [hf]
  rw [this]
/-- one cell changed -/
theorem mm_w_set (tC : Nat → ClassId) (ad : Nat → Nat) {h g : mm_H} {a : Nat} (ha : a < mm_N) (ho : ∀ b, b ≠ a → h.1 b = g.1 b ∧ h.2.1 b = g.2.1 b ∧ h.2.2 b = g.2.2 b) {e : va_E} (he : mm_ent tC ad g a (mm_sh a) = e) : (mm_w tC ad h).set a (ad a, e) = mm_w tC ad g := by
  apply List.ext_getElem?
  intro i
  by_cases hi : i = a
  · subst hi
    rw [List.getElem?_set_self (by rw [mm_w_len]; exact ha), mm_w_at tC ad g ha, he]
  · rw [List.getElem?_set_ne (fun z => hi z.symm)]
    by_cases hn : i < mm_N
    · rw [mm_w_at tC ad h hn, mm_w_at tC ad g hn]
      obtain ⟨h1, h2, h3⟩ := ho i hi
      rw [mm_ent_eq tC ad (mm_sh i) h1 h2 h3]
    · rw [mm_w_out tC ad h hn, mm_w_out tC ad g hn]
/-- the addresses don't hang on what the cells hold -/
theorem mm_D {tC : Nat → ClassId} {ad : Nat → Nat} {h : mm_H} (g : mm_H) {A : Nat → Prop} (hD : va_D A (mm_w tC ad h)) : va_D A (mm_w tC ad g) := by
  have key : ∀ (k : Nat) (q : Nat × va_E), (mm_w tC ad g)[k]? = some q → ∃ q', (mm_w tC ad h)[k]? = some q' ∧ q'.1 = q.1 := by
    intro k q hk
    by_cases hn : k < mm_N
    · rw [mm_w_at tC ad g hn] at hk
      cases hk
      exact ⟨_, mm_w_at tC ad h hn, rfl⟩
    · rw [mm_w_out tC ad g hn] at hk
      cases hk
  refine ⟨fun i j p q hi hj e => ?_, fun k q hk => ?_⟩
  · obtain ⟨p', h1, e1⟩ := key i p hi
    obtain ⟨q', h2, e2⟩ := key j q hj
    exact hD.1 i j p' q' h1 h2 (e1.trans (e.trans e2.symm))
  · obtain ⟨q', h1, e1⟩ := key k q hk
    rw [← e1]
    exact hD.2 k q' h1
theorem mm_A {tC : Nat → ClassId} {ad : Nat → Nat} {h : mm_H} (g : mm_H) {sz q : Nat} (hA : va_A (mm_w tC ad h) sz q) : va_A (mm_w tC ad g) sz q := by
  rcases hA with ⟨k, e, hk⟩ | hA
  · by_cases hn : k < mm_N
    · rw [mm_w_at tC ad h hn] at hk
      cases hk
      exact Or.inl ⟨k, _, mm_w_at tC ad g hn⟩
    · rw [mm_w_out tC ad h hn] at hk
      cases hk
  · exact Or.inr hA
/-! the memory's changes -/
def mm_up (I : Nat → Nat → Int32) (a k : Nat) (x : Int32) : Nat → Nat → Int32 := fun b => if b = a then upd (I a) k x else I b
def mm_upL (I : Nat → Nat → Int64) (a k : Nat) (x : Int64) : Nat → Nat → Int64 := fun b => if b = a then vp_updL (I a) k x else I b
def mm_upR (I : Nat → Nat) (a : Nat) (x : Nat) : Nat → Nat := fun b => if b = a then x else I b
/-- a whole row laid anew -/
def mm_row (I : Nat → Nat → Int32) (a : Nat) (f : Nat → Int32) : Nat → Nat → Int32 := fun b => if b = a then f else I b
theorem mm_up_s {I : Nat → Nat → Int32} {a k : Nat} {x : Int32} : mm_up I a k x a = upd (I a) k x := by simp [mm_up]
theorem mm_up_n {I : Nat → Nat → Int32} {a b k : Nat} {x : Int32} (h : b ≠ a) : mm_up I a k x b = I b := by simp [mm_up, h]
theorem mm_up_e {I : Nat → Nat → Int32} {a k : Nat} {x : Int32} : mm_up I a k x a k = x := by simp [mm_up, upd]
theorem mm_up_k {I : Nat → Nat → Int32} {a k j : Nat} {x : Int32} (h : j ≠ k) : mm_up I a k x a j = I a j := by simp [mm_up, upd, h]
/-- the room of a run d calls deep -/
def mm_rm (d : Nat) : Room := { frames := d, cells := 0, slots := 0, locals := 60 * d }
def mm_ws (Y : mm_Y) : List Cond := Cond.code Y.1 Y.2.1 Y.2.2.1 Y.2.2.2 :: mm_T0
/-! String constants: number, length, bytes; where they are taken from -/
def mm_nS : Nat := 18
def mm_X (sl : List Nat) (sb : List (List Int32)) (so : List (String × Nat × String)) (ad : Nat → Nat) (A : Nat → Prop) (s : State) : Prop :=
  vk_S sl.length sl sb (fun i => ad (1000 + i)) (fun i => ad (2000 + i)) A s s.heap ∧ (va_Z "java/lang/String" "COMPACT_STRINGS" "Z" (.int 1) A s s.heap ∧ (va_Z "jdk/internal/util/Preconditions" "SIOOBE_FORMATTER" "Ljava/util/function/BiFunction;" .null A s s.heap ∨ va_Z "jdk/internal/util/Preconditions" "SIOOBE_FORMATTER" "Ljava/util/function/BiFunction;" (.ref (ad 3000)) A s s.heap)) ∧ ∀ i q, so[i]? = some q → vk_R q.1 q.2.1 q.2.2 (ad (1000 + i)) s
/-- links within the nest: of these the tables' words are carried beside the others -/
def mm_nest : List (String × Nat × MethodName) := [(RX0, 82, yX10_nextWithin), (RX2, 76, yX10_nextWithin), (RX9, 68, yX10_nextWithin)]
def mm_Nn (s : State) : Prop := ∀ q ∈ mm_nest, va_Nw (.methodLinkNest q.1 q.2.1 q.2.2 "RingingCoins") s
/-! locals: a list, a place without a known value is none -/
def mm_has (ad : Nat → Nat) (la : Array Slot) (nL : Nat) (ls : List (Option Value)) : Prop := la.size = nL ∧ lv_wf la ∧ ∀ (i : Nat) (v : Value), ls[i]? = some (some v) → la[i]? = some (.val (mm_cv ad v))
def mm_al (ad : Nat → Nat) (nL : Nat) (ls : List (Option Value)) : List (Nat × Value) := (List.range nL).filterMap (fun i => match ls[i]? with
  | some (some v) => some (i, mm_cv ad v)
  | _ => none)
theorem mm_al_in {ad : Nat → Nat} {nL i : Nat} {ls : List (Option Value)} {v : Value} (hi : i < nL) (h : ls[i]? = some (some v)) : (i, mm_cv ad v) ∈ mm_al ad nL ls := by
  unfold mm_al
  exact List.mem_filterMap.mpr ⟨i, List.mem_range.mpr hi, by simp [h]⟩
theorem mm_has.al {ad : Nat → Nat} {la : Array Slot} {nL : Nat} {ls : List (Option Value)} (h : mm_has ad la nL ls) : lv_has la nL (mm_al ad nL ls) := by
  refine ⟨h.1, h.2.1, fun q hq => ?_⟩
  unfold mm_al at hq
  obtain ⟨i, -, hi⟩ := List.mem_filterMap.mp hq
  split at hi
  · rename_i v hv
    cases hi
    exact h.2.2 i v hv
  · cases hi
/-- no long stands before this place -/
def mm_nl (ls : List (Option Value)) (i : Nat) : Bool := match i with
  | 0 => true
  | j + 1 => match ls[j]? with
    | some (some (.long _)) => false
    | some (some (.double _)) => false
    | _ => true
theorem mm_cv_cat (ad : Nat → Nat) (v : Value) : (mm_cv ad v).category = v.category := by cases v <;> rfl
theorem mm_nl_no {ls : List (Option Value)} {i j : Nat} {w : Value} (h : mm_nl ls i = true) (hj : ls[j]? = some (some w)) (e : j + 1 = i) : ¬ w.category = 2 := by
  subst e
  simp only [mm_nl, hj] at h
  cases w <;> simp_all [Value.category]
theorem mm_has_st1 {ad : Nat → Nat} {la la' : Array Slot} {nL i : Nat} {ls : List (Option Value)} {v : Value} (h : mm_has ad la nL ls) (hn : mm_nl ls i = true)
    (h' : lv_has la' nL ((i, mm_cv ad v) :: (mm_al ad nL ls).filter (fun q => !(q.1 == i) && !(q.1 + 1 == i && q.2.category == 2)))) : mm_has ad la' nL (ls.set i (some v)) := by
  refine ⟨h'.1, h'.2.1, fun j w hj => ?_⟩
  by_cases e : j = i
  · subst e
    rw [List.getElem?_set] at hj
    simp at hj
    obtain ⟨-, hj⟩ := hj
    subst hj
    exact h'.2.2 _ List.mem_cons_self
  · rw [List.getElem?_set_ne (fun z => e z.symm)] at hj
    have hl : j < nL := by
      have := (Array.getElem?_eq_some_iff.mp (h.2.2 j w hj)).1
      rw [h.1] at this
      exact this
    refine h'.2.2 (j, mm_cv ad w) (List.mem_cons_of_mem _ (List.mem_filter.mpr ⟨mm_al_in hl hj, ?_⟩))
    have h2 : j + 1 = i → ¬ (mm_cv ad w).category = 2 := fun z => by rw [mm_cv_cat]; exact mm_nl_no hn hj z
    simp [e]
    by_cases z : j + 1 = i
    · exact Or.inr (h2 z)
    · exact Or.inl z
theorem mm_has_st2 {ad : Nat → Nat} {la la' : Array Slot} {nL i : Nat} {ls : List (Option Value)} {v : Value} (h : mm_has ad la nL ls) (hn : mm_nl ls i = true)
    (h' : lv_has la' nL ((i, mm_cv ad v) :: (mm_al ad nL ls).filter (fun q => !(q.1 == i) && (!(q.1 == i + 1) && !(q.1 + 1 == i && q.2.category == 2))))) : mm_has ad la' nL ((ls.set i (some v)).set (i + 1) none) := by
  refine ⟨h'.1, h'.2.1, fun j w hj => ?_⟩
  by_cases e1 : j = i + 1
  · subst e1
    rw [List.getElem?_set] at hj
    simp at hj
  · rw [List.getElem?_set_ne (fun z => e1 z.symm)] at hj
    by_cases e : j = i
    · subst e
      rw [List.getElem?_set] at hj
      simp at hj
      obtain ⟨-, hj⟩ := hj
      subst hj
      exact h'.2.2 _ List.mem_cons_self
    · rw [List.getElem?_set_ne (fun z => e z.symm)] at hj
      have hl : j < nL := by
        have := (Array.getElem?_eq_some_iff.mp (h.2.2 j w hj)).1
        rw [h.1] at this
        exact this
      refine h'.2.2 (j, mm_cv ad w) (List.mem_cons_of_mem _ (List.mem_filter.mpr ⟨mm_al_in hl hj, ?_⟩))
      have h2 : j + 1 = i → ¬ (mm_cv ad w).category = 2 := fun z => by rw [mm_cv_cat]; exact mm_nl_no hn hj z
      simp [e, e1]
      by_cases z : j + 1 = i
      · exact Or.inr (h2 z)
      · exact Or.inl z
/-- fewer known locals -/
theorem mm_has.less {ad : Nat → Nat} {la : Array Slot} {nL : Nat} {ls ls' : List (Option Value)} (h : mm_has ad la nL ls) (hl : ∀ (i : Nat) (v : Value), ls'[i]? = some (some v) → ls[i]? = some (some v)) : mm_has ad la nL ls' := ⟨h.1, h.2.1, fun i v hi => h.2.2 i v (hl i v hi)⟩
/-- the locals at a method's entry -/
def mm_lo : List Value → List (Option Value)
  | [] => []
  | v :: vs => some v :: (if v.category = 2 then none :: mm_lo vs else mm_lo vs)
theorem mm_lo_in (ad : Nat → Nat) : ∀ (vs : List Value) (k i : Nat) (v : Value), (mm_lo vs)[i]? = some (some v) → (k + i, mm_cv ad v) ∈ lv_args k (vs.map (mm_cv ad)) := by
  intro vs
  induction vs with
  | nil => intro k i v h; simp [mm_lo] at h
  | cons w vs ih =>
    intro k i v h
    simp only [List.map_cons, lv_args]
    rw [mm_cv_cat]
    cases i with
    | zero =>
      simp [mm_lo] at h
      subst h
      exact List.mem_cons_self
    | succ i =>
      simp only [mm_lo, List.getElem?_cons_succ] at h
      refine List.mem_cons_of_mem _ ?_
      by_cases hc : w.category = 2
      · rw [if_pos hc] at h ⊢
        cases i with
        | zero => simp at h
        | succ i =>
          rw [List.getElem?_cons_succ] at h
          have := ih (k + 2) i v h
          rw [show k + 2 + i = k + (i + 1 + 1) by omega] at this
          exact this
      · rw [if_neg hc] at h ⊢
        have := ih (k + 1) i v h
        rw [show k + 1 + i = k + (i + 1) by omega] at this
        exact this
theorem mm_lo_sl (ad : Nat → Nat) : ∀ (vs : List Value), (lg_sl (vs.map (mm_cv ad))).length = (mm_lo vs).length := by
  intro vs
  induction vs with
  | nil => rfl
  | cons w vs ih =>
    have e : lg_sl (List.map (mm_cv ad) (w :: vs)) = (if w.category = 2 then [Slot.val (mm_cv ad w), Slot.second] else [Slot.val (mm_cv ad w)]) ++ lg_sl (vs.map (mm_cv ad)) := by
      simp only [lg_sl, List.map_cons, List.flatMap_cons, mm_cv_cat]
    rw [e, List.length_append, ih]
    by_cases hc : w.category = 2
    · simp [mm_lo, hc]; omega
    · simp [mm_lo, hc]; omega

/-! ===== the run ===== -/
def mm_Qc (D : va_G) (tC : Nat → ClassId) (ad : Nat → Nat) (A : Nat → Prop) (v : Option Value) (h : mm_H) : Array Value → State → Outcome → State → Prop := fun _ st oc t => oc = .returned (v.map (mm_cv ad)) ∧ va_P D vwCl (mm_w tC ad h) t.heap ∧ va_F A st t
/-- the surroundings of a run: the machine, the method, the tables' words, the classes, the cells apart, the String constants -/
def mm_C (Z : (Nat → Nat) → (Nat → Prop) → State → Prop) (Y : mm_Y) (p : Program) (s : State) (m : MethodId) (args : Array Value) (meth : Method) (c : Code) (D : va_G) (tC : Nat → ClassId) (ad : Nat → Nat) (A : Nat → Prop) : Prop :=
  p.tables.exec = Jvm.exec ∧ c.code = Y.2.1 ∧ c.maxLocals = Y.2.2.1 ∧ meth.sig.returnType = Y.2.2.2 ∧ s.vm.findClass Y.1.cls = some m.cls ∧ (∀ w ∈ mm_T0, w.before args s = true) ∧ meth.locks = false ∧ va_K D vwCl (mm_tys tC) s ∧ (∀ q, s.heap.size ≤ q → A q) ∧ va_D A (mm_w tC ad mm_h0) ∧ Z ad A s
