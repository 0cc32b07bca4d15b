/-! Constructors: fields, rows of references, calls. -/
/-- what a field's link says, in a constructor of its own class -/
def cc_Fd (own : String) (idx ci k : Nat) (ty : FieldType) : Prop := ∃ (C : String) (T : u_T) (N : Nat) (ty0 : Nat → FieldType), vwCl[ci]? = some (C, T, N) ∧ (∀ w ∈ u_ws C T N, w ∈ mm_T0) ∧ k < N ∧ (∀ k, k < N → parseFieldDescriptor (T k).2.2.1 = some (ty0 k)) ∧ (∀ a, a < N → ∀ b, b < N → a ≠ b → (T a).2.1 ≠ (T b).2.1) ∧ Cond.fieldLink own idx (T k).1 (T k).2.1 (T k).2.2.1 ∈ mm_T0 ∧ ty0 k = ty ∧ (T k).1 = own
theorem cc_map_set {ad : Nat → Nat} {vs : List Value} {k : Nat} {v : Value} : (vs.map (mm_cv ad)).set k (mm_cv ad v) = (vs.set k v).map (mm_cv ad) := by rw [List.map_set]
/-- what fits a field -/
def cc_fit (ty : FieldType) (v : Value) : Prop := ∀ ad : Nat → Nat, narrow ty (mm_cv ad v) = mm_cv ad v ∧ fits ty (mm_cv ad v) = true
section CCF
variable {d : Nat} {Y Y1 : mm_Y} {mc ms pc : Nat} {ls : List (Option Value)} {st stk : List Value} {h h1 : cc_H} {k n : Nat} {h' : cc_H}
theorem cc_obj (tC : Nat → ClassId) (base : Nat) {a ci : Nat} {vs : List Value} (ha : h.1 a = (0, ci, vs)) (hlt : a < h.2) : (cc_w tC base h)[a]? = some (base + a, .inr (ci, vs.map (mm_cv (cc_ad base)))) := by
  rw [cc_w_at tC base h hlt, ha]; rfl
theorem cc_put {a ci idx q : Nat} {ty : FieldType} {vs : List Value} {v : Value} (hd : decode Y.2.1 pc = .ok (.putfield idx, 3)) (hf : cc_Fd Y.1.cls idx ci q ty) (ha : h.1 a = (0, ci, vs)) (hlt : a < h.2) (hq : q < vs.length) (hx : cc_fit ty v) (kk : cc_R d Y mc ms (pc + 3) ls st (cc_up h.1 a (0, ci, vs.set q v), h.2) k n h') : cc_R d Y mc ms pc ls (v :: .ref a :: st) h k n h' := by
  intro p l e s m args below meth c D tC base C H locs la hz hP hS hL
  obtain ⟨Cn, T, N, ty0, f1, f2, f4, f5, f6, f7, f8, f10⟩ := hf
  have hK := C.2.2.2.2.2.2.2.1.1
  have words := C.2.2.2.2.2.1
  have apart := va_apart (own := Y.1.cls) words f2 ty0 f5 f6 hK f1
  have hD := cc_D tC base h
  have here := cc_obj tC base ha hlt
  obtain ⟨r, hr, cell, c1, c2, c3, c4⟩ := hP a _ here
  obtain rfl : r = (Cn, T, N) := Option.some.inj (hr.symm.trans f1)
  obtain ⟨kS, kf, kC, k1, k2⟩ := hK.1 ci _ f1
  obtain ⟨cf, kcl, fi, fd, found, slot⟩ := kS q f4
  have laid := words _ (f2 _ (u_in_lay f4))
  have stat := (u_facts kf k1 (u_lays words f2 f4) found).1
  have desc := (f5 q f4).trans (congrArg some f8)
  have room : fd.slot < cell.slots.size := by rw [slot]; exact k2_hasslot (c4 q f4)
  have onward : ∀ H' : Heap, H'[base + a]? = some (cell.setSlot fd.slot (mm_cv (cc_ad base) v)) → H'.size = H.size → (∀ x, x ≠ base + a → H'[x]? = H[x]?) → W p l e (cc_rm d mc ms) s m args below meth c H' (locs ++ [⟨base + a, fd.slot⟩]) k n (MQ below (cc_Q D tC base h') args s mc ms (fun q => base ≤ q)) (F0 m (pc + 3) la (st.map (mm_cv (cc_ad base)))) := by
    intro H' e1 e2 e3
    rw [slot] at e1
    have P1 := hP.set (e := .inr (ci, (vs.map (mm_cv (cc_ad base))).set q (mm_cv (cc_ad base) v))) hD here ⟨_, f1, t_OB.to ⟨_, e1, c2, c3, t_set c4 apart f4 _⟩ (fun j _ => vp_updV_set (by rw [List.length_map]; exact hq) _ j)⟩ e3
    rw [cc_map_set, cc_w_set tC base hlt (q := (0, ci, vs.set q v)) (e := .inr (ci, (vs.set q v).map (mm_cv (cc_ad base)))) rfl] at P1
    exact kk p l e s m args below meth c D tC base C H' _ la (e2.trans hz) P1 (hS.put e2 e3 (by show base ≤ base + a; omega)) hL
  unfold u_lay at laid
  cases fin : (T q).2.2.2 with
  | false =>
    rw [if_neg (by rw [fin]; decide)] at laid
    exact W.putK C.1 C.2.1 (f := fd) ⟨C.2.2.2.2.1, words _ f7, ⟨_, _, _, found⟩, stat⟩ (by rw [c2]; exact u_store kf k1 k2 laid found desc (hx _).1 (hx _).2) c1 c3 room rfl rfl hd onward
  | true =>
    rw [if_pos fin] at laid
    have same : m.cls = cf := by
      obtain ⟨_, _, c', _, _, _, -, -, g1, -, -, -, g2, -⟩ := Cond.laysFinal_spec laid
      have e1 : c' = cf := by have := found.symm.trans g1; simp at this; exact this.1.symm
      rw [f10] at g2
      rw [← e1]; exact Option.some.inj (C.2.2.2.2.1.symm.trans g2)
    exact W.putFinK C.1 C.2.1 C.2.2.2.2.1 (words _ f7) found stat same C.2.2.2.2.2.2.2.2.2 (by rw [c2]; exact u_fits kf k1 k2 (Or.inr laid) found desc (hx _).1 (hx _).2) c1 c3 room rfl rfl hd onward
theorem cc_get {a ci idx q : Nat} {ty : FieldType} {vs : List Value} {v : Value} (hd : decode Y.2.1 pc = .ok (.getfield idx, 3)) (hf : mm_Fd Y.1.cls idx ci q ty) (ha : h.1 a = (0, ci, vs)) (hlt : a < h.2) (hv : vs[q]? = some v) (kk : cc_R d Y mc ms (pc + 3) ls (v :: st) h k n h') : cc_R d Y mc ms pc ls (.ref a :: st) h k n h' := by
  intro p l e s m args below meth c D tC base C H locs la hz hP hS hL
  obtain ⟨Cn, T, N, ty0, f1, f2, f3, f4, f5, f6, f7, f8, f9⟩ := hf
  exact va_get C.1 C.2.1 C.2.2.2.2.2.1 f2 C.2.2.2.2.1 C.2.2.2.2.2.2.2.1.1 hP a (cc_obj tC base ha hlt) f1 q f4 (C.2.2.2.2.2.1 _ f7) (fun _ z => z) (v := mm_cv (cc_ad base) v) (by rw [List.getElem?_map, hv]; rfl) hd (kk p l e s m args below meth c D tC base C H locs la hz hP hS hL)
/-- the kinds of rows of references -/
def cc_rk (q : Nat) (C : String) : Prop := (q = 5 ∧ C = "RingingCoins$Law") ∨ (q = 6 ∧ C = "RingingCoins$State")
theorem cc_rent {tC : Nat → ClassId} {base q N : Nat} {C : String} {vs : List Value} (hq : cc_rk q C) : cc_ent tC base (q, N, vs) = .inl (tC q, N, .inr (.inr (.inr (.inr (fun i => (cc_ref (vs.getD i .null)).map (cc_ad base)))))) := by
  rcases hq with ⟨rfl, -⟩ | ⟨rfl, -⟩ <;> rfl
theorem cc_rty {tC : Nat → ClassId} {q : Nat} {C : String} (hq : cc_rk q C) : (mm_tys tC)[q - 1]? = some (tC q, .object C) := by
  rcases hq with ⟨rfl, rfl⟩ | ⟨rfl, rfl⟩ <;> rfl
theorem cc_anew {idx : Nat} {C0 : String} {x : Int32} {N q : Nat} (hd : decode Y.2.1 pc = .ok (.anewarray idx, 3)) (hq : cc_rk q C0) (hlk : Cond.classLink Y.1.cls idx C0 ∈ mm_T0) (hx : ¬ x < 0) (hN : x.toNatClampNeg = N) (hb : N ≤ 1000) (hk : k + 1 ≤ mc) (hn : n + N ≤ ms) (kk : cc_R d Y mc ms (pc + 3) ls (.ref h.2 :: st) (cc_up h.1 h.2 (q, N, List.replicate N .null), h.2 + 1) (k + 1) (n + N) h') : cc_R d Y mc ms pc ls (.int x :: st) h k n h' := by
  subst hN
  intro p l e s m args below meth c D tC base C H locs la hz hP hS hL
  have hK := C.2.2.2.2.2.2.2.1
  have over : (Cond.arrayOver (.object C0)).before args s = true := by
    rcases hq with ⟨-, rfl⟩ | ⟨-, rfl⟩
    · exact va_AO.use hK.2.1.1
    · exact va_AO.use hK.2.1.2
  refine W.anew C.1 C.2.1 C.2.2.2.2.1 (C.2.2.2.2.2.1 _ hlk) over rfl hd rfl hx (by omega) hk hn fun cA kA comp g1 g2 g3 g4 => ?_
  obtain ⟨kA', comp', r1, r2, r3, r4⟩ := (hK.1.2 (q - 1) _ (cc_rty hq)).2
  have ec : cA = tC q := Option.some.inj (g1.symm.trans r4)
  generalize hH1 : H.push ({ cls := cA, slots := Array.replicate x.toNatClampNeg .null, vm := .none } : Cell) = H1
  have z1 : H1.size = H.size + 1 := by rw [← hH1, Array.size_push]
  have e1 : H1[H.size]? = some (arrV cA x.toNatClampNeg (fun _ => .null)) := by rw [← hH1, Array.getElem?_push_size, ← arrV_new]
  have o1 : ∀ q : Nat, q < H.size → H1[q]? = H[q]? := fun q hq => by rw [← hH1, Array.getElem?_push, if_neg (Nat.ne_of_lt hq)]
  have hkp : ∀ (k : Nat) (y : Nat × va_E), (cc_w tC base h)[k]? = some y → H1[y.1]? = H[y.1]? := fun k y hy => o1 y.1 ((hP k y hy).lt)
  have P1 : va_P D vwCl (cc_w tC base (cc_up h.1 h.2 (q, x.toNatClampNeg, List.replicate x.toNatClampNeg .null), h.2 + 1)) H1 := by
    rw [← cc_w_push tC base h (cc_rent hq)]
    refine (hP.kept hkp).app (fun k y hy => ?_)
    have hzk : k < 1 := (List.getElem?_eq_some_iff.mp hy).1
    rw [show k = 0 by omega] at hy
    cases hy
    show H1[base + h.2]? = some (vp_cell _ _)
    rw [vp_cell_q, ← hz, e1, ec]
    congr 2
    funext i
    have : (List.replicate x.toNatClampNeg Value.null).getD i .null = .null := by
      rw [List.getD_eq_getElem?_getD, List.getElem?_replicate]
      split <;> rfl
    rw [this]; rfl
  have S1 : va_S (fun q => base ≤ q) s.heap H1 locs := ⟨Nat.le_trans hS.1 (by omega), fun y h1 h2 => (o1 y (Nat.lt_of_lt_of_le h1 hS.1)).trans (hS.2.1 y h1 h2), hS.2.2⟩
  have K := kk p l e s m args below meth c D tC base C H1 locs la (by dsimp only; omega) P1 S1 hL
  rw [hz]
  exact K
theorem cc_ast {a b ci q N : Nat} {vs fs : List Value} {i : Int32} {C0 : String} {T0 : u_T} {N0 : Nat} (j : Nat) (hd : decode Y.2.1 pc = .ok (.aastore, 1)) (hq : cc_rk q C0) (hc : vwCl[ci]? = some (C0, T0, N0)) (ha : h.1 a = (q, N, vs)) (hlt : a < h.2) (hb : h.1 b = (0, ci, fs)) (hlb : b < h.2) (hi : i = nI j) (hj : j < N) (hN : vs.length = N) (hN2 : N ≤ 1000) (kk : cc_R d Y mc ms (pc + 1) ls st (cc_up h.1 a (q, N, vs.set j (.ref b)), h.2) k n h') : cc_R d Y mc ms pc ls (.ref b :: .int i :: .ref a :: st) h k n h' := by
  intro p l e s m args below meth c D tC base C H locs la hz hP hS hL
  subst hi
  have hK := C.2.2.2.2.2.2.2.1.1
  have hD := cc_D tC base h
  have here : (cc_w tC base h)[a]? = some (base + a, .inl (tC q, N, .inr (.inr (.inr (.inr (fun i => (cc_ref (vs.getD i .null)).map (cc_ad base))))))) := by
    rw [cc_w_at tC base h hlt, ha, cc_rent hq]
  have there := cc_obj tC base hb hlb
  have cl1 : (nI j).toNatClampNeg = j := nI_clamp (by omega)
  have inn := vp_in_nI hj (show N < 2147483648 by omega)
  have pos : ¬ nI j < 0 := fun z => inn (Or.inl z)
  obtain ⟨r', hr', cv, v1, v2, v3, -⟩ := hP b _ there
  have cls := (hK.1 ci _ hc).2
  obtain ⟨kA, comp, q1, q2, q3, -⟩ := (hK.2 (q - 1) _ (cc_rty hq)).2
  obtain rfl : comp = D.1 ci := Option.some.inj (q3.symm.trans cls.1)
  obtain ⟨kC, kC1, -⟩ := cls.2
  refine W.aast C.1 C.2.1 (hP a _ here) (fun z y => by cases y) (fun y => by cases y) q1 q2 rfl kC1 ⟨pos, by show _ < (arrV _ _ _).slots.size; rw [arrV_size, cl1]; exact hj⟩ v1 (fun z y => by rw [v3] at y; cases y) (by rw [v2]; exact kC1) (by rw [v2]; exact va_assign cls) rfl rfl hd fun H' e1 e2 e3 => ?_
  have P1 : va_P D vwCl (cc_w tC base (cc_up h.1 a (q, N, vs.set j (.ref b)), h.2)) H' := by
    rw [← cc_w_set tC base hlt (cc_rent hq)]
    refine hP.set hD here ?_ e3
    show H'[base + a]? = some (vp_cell _ _)
    rw [e1, vp_cell_q, vp_cell_q, arrV_store, cl1]
    congr 2
    funext y
    by_cases hy : y = j
    · subst hy
      have : (vs.set y (Value.ref b)).getD y .null = .ref b := by
        rw [List.getD_eq_getElem?_getD, List.getElem?_set_self (by omega)]; rfl
      rw [this]
      simp [updV, va_rf, cc_ref, cc_ad]
    · have : (vs.set j (Value.ref b)).getD y .null = vs.getD y .null := by
        rw [List.getD_eq_getElem?_getD, List.getElem?_set_ne (fun z => hy z.symm), ← List.getD_eq_getElem?_getD]
      rw [this]
      simp [updV, hy]
  exact kk p l e s m args below meth c D tC base C H' _ la (e2.trans hz) P1 (hS.put e2 e3 (by show base ≤ base + a; omega)) hL
theorem cc_ald {a b q N : Nat} {vs : List Value} {i : Int32} {C0 : String} (j : Nat) (hd : decode Y.2.1 pc = .ok (.aaload, 1)) (hq : cc_rk q C0) (ha : h.1 a = (q, N, vs)) (hlt : a < h.2) (hi : i = nI j) (hj : j < N) (hN2 : N ≤ 1000) (hv : vs.getD j .null = .ref b) (kk : cc_R d Y mc ms (pc + 1) ls (.ref b :: st) h k n h') : cc_R d Y mc ms pc ls (.int i :: .ref a :: st) h k n h' := by
  intro p l e s m args below meth c D tC base C H locs la hz hP hS hL
  subst hi
  have here : (cc_w tC base h)[a]? = some (base + a, .inl (tC q, N, .inr (.inr (.inr (.inr (fun i => (cc_ref (vs.getD i .null)).map (cc_ad base))))))) := by
    rw [cc_w_at tC base h hlt, ha, cc_rent hq]
  refine va_aldq C.1 C.2.1 C.2.2.2.2.2.2.2.1.1 hP a (q - 1) here (cc_rty hq) (vp_in_nI hj (show N < 2147483648 by omega)) hd ?_
  have K := kk p l e s m args below meth c D tC base C H locs la hz hP hS hL
  rw [nI_clamp (by omega), hv]
  exact K
theorem cc_call {b idx mc1 ms1 N : Nat} {as : List Value} (hd : decode Y.2.1 pc = .ok (.invokespecial idx, 3)) (hl : Cond.methodLink Y.1.cls idx Y1.1 ∈ mm_T0) (hin : Cond.instanceMethod Y1.1 ∈ mm_T0) (hco : Cond.code Y1.1 Y1.2.1 Y1.2.2.1 none ∈ mm_T0) (hini : Cond.initialized Y1.1.cls ∈ mm_T0) (hr : Y1.2.2.2 = none) (hnm : Y1.1.name = "<init>") (hpd : Y1.1.cls ≠ "java/lang/invoke/MethodHandle" ∧ Y1.1.cls ≠ "java/lang/invoke/VarHandle" ∧ (parseMethodDescriptor Y1.1.desc).map (fun d => d.parameters.length) = some N) (hml : Y1.2.2.1 ≤ 40) (hst : stk = as.reverse ++ .ref b :: st) (hn : as.length = N) (hc : (st.map fun v => v.category).sum ≤ 8) (hM : cc_M d Y1 mc1 ms1 (.ref b :: as) h h1) (hmc : k + mc1 ≤ mc) (hms : n + ms1 ≤ ms) (kk : cc_R (d + 1) Y mc ms (pc + 3) ls st h1 (k + mc1) (n + ms1) h') : cc_R (d + 1) Y mc ms pc ls stk h k n h' := by
  subst hst
  intro p l e s m args below meth c D tC base C H locs la hz hP hS hL
  have words := C.2.2.2.2.2.1
  have hG : GoodIn mm_T0 (mm_ws Y1) := mm_T0_good (by
    intro w hw
    rcases List.mem_cons.mp hw with rfl | z
    · rw [hr]; exact hco
    · exact z)
  have cw := cwI (R := cc_rm (d + 1) mc ms) (s := s) (args := args) (own := Y.1.cls) (index := idx) (y := Y1.1) (bytes := Y1.2.1) (maxL := Y1.2.2.1) (ws := mm_ws Y1) (rm := cc_rm d mc1 ms1) (mc := mc1) (ms := ms1) (ws' := mm_T0) N words hG (by rw [← hr]; rfl) rfl rfl (words _ hini) (words _ hl) (words _ hin) hnm hpd ⟨Nat.le_refl _, by show 8 + (Y1.2.2.1 + 11) + 60 * d ≤ 60 * (d + 1); omega⟩
  refine va_callv (va_runI (b := base + b) (As := as.map (mm_cv (cc_ad base))) (rest := st.map (mm_cv (cc_ad base))) ⟨C.1, C.2.1, C.2.2.1, C.2.2.2.2.1, words⟩ (hM l D tC base) cw ⟨mm_blind (fun U g mk a q => ⟨q.1, q.2.1, cc_B.same (u := U) (U := U.calling g mk a) rfl q.2.2⟩), fun U hU hW => ⟨rfl, by rw [hU]; exact hz, by rw [hU]; exact hP, cc_B.warm hW C.2.2.2.2.2.2.2.1⟩⟩ rfl (by rw [List.length_map]; exact hn) hL.1 (by simp [mm_cv, cc_ad]) (lv_room (by rw [mm_sumcat]; exact hc)) hd ⟨hmc, hms⟩) hS (fun q _ z => z) (fun q z => z) (fun u t H1 locs1 ht hvm _ hB hz1 ho1 hS1 => ?_)
  rw [ht] at hB
  exact kk p l e s m args below meth c D tC base C H1 locs1 la hB.1 hB.2 hS1 hL
theorem cc_callN {b idx mc1 ms1 N : Nat} {as : List Value} (hd : decode Y.2.1 pc = .ok (.invokespecial idx, 3)) (hl : (Y.1.cls, idx, Y1.1) ∈ cc_nest) (hin : Cond.instanceMethod Y1.1 ∈ mm_T0) (hco : Cond.code Y1.1 Y1.2.1 Y1.2.2.1 none ∈ mm_T0) (hini : Cond.initialized Y1.1.cls ∈ mm_T0) (hr : Y1.2.2.2 = none) (hnm : Y1.1.name = "<init>") (hpd : Y1.1.cls ≠ "java/lang/invoke/MethodHandle" ∧ Y1.1.cls ≠ "java/lang/invoke/VarHandle" ∧ (parseMethodDescriptor Y1.1.desc).map (fun d => d.parameters.length) = some N) (hml : Y1.2.2.1 ≤ 40) (hst : stk = as.reverse ++ .ref b :: st) (hn : as.length = N) (hc : (st.map fun v => v.category).sum ≤ 8) (hM : cc_M d Y1 mc1 ms1 (.ref b :: as) h h1) (hmc : k + mc1 ≤ mc) (hms : n + ms1 ≤ ms) (kk : cc_R (d + 1) Y mc ms (pc + 3) ls st h1 (k + mc1) (n + ms1) h') : cc_R (d + 1) Y mc ms pc ls stk h k n h' := by
  subst hst
  intro p l e s m args below meth c D tC base C H locs la hz hP hS hL
  have words := C.2.2.2.2.2.1
  have hG : GoodIn mm_T0 (mm_ws Y1) := mm_T0_good (by
    intro w hw
    rcases List.mem_cons.mp hw with rfl | z
    · rw [hr]; exact hco
    · exact z)
  have cw := va_cnB (R := cc_rm (d + 1) mc ms) (s := s) (args := args) (own := Y.1.cls) (host := "RingingCoins") (index := idx) (y := Y1.1) (bytes := Y1.2.1) (maxL := Y1.2.2.1) (ret := none) (ws := mm_ws Y1) (rm := cc_rm d mc1 ms1) (mc := mc1) (ms := ms1) (ws' := mm_T0) N words hG (by rw [← hr]; rfl) rfl rfl (C.2.2.2.2.2.2.2.1.2.2 _ hl) (words _ hini) hpd ⟨Nat.le_refl _, by show 8 + (Y1.2.2.1 + 11) + 60 * d ≤ 60 * (d + 1); omega⟩
  refine va_callv (va_runIN (b := base + b) (As := as.map (mm_cv (cc_ad base))) (rest := st.map (mm_cv (cc_ad base))) ⟨C.1, C.2.1, C.2.2.1, C.2.2.2.2.1, words⟩ (hM l D tC base) ⟨cw, hnm, words _ hin⟩ ⟨mm_blind (fun U g mk a q => ⟨q.1, q.2.1, cc_B.same (u := U) (U := U.calling g mk a) rfl q.2.2⟩), fun U hU hW => ⟨rfl, by rw [hU]; exact hz, by rw [hU]; exact hP, cc_B.warm hW C.2.2.2.2.2.2.2.1⟩⟩ rfl (by rw [List.length_map]; exact hn) hL.1 (by simp [mm_cv, cc_ad]) (lv_room (by rw [mm_sumcat]; exact hc)) hd ⟨hmc, hms⟩) hS (fun q _ z => z) (fun q z => z) (fun u t H1 locs1 ht hvm _ hB hz1 ho1 hS1 => ?_)
  rw [ht] at hB
  exact kk p l e s m args below meth c D tC base C H1 locs1 la hB.1 hB.2 hS1 hL
end CCF
