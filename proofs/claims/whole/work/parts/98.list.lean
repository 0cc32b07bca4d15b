/-! Constructors: the memory as a list of cells. -/
def cc_L (M : List cc_E) : cc_H := (fun a => M.getD a (9, 0, []), M.length)
theorem cc_L_push (M : List cc_E) (q : cc_E) : (cc_up (cc_L M).1 (cc_L M).2 q, (cc_L M).2 + 1) = cc_L (M ++ [q]) := by
  refine Prod.ext (funext fun a => ?_) (by simp [cc_L])
  show (if a = M.length then q else M.getD a (9, 0, [])) = (M ++ [q]).getD a (9, 0, [])
  rw [List.getD_eq_getElem?_getD, List.getD_eq_getElem?_getD]
  by_cases h : a = M.length
  · subst h
    rw [if_pos rfl, List.getElem?_append_right (Nat.le_refl _), Nat.sub_self]; rfl
  · rw [if_neg h]
    by_cases h2 : a < M.length
    · rw [List.getElem?_append_left h2]
    · rw [List.getElem?_eq_none (by omega), List.getElem?_eq_none (by simp; omega)]
theorem cc_L_set {M : List cc_E} {a : Nat} {q : cc_E} (ha : a < M.length) : (cc_up (cc_L M).1 a q, (cc_L M).2) = cc_L (M.set a q) := by
  refine Prod.ext (funext fun b => ?_) (by simp [cc_L])
  show (if b = a then q else M.getD b (9, 0, [])) = (M.set a q).getD b (9, 0, [])
  rw [List.getD_eq_getElem?_getD, List.getD_eq_getElem?_getD]
  by_cases h : b = a
  · subst h
    rw [if_pos rfl, List.getElem?_set_self ha]; rfl
  · rw [if_neg h, List.getElem?_set_ne (fun z => h z.symm)]
theorem cc_L_at {M : List cc_E} {a : Nat} {q : cc_E} (h : M[a]? = some q) : (cc_L M).1 a = q ∧ a < (cc_L M).2 := by
  refine ⟨?_, (List.getElem?_eq_some_iff.mp h).1⟩
  show M.getD a (9, 0, []) = q
  rw [List.getD_eq_getElem?_getD, h]; rfl
theorem cc_T_at {P K : List cc_E} {o : cc_E} {N : Nat} (hN : P.length = N) : (P ++ o :: K)[N]? = some o := by
  rw [← hN, List.getElem?_append_right (Nat.le_refl _), Nat.sub_self]; rfl
theorem cc_T_set {P K : List cc_E} {o o2 : cc_E} {N : Nat} (hN : P.length = N) : (P ++ o :: K).set N o2 = P ++ o2 :: K := by
  rw [← hN, List.set_append_right _ _ (Nat.le_refl _), Nat.sub_self]; rfl
theorem cc_T_app {P K K1 : List cc_E} {o : cc_E} : (P ++ o :: K) ++ K1 = P ++ o :: (K ++ K1) := by simp
/-- what the tables say of a constructor that is called -/
def cc_CI (Y1 : mm_Y) (N : Nat) : Prop := Cond.instanceMethod Y1.1 ∈ mm_T0 ∧ Cond.code Y1.1 Y1.2.1 Y1.2.2.1 none ∈ mm_T0 ∧ Cond.initialized Y1.1.cls ∈ mm_T0 ∧ Y1.2.2.2 = none ∧ Y1.1.name = "<init>" ∧ (Y1.1.cls ≠ "java/lang/invoke/MethodHandle" ∧ Y1.1.cls ≠ "java/lang/invoke/VarHandle" ∧ (parseMethodDescriptor Y1.1.desc).map (fun d => d.parameters.length) = some N) ∧ Y1.2.2.1 ≤ 40
section CCL
variable {d : Nat} {Y Y1 : mm_Y} {mc ms pc : Nat} {ls : List (Option Value)} {st stk : List Value} {h1 : cc_H} {k n : Nat} {h' : cc_H} {M M2 P K K2 : List cc_E} {o : cc_E} {N c : Nat}
theorem cc_newL {idx ci nf : Nat} {fs : List Value} (hd : decode Y.2.1 pc = .ok (.new idx, 3)) (hf : cc_Nw Y.1.cls idx ci nf fs) (hfs : ∀ ad, fs.map (mm_cv ad) = fs) (hk : k + 1 ≤ mc) (hn : n + nf ≤ ms) (hc : M.length = c) (kk : cc_R d Y mc ms (pc + 3) ls (.ref c :: st) (cc_L (M ++ [(0, ci, fs)])) (k + 1) (n + nf) h') : cc_R d Y mc ms pc ls st (cc_L M) k n h' := by
  subst hc
  refine cc_new hd hf hfs hk hn ?_
  rw [cc_L_push]
  exact kk
theorem cc_newaL {t : ArrayType} {x : Int32} {len q : Nat} (hd : decode Y.2.1 pc = .ok (.newarray t, 2)) (hq : cc_kd t = q) (hq9 : 1 ≤ q ∧ q ≤ 4) (harr : Cond.arrayClass (newarray.typeOf t) ∈ mm_T0) (hx : ¬ x < 0) (hN : x.toNatClampNeg = len) (hb : len ≤ 60000) (hk : k + 1 ≤ mc) (hn : n + len ≤ ms) (hc : M.length = c) (kk : cc_R d Y mc ms (pc + 2) ls (.ref c :: st) (cc_L (M ++ [(q, len, [])])) (k + 1) (n + len) h') : cc_R d Y mc ms pc ls (.int x :: st) (cc_L M) k n h' := by
  subst hc
  refine cc_newa hd hq hq9 harr hx hN hb hk hn ?_
  rw [cc_L_push]
  exact kk
theorem cc_anewL {idx : Nat} {C0 : String} {x : Int32} {len q : Nat} (hd : decode Y.2.1 pc = .ok (.anewarray idx, 3)) (hq : cc_rk q C0) (hlk : Cond.classLink Y.1.cls idx C0 ∈ mm_T0) (hx : ¬ x < 0) (hN : x.toNatClampNeg = len) (hb : len ≤ 1000) (hk : k + 1 ≤ mc) (hn : n + len ≤ ms) (hc : M.length = c) (kk : cc_R d Y mc ms (pc + 3) ls (.ref c :: st) (cc_L (M ++ [(q, len, List.replicate len .null)])) (k + 1) (n + len) h') : cc_R d Y mc ms pc ls (.int x :: st) (cc_L M) k n h' := by
  subst hc
  refine cc_anew hd hq hlk hx hN hb hk hn ?_
  rw [cc_L_push]
  exact kk
theorem cc_putL {a ci idx q : Nat} {ty : FieldType} {vs : List Value} {v : Value} (hd : decode Y.2.1 pc = .ok (.putfield idx, 3)) (hf : cc_Fd Y.1.cls idx ci q ty) (ha : M[a]? = some (0, ci, vs)) (hq : q < vs.length) (hx : cc_fit ty v) (hM : M.set a (0, ci, vs.set q v) = M2) (kk : cc_R d Y mc ms (pc + 3) ls st (cc_L M2) k n h') : cc_R d Y mc ms pc ls (v :: .ref a :: st) (cc_L M) k n h' := by
  subst hM
  refine cc_put hd hf (cc_L_at ha).1 (cc_L_at ha).2 hq hx ?_
  rw [cc_L_set (cc_L_at ha).2]
  exact kk
theorem cc_getL {a ci idx q : Nat} {ty : FieldType} {vs : List Value} {v : Value} (hd : decode Y.2.1 pc = .ok (.getfield idx, 3)) (hf : mm_Fd Y.1.cls idx ci q ty) (ha : M[a]? = some (0, ci, vs)) (hv : vs[q]? = some v) (kk : cc_R d Y mc ms (pc + 3) ls (v :: st) (cc_L M) k n h') : cc_R d Y mc ms pc ls (.ref a :: st) (cc_L M) k n h' :=
  cc_get hd hf (cc_L_at ha).1 (cc_L_at ha).2 hv kk
theorem cc_astL {a b ci q len : Nat} {vs fs : List Value} {i : Int32} {C0 : String} {T0 : u_T} {N0 : Nat} (j : Nat) (hd : decode Y.2.1 pc = .ok (.aastore, 1)) (hq : cc_rk q C0) (hc : vwCl[ci]? = some (C0, T0, N0)) (ha : M[a]? = some (q, len, vs)) (hb : M[b]? = some (0, ci, fs)) (hi : i = nI j) (hj : j < len) (hN : vs.length = len) (hN2 : len ≤ 1000) (hM : M.set a (q, len, vs.set j (.ref b)) = M2) (kk : cc_R d Y mc ms (pc + 1) ls st (cc_L M2) k n h') : cc_R d Y mc ms pc ls (.ref b :: .int i :: .ref a :: st) (cc_L M) k n h' := by
  subst hM
  refine cc_ast j hd hq hc (cc_L_at ha).1 (cc_L_at ha).2 (cc_L_at hb).1 (cc_L_at hb).2 hi hj hN hN2 ?_
  rw [cc_L_set (cc_L_at ha).2]
  exact kk
theorem cc_aldL {a b q len : Nat} {vs : List Value} {i : Int32} {C0 : String} (j : Nat) (hd : decode Y.2.1 pc = .ok (.aaload, 1)) (hq : cc_rk q C0) (ha : M[a]? = some (q, len, vs)) (hi : i = nI j) (hj : j < len) (hN2 : len ≤ 1000) (hv : vs.getD j .null = .ref b) (kk : cc_R d Y mc ms (pc + 1) ls (.ref b :: st) (cc_L M) k n h') : cc_R d Y mc ms pc ls (.int i :: .ref a :: st) (cc_L M) k n h' :=
  cc_ald j hd hq (cc_L_at ha).1 (cc_L_at ha).2 hi hj hN2 hv kk
theorem cc_callL {b idx mc1 ms1 r : Nat} {as : List Value} (hd : decode Y.2.1 pc = .ok (.invokespecial idx, 3)) (hl : Cond.methodLink Y.1.cls idx Y1.1 ∈ mm_T0) (hC : cc_CI Y1 r) (hst : stk = as.reverse ++ .ref b :: st) (hn : as.length = r) (hc : (st.map fun v => v.category).sum ≤ 8) (hM : cc_M d Y1 mc1 ms1 (.ref b :: as) (cc_L M) h1) (hmc : k + mc1 ≤ mc) (hms : n + ms1 ≤ ms) (kk : cc_R (d + 1) Y mc ms (pc + 3) ls st h1 (k + mc1) (n + ms1) h') : cc_R (d + 1) Y mc ms pc ls stk (cc_L M) k n h' :=
  cc_call hd hl hC.1 hC.2.1 hC.2.2.1 hC.2.2.2.1 hC.2.2.2.2.1 hC.2.2.2.2.2.1 hC.2.2.2.2.2.2 hst hn hc hM hmc hms kk
theorem cc_callLN {b idx mc1 ms1 r : Nat} {as : List Value} (hd : decode Y.2.1 pc = .ok (.invokespecial idx, 3)) (hl : (Y.1.cls, idx, Y1.1) ∈ cc_nest) (hC : cc_CI Y1 r) (hst : stk = as.reverse ++ .ref b :: st) (hn : as.length = r) (hc : (st.map fun v => v.category).sum ≤ 8) (hM : cc_M d Y1 mc1 ms1 (.ref b :: as) (cc_L M) h1) (hmc : k + mc1 ≤ mc) (hms : n + ms1 ≤ ms) (kk : cc_R (d + 1) Y mc ms (pc + 3) ls st h1 (k + mc1) (n + ms1) h') : cc_R (d + 1) Y mc ms pc ls stk (cc_L M) k n h' :=
  cc_callN hd hl hC.1 hC.2.1 hC.2.2.1 hC.2.2.2.1 hC.2.2.2.2.1 hC.2.2.2.2.2.1 hC.2.2.2.2.2.2 hst hn hc hM hmc hms kk
theorem cc_eqL (hM : M = M2) (kk : cc_R d Y mc ms pc ls st (cc_L M2) k n h') : cc_R d Y mc ms pc ls st (cc_L M) k n h' := by
  subst hM; exact kk
theorem cc_newT {idx ci nf : Nat} {fs : List Value} (hd : decode Y.2.1 pc = .ok (.new idx, 3)) (hN : P.length = N) (hf : cc_Nw Y.1.cls idx ci nf fs) (hfs : ∀ ad, fs.map (mm_cv ad) = fs) (hk : k + 1 ≤ mc) (hn : n + nf ≤ ms) (hc : N + (K.length + 1) = c) (kk : cc_R d Y mc ms (pc + 3) ls (.ref c :: st) (cc_L (P ++ o :: (K ++ [(0, ci, fs)]))) (k + 1) (n + nf) h') : cc_R d Y mc ms pc ls st (cc_L (P ++ o :: K)) k n h' := by
  refine cc_newL hd hf hfs hk hn (c := c) (by rw [← hc, ← hN]; simp) ?_
  rw [cc_T_app]
  exact kk
theorem cc_newaT {t : ArrayType} {x : Int32} {len q : Nat} (hd : decode Y.2.1 pc = .ok (.newarray t, 2)) (hN : P.length = N) (hq : cc_kd t = q) (hq9 : 1 ≤ q ∧ q ≤ 4) (harr : Cond.arrayClass (newarray.typeOf t) ∈ mm_T0) (hx : ¬ x < 0) (hL : x.toNatClampNeg = len) (hb : len ≤ 60000) (hk : k + 1 ≤ mc) (hn : n + len ≤ ms) (hK : K ++ [(q, len, [])] = K2) (hc : N + (K.length + 1) = c) (kk : cc_R d Y mc ms (pc + 2) ls (.ref c :: st) (cc_L (P ++ o :: K2)) (k + 1) (n + len) h') : cc_R d Y mc ms pc ls (.int x :: st) (cc_L (P ++ o :: K)) k n h' := by
  subst hK
  refine cc_newaL hd hq hq9 harr hx hL hb hk hn (c := c) (by rw [← hc, ← hN]; simp) ?_
  rw [cc_T_app]
  exact kk
theorem cc_putT {ci idx q : Nat} {ty : FieldType} {vs vs2 : List Value} {v : Value} (hd : decode Y.2.1 pc = .ok (.putfield idx, 3)) (hN : P.length = N) (hf : cc_Fd Y.1.cls idx ci q ty) (hq : q < vs.length) (hx : cc_fit ty v) (hF : vs.set q v = vs2) (kk : cc_R d Y mc ms (pc + 3) ls st (cc_L (P ++ (0, ci, vs2) :: K)) k n h') : cc_R d Y mc ms pc ls (v :: .ref N :: st) (cc_L (P ++ (0, ci, vs) :: K)) k n h' := by
  subst hF
  exact cc_putL hd hf (cc_T_at hN) hq hx (cc_T_set hN) kk
theorem cc_callT {b idx mc1 ms1 r : Nat} {as : List Value} {x : cc_E} {K1 : List cc_E} (hd : decode Y.2.1 pc = .ok (.invokespecial idx, 3)) (hl : Cond.methodLink Y.1.cls idx Y1.1 ∈ mm_T0) (hC : cc_CI Y1 r) (hst : stk = as.reverse ++ .ref b :: st) (hn : as.length = r) (hc : (st.map fun v => v.category).sum ≤ 8) (hM : cc_M d Y1 mc1 ms1 (.ref b :: as) (cc_L ((P ++ o :: K) ++ [x])) (cc_L ((P ++ o :: K) ++ K1))) (hmc : k + mc1 ≤ mc) (hms : n + ms1 ≤ ms) (hK : K ++ K1 = K2) (kk : cc_R (d + 1) Y mc ms (pc + 3) ls st (cc_L (P ++ o :: K2)) (k + mc1) (n + ms1) h') : cc_R (d + 1) Y mc ms pc ls stk (cc_L (P ++ o :: (K ++ [x]))) k n h' := by
  subst hK
  rw [← cc_T_app]
  refine cc_callL hd hl hC hst hn hc hM hmc hms ?_
  rw [cc_T_app]
  exact kk
theorem cc_callTN {b idx mc1 ms1 r : Nat} {as : List Value} {x : cc_E} {K1 : List cc_E} (hd : decode Y.2.1 pc = .ok (.invokespecial idx, 3)) (hl : (Y.1.cls, idx, Y1.1) ∈ cc_nest) (hC : cc_CI Y1 r) (hst : stk = as.reverse ++ .ref b :: st) (hn : as.length = r) (hc : (st.map fun v => v.category).sum ≤ 8) (hM : cc_M d Y1 mc1 ms1 (.ref b :: as) (cc_L ((P ++ o :: K) ++ [x])) (cc_L ((P ++ o :: K) ++ K1))) (hmc : k + mc1 ≤ mc) (hms : n + ms1 ≤ ms) (hK : K ++ K1 = K2) (kk : cc_R (d + 1) Y mc ms (pc + 3) ls st (cc_L (P ++ o :: K2)) (k + mc1) (n + ms1) h') : cc_R (d + 1) Y mc ms pc ls stk (cc_L (P ++ o :: (K ++ [x]))) k n h' := by
  subst hK
  rw [← cc_T_app]
  refine cc_callLN hd hl hC hst hn hc hM hmc hms ?_
  rw [cc_T_app]
  exact kk
end CCL
theorem cc_T_len {P K : List cc_E} {o : cc_E} {N c : Nat} (hN : P.length = N) (hc : N + (K.length + 1) = c) : (P ++ o :: K).length = c := by
  rw [List.length_append, hN, ← hc]; rfl
theorem cc_fit_i {x : Int32} : cc_fit .int (.int x) := fun ad => ⟨rfl, rfl⟩
theorem cc_fit_a {t : FieldType} {a : Nat} : cc_fit (.array t) (.ref a) := fun ad => ⟨rfl, rfl⟩
theorem cc_fit_o {C : String} {a : Nat} : cc_fit (.object C) (.ref a) := fun ad => ⟨rfl, rfl⟩
