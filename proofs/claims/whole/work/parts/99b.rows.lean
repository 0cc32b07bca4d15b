/-! The law's own body: rows over the memory of both constructors' cells. -/
def ll_A (s : State) : Nat → Prop := fun q => s.heap.size ≤ q
def ll_k : Nat := 216
def ll_n : Nat := 167043
def ll_C (p : Program) (s : State) (m : MethodId) (meth : Method) (c : Code) (b L : Nat) (xs : Nat → Int32) (D : va_G) (tC : Nat → ClassId) (ad : Nat → Nat) : Prop :=
  lw_At p s m meth c b L xs ∧ va_K D vwCl (mm_tys tC) s ∧ va_D (ll_A s) (mm_w tC ad mm_h0) ∧ mm_Z ad (ll_A s) s ∧ ad 5000 = b
/-- from this place the law comes to its end with true -/
def ll_R (p : Program) (l : Launch) (e : Env) (s : State) (m : MethodId) (below : List Frame) (meth : Method) (c : Code) (b : Nat) (D : va_G) (tC : Nat → ClassId) (ad : Nat → Nat) (pc : Nat) (ls : List (Option Value)) (st : List Value) (h : mm_H) : Prop :=
  ∀ (H : Heap) (locs : List Loc) (la : Array Slot), va_P D vwCl (mm_w tC ad h) H → va_S (ll_A s) s.heap H locs → mm_has ad la 4 ls →
    W p l e room_1 s m #[Value.ref b] below meth c H locs ll_k ll_n (lw_Z below #[Value.ref b] s) (F0 m pc la (st.map (mm_cv ad)))
section LLR
variable {p : Program} {l : Launch} {e : Env} {s : State} {m : MethodId} {below : List Frame} {meth : Method} {c : Code} {b L : Nat} {xs : Nat → Int32} {D : va_G} {tC : Nat → ClassId} {ad : Nat → Nat} {pc : Nat} {ls : List (Option Value)} {st stk : List Value} {h h1 : mm_H}
theorem ll_aload_n {q : Fin 4} {i : Nat} {x : Nat} (C : ll_C p s m meth c b L xs D tC ad) (hd : decode code pc = .ok (.aload_n q, 1)) (hi : (q : Nat) = i) (hl : ls[i]? = some (some (.ref x))) (kk : ll_R p l e s m below meth c b D tC ad (pc + 1) ls (.ref x :: st) h) : ll_R p l e s m below meth c b D tC ad pc ls st h :=
  fun H locs la hP hS hL => lv_aload_n C.1.1 C.1.2.1 hd hi (hL.2.2 i _ hl) (kk H locs la hP hS hL)
theorem ll_iload_n {q : Fin 4} {i : Nat} {x : Int32} (C : ll_C p s m meth c b L xs D tC ad) (hd : decode code pc = .ok (.iload_n q, 1)) (hi : (q : Nat) = i) (hl : ls[i]? = some (some (.int x))) (kk : ll_R p l e s m below meth c b D tC ad (pc + 1) ls (.int x :: st) h) : ll_R p l e s m below meth c b D tC ad pc ls st h :=
  fun H locs la hP hS hL => lv_iload_n C.1.1 C.1.2.1 hd hi (hL.2.2 i _ hl) (kk H locs la hP hS hL)
theorem ll_iconst {v : Int} {x : Int32} (C : ll_C p s m meth c b L xs D tC ad) (hd : decode code pc = .ok (.iconst v, 1)) (hv : Int32.ofInt v = x) (kk : ll_R p l e s m below meth c b D tC ad (pc + 1) ls (.int x :: st) h) : ll_R p l e s m below meth c b D tC ad pc ls st h :=
  fun H locs la hP hS hL => lv_iconst C.1.1 C.1.2.1 hd hv (kk H locs la hP hS hL)
theorem ll_bipush {v : Int} {x : Int32} (C : ll_C p s m meth c b L xs D tC ad) (hd : decode code pc = .ok (.bipush v, 2)) (hv : (Int8.ofInt v).toInt32 = x) (kk : ll_R p l e s m below meth c b D tC ad (pc + 2) ls (.int x :: st) h) : ll_R p l e s m below meth c b D tC ad pc ls st h :=
  fun H locs la hP hS hL => lv_bipush C.1.1 C.1.2.1 hd hv (kk H locs la hP hS hL)
theorem ll_iadd {x y z : Int32} (C : ll_C p s m meth c b L xs D tC ad) (hd : decode code pc = .ok (.iadd, 1)) (hz : x + y = z) (kk : ll_R p l e s m below meth c b D tC ad (pc + 1) ls (.int z :: st) h) : ll_R p l e s m below meth c b D tC ad pc ls (.int y :: .int x :: st) h := by
  subst hz
  exact fun H locs la hP hS hL => lv_iadd C.1.1 C.1.2.1 hd (kk H locs la hP hS hL)
theorem ll_isub {x y z : Int32} (C : ll_C p s m meth c b L xs D tC ad) (hd : decode code pc = .ok (.isub, 1)) (hz : x - y = z) (kk : ll_R p l e s m below meth c b D tC ad (pc + 1) ls (.int z :: st) h) : ll_R p l e s m below meth c b D tC ad pc ls (.int y :: .int x :: st) h := by
  subst hz
  exact fun H locs la hP hS hL => lv_isub C.1.1 C.1.2.1 hd (kk H locs la hP hS hL)
theorem ll_iand {x y z : Int32} (C : ll_C p s m meth c b L xs D tC ad) (hd : decode code pc = .ok (.iand, 1)) (hz : x &&& y = z) (kk : ll_R p l e s m below meth c b D tC ad (pc + 1) ls (.int z :: st) h) : ll_R p l e s m below meth c b D tC ad pc ls (.int y :: .int x :: st) h := by
  subst hz
  exact fun H locs la hP hS hL => lv_iand C.1.1 C.1.2.1 hd (kk H locs la hP hS hL)
theorem ll_goto {off : Int} (tgt : Nat) (C : ll_C p s m meth c b L xs D tC ad) (hd : decode code pc = .ok (.goto off, 3)) (ht : (pc : Int) + off = (tgt : Int)) (kk : ll_R p l e s m below meth c b D tC ad tgt ls st h) : ll_R p l e s m below meth c b D tC ad pc ls st h :=
  fun H locs la hP hS hL => lv_goto C.1.1 C.1.2.1 hd ht (kk H locs la hP hS hL)
theorem ll_icmp_gt {x y : Int32} {off : Int} (tgt : Nat) (C : ll_C p s m meth c b L xs D tC ad) (hd : decode code pc = .ok (.if_icmp .gt off, 3)) (ht : (pc : Int) + off = (tgt : Int)) (kt : y < x → ll_R p l e s m below meth c b D tC ad tgt ls st h) (kf : ¬ y < x → ll_R p l e s m below meth c b D tC ad (pc + 3) ls st h) : ll_R p l e s m below meth c b D tC ad pc ls (.int y :: .int x :: st) h :=
  fun H locs la hP hS hL => lv_icmp_gt C.1.1 C.1.2.1 hd ht (fun z => kt z H locs la hP hS hL) (fun z => kf z H locs la hP hS hL)
theorem ll_same {x : Int32} {off : Int} (tgt : Nat) (C : ll_C p s m meth c b L xs D tC ad) (hd : decode code pc = .ok (.if_icmp .eq off, 3)) (ht : (pc : Int) + off = (tgt : Int)) (kt : ll_R p l e s m below meth c b D tC ad tgt ls st h) : ll_R p l e s m below meth c b D tC ad pc ls (.int x :: .int x :: st) h :=
  fun H locs la hP hS hL => lv_icmp_eq C.1.1 C.1.2.1 hd ht (fun _ => kt H locs la hP hS hL) (fun z => absurd rfl z)
theorem ll_tableOut {dflt lo hi : Int} {offs : Array Int} {len : Nat} {x : Int32} (tgt : Nat) (C : ll_C p s m meth c b L xs D tC ad) (hd : decode code pc = .ok (.tableswitch dflt lo hi offs, len)) (h1 : x.toInt < lo ∨ hi < x.toInt) (ht : (pc : Int) + dflt = (tgt : Int)) (kk : ll_R p l e s m below meth c b D tC ad tgt ls st h) : ll_R p l e s m below meth c b D tC ad pc ls (.int x :: st) h :=
  fun H locs la hP hS hL => lv_tableOut C.1.1 C.1.2.1 hd h1 ht (kk H locs la hP hS hL)
theorem ll_tableIn {dflt lo hi : Int} {offs : Array Int} {len : Nat} {x : Int32} {off : Int} (tgt : Nat) (C : ll_C p s m meth c b L xs D tC ad) (hd : decode code pc = .ok (.tableswitch dflt lo hi offs, len)) (h1 : ¬ x.toInt < lo) (h2 : ¬ hi < x.toInt) (ho : offs[(x.toInt - lo).toNat]? = some off) (ht : (pc : Int) + off = (tgt : Int)) (kk : ll_R p l e s m below meth c b D tC ad tgt ls st h) : ll_R p l e s m below meth c b D tC ad pc ls (.int x :: st) h :=
  fun H locs la hP hS hL => lv_tableIn C.1.1 C.1.2.1 hd h1 h2 ho ht (kk H locs la hP hS hL)
theorem ll_istore_n {q : Fin 4} {i : Nat} {x : Int32} (C : ll_C p s m meth c b L xs D tC ad) (hd : decode code pc = .ok (.istore_n q, 1)) (hi : (q : Nat) = i) (hn : i < 4) (hq : mm_nl ls i = true) (kk : ll_R p l e s m below meth c b D tC ad (pc + 1) (ls.set i (some (.int x))) st h) : ll_R p l e s m below meth c b D tC ad pc ls (.int x :: st) h :=
  fun H locs la hP hS hL => lv_istore_n C.1.1 C.1.2.1 hd hi hL.al hn rfl (fun la' hl' => kk H locs la' hP hS (mm_has_st1 (v := .int x) hL hq hl'))
theorem ll_iinc {i : Nat} {v : Int} {x y : Int32} (C : ll_C p s m meth c b L xs D tC ad) (hd : decode code pc = .ok (.iinc i v, 3)) (hl : ls[i]? = some (some (.int x))) (hv : x + Int32.ofInt v = y) (hq : mm_nl ls i = true) (kk : ll_R p l e s m below meth c b D tC ad (pc + 3) (ls.set i (some (.int y))) st h) : ll_R p l e s m below meth c b D tC ad pc ls st h := by
  intro H locs la hP hS hL
  have hn : i < 4 := by
    have := (Array.getElem?_eq_some_iff.mp (hL.2.2 i _ hl)).1
    rw [hL.1] at this
    exact this
  obtain ⟨k0, hk0⟩ := List.getElem?_of_mem (mm_al_in (ad := ad) hn hl)
  exact lv_iinc C.1.1 C.1.2.1 hd hL.al hk0 hv hn rfl (fun la' hl' => kk H locs la' hP hS (mm_has_st1 (v := .int y) hL hq hl'))
theorem ll_slen (C : ll_C p s m meth c b L xs D tC ad) (hd : decode code pc = .ok (.arraylength, 1)) (kk : ll_R p l e s m below meth c b D tC ad (pc + 1) ls (.int (nI L) :: st) h) : ll_R p l e s m below meth c b D tC ad pc ls (.ref 5000 :: st) h := by
  intro H locs la hP hS hL
  have hX := C.1.2.2.2.2.2.2.1
  have hbl := C.1.2.2.2.2.2.2.2.1
  show W p l e room_1 s m #[Value.ref b] below meth c H locs ll_k ll_n _ (F0 m pc la (.ref (ad 5000) :: st.map (mm_cv ad)))
  rw [C.2.2.2.2]
  exact va_slen C.1.1 C.1.2.1 hX hbl (fun z => absurd hbl (Nat.not_lt.mpr z)) hS hd (kk H locs la hP hS hL)
theorem ll_sld {j : Nat} (C : ll_C p s m meth c b L xs D tC ad) (hj : j < L) (hL0 : L ≤ 3584) (hd : decode code pc = .ok (.iaload, 1)) (kk : ll_R p l e s m below meth c b D tC ad (pc + 1) ls (.int (xs j) :: st) h) : ll_R p l e s m below meth c b D tC ad pc ls (.int (nI j) :: .ref 5000 :: st) h := by
  intro H locs la hP hS hL
  have hX := C.1.2.2.2.2.2.2.1
  have hbl := C.1.2.2.2.2.2.2.2.1
  show W p l e room_1 s m #[Value.ref b] below meth c H locs ll_k ll_n _ (F0 m pc la (.int (nI j) :: .ref (ad 5000) :: st.map (mm_cv ad)))
  rw [C.2.2.2.2]
  refine va_sld C.1.1 C.1.2.1 hX hbl (fun z => absurd hbl (Nat.not_lt.mpr z)) hS (vp_in_nI hj (by omega)) hd ?_
  rw [nI_clamp (by omega)]
  exact kk H locs la hP hS hL
/-- one word of the script -/
theorem ll_arg {i j : Nat} {v : Int} {q0 q3 : Fin 4} {pc1 pc2 pc3 pc4 pc5 : Nat} (C : ll_C p s m meth c b L xs D tC ad) (hj : i + j < L) (hL0 : L ≤ 3584) (h0 : ls[0]? = some (some (.ref 5000))) (h3 : ls[3]? = some (some (.int (nI i)))) (d0 : decode code pc = .ok (.aload_n q0, 1)) (e0 : (q0 : Nat) = 0) (p1 : pc + 1 = pc1) (d1 : decode code pc1 = .ok (.iload_n q3, 1)) (e3 : (q3 : Nat) = 3) (p2 : pc1 + 1 = pc2) (hv : Int32.ofInt v = nI j) (d2 : decode code pc2 = .ok (.iconst v, 1)) (p3 : pc2 + 1 = pc3) (d3 : decode code pc3 = .ok (.iadd, 1)) (p4 : pc3 + 1 = pc4) (d4 : decode code pc4 = .ok (.iaload, 1)) (p5 : pc4 + 1 = pc5) (kk : ll_R p l e s m below meth c b D tC ad pc5 ls (.int (xs (i + j)) :: st) h) : ll_R p l e s m below meth c b D tC ad pc ls st h := by
  subst p1; subst p2; subst p3; subst p4; subst p5
  refine ll_aload_n C d0 e0 h0 (ll_iload_n C d1 e3 h3 (ll_iconst C d2 hv (ll_iadd C d3 (z := nI (i + j)) ?_ (ll_sld C hj hL0 d4 kk))))
  exact nI_add i j
theorem ll_argB {i j : Nat} {v : Int} {q0 q3 : Fin 4} {pc1 pc2 pc3 pc4 pc5 : Nat} (C : ll_C p s m meth c b L xs D tC ad) (hj : i + j < L) (hL0 : L ≤ 3584) (h0 : ls[0]? = some (some (.ref 5000))) (h3 : ls[3]? = some (some (.int (nI i)))) (d0 : decode code pc = .ok (.aload_n q0, 1)) (e0 : (q0 : Nat) = 0) (p1 : pc + 1 = pc1) (d1 : decode code pc1 = .ok (.iload_n q3, 1)) (e3 : (q3 : Nat) = 3) (p2 : pc1 + 1 = pc2) (hv : (Int8.ofInt v).toInt32 = nI j) (d2 : decode code pc2 = .ok (.bipush v, 2)) (p3 : pc2 + 2 = pc3) (d3 : decode code pc3 = .ok (.iadd, 1)) (p4 : pc3 + 1 = pc4) (d4 : decode code pc4 = .ok (.iaload, 1)) (p5 : pc4 + 1 = pc5) (kk : ll_R p l e s m below meth c b D tC ad pc5 ls (.int (xs (i + j)) :: st) h) : ll_R p l e s m below meth c b D tC ad pc ls st h := by
  subst p1; subst p2; subst p3; subst p4; subst p5
  refine ll_aload_n C d0 e0 h0 (ll_iload_n C d1 e3 h3 (ll_bipush C d2 hv (ll_iadd C d3 (z := nI (i + j)) ?_ (ll_sld C hj hL0 d4 kk))))
  exact nI_add i j
/-- behind a call of the law -/
theorem ll_after {H : Heap} {locs : List Loc} {la : Array Slot} {st0 rest : List Value} {a : Array Value} {v1 : Option Value} {A : Nat → Prop} {R : Room} {Q : State → Prop} {args : Array Value} {k n : Nat}
    (hr : va_Run p l e R s m args below meth c H locs k n 0 0 (F0 m pc la st0) rest (mm_Qc D tC ad (va_A (mm_w tC ad h) H.size) v1 h1 a) (va_A (mm_w tC ad h) H.size)) (hS : va_S A s.heap H locs) (hA : ∀ q, va_A (mm_w tC ad h) H.size q → A q)
    (kk : ∀ (H1 : Heap) (locs1 : List Loc), va_P D vwCl (mm_w tC ad h1) H1 → va_S A s.heap H1 locs1 → W p l e R s m args below meth c H1 locs1 k n Q (F0 m (pc + 3) la ((v1.map (mm_cv ad)).toList ++ rest))) : W p l e R s m args below meth c H locs k n Q (F0 m pc la st0) := by
  intro T hT X
  obtain ⟨v, st₀, t, T', L, h0, X', hL, e1, e2, ⟨hv, hb, hz, hk⟩, st⟩ := hr T hT X
  cases hv
  rw [h0] at hz hk
  obtain ⟨t2, a1, b1⟩ := kk T'.heap (locs ++ L) (by rw [e1]; exact hb)
    ⟨Nat.le_trans hS.1 (by rw [e1]; exact hz), fun q h1 h2 => by rw [e1, hk q (Nat.lt_of_lt_of_le h1 hS.1) (fun z => h2 (hA q z))]; exact hS.2.1 q h1 h2, fun q hq => by
      rcases List.mem_append.mp hq with h | h
      · exact hS.2.2 q h
      · exact hA _ (hL q h)⟩ T' rfl X'
  exact ⟨t2, st t2 a1, b1⟩
theorem ll_words (C : ll_C p s m meth c b L xs D tC ad) : ∀ w ∈ mm_T0, w.before #[Value.ref b] s = true := fun w hw => C.1.2.2.2.2.2.1 w (List.mem_filter.mp hw).1
theorem ll_call {d b0 ci n idx : Nat} {Y1 : mm_Y} {as : List Value} {v1 : Option Value} (C : ll_C p s m meth c b L xs D tC ad) (hd : decode code pc = .ok (.invokevirtual idx, 3)) (hl : Cond.methodLink R_law idx Y1.1 ∈ mm_T0) (hy : mm_MV Y1 ci n) (hb : mm_sh b0 = (0, ci)) (hst : stk = as.reverse ++ .ref b0 :: st) (hn : as.length = n) (hc : (st.map fun v => v.category).sum ≤ 8) (hM : mm_M d Y1 (.ref b0 :: as) h v1 h1) (hd3 : d ≤ 1000) (kk : ll_R p l e s m below meth c b D tC ad (pc + 3) ls (v1.toList ++ st) h1) : ll_R p l e s m below meth c b D tC ad pc ls stk h := by
  subst hst
  intro H locs la hP hS hL
  obtain ⟨y1, y2, y3, y4, ⟨q, y5, y6⟩, y7, y8⟩ := hy
  have words := ll_words C
  have hA := mm_A_in (h := h) C.2.2.1 hS (fun q z => z)
  have hG : GoodIn mm_T0 (wsV R_law idx Y1.1.cls Y1.1 (mm_ws Y1)) := mm_T0_good (by
    intro w hw
    rcases List.mem_append.mp hw with z | z
    · simp only [List.mem_cons, List.not_mem_nil, or_false] at z
      rcases z with rfl | rfl | rfl | rfl
      · exact hl
      · exact y2
      · exact y3
      · exact y4
    · rcases List.mem_cons.mp z with rfl | z
      · exact y1
      · exact z)
  have cw := cwV (R := room_1) (s := s) (args := #[Value.ref b]) (rm := mm_rm d) (mc := 0) (ms := 0) (ws' := mm_T0) n words hG rfl rfl rfl ⟨rfl, y7⟩ ⟨by show d + 1 ≤ 2048; omega, by show 8 + (Y1.2.2.1 + 11) + 60 * d ≤ 84000; omega⟩
  refine ll_after (h := h) (h1 := h1) (v1 := v1) (rest := st.map (mm_cv ad)) (va_runV (b := ad b0) (As := as.map (mm_cv ad)) ⟨C.1.1, C.1.2.1, C.1.2.2.2.1, C.1.2.2.2.2.1, words⟩ (hM l D tC ad H.size) cw ⟨mm_blindM, ?_, fun U hU hW => ⟨rfl, by rw [hU], by rw [hU]; exact hP, va_K.moved hW.alike C.2.1, (mm_D h C.2.2.1).weaken (fun _ _ _ _ => trivial), mm_Z.go C.2.2.2.1 hS hA hU hW⟩⟩ rfl (by rw [List.length_map]; exact hn) hL.1 (by simp [mm_cv]) (lv_room (by rw [mm_sumcat]; exact hc)) hd ⟨by show ll_k + 0 ≤ 600000; decide, by show ll_n + 0 ≤ 7302250; decide⟩) hS hA (fun H1 locs1 hP1 hS1 => ?_)
  · have := va_recv C.2.1 hP y5 (mm_obj tC ad h hb)
    rw [y6] at this
    exact this
  · have K := kk H1 locs1 la hP1 hS1 hL
    rw [List.map_append] at K
    have ev : (v1.map (mm_cv ad)).toList = v1.toList.map (mm_cv ad) := by cases v1 <;> rfl
    rw [ev]
    exact K
/-- the law's end -/
theorem ll_end (C : ll_C p s m meth c b L xs D tC ad) : ll_R p l e s m below meth c b D tC ad 1329 ls [] h := by
  intro H locs la hP hS hL
  refine lv_iconst (v := 1) C.1.1 C.1.2.1 dL_law_1329 (by decide) ?_
  refine va_forget (fun q hq => hS.2.2 q hq) ?_
  refine W.widen (k := 600000) (n := 7302250) (by decide) (by decide) ?_
  exact lw_ret C.1.1 C.1.2.1 C.1.2.2.1 C.1.2.2.2.2.2.2.2.2.1 dL_law_1330
end LLR
