/-! The law: what the start says of strings and statics; the walk. -/
theorem en_adK {base b : Nat} {K V : Nat → Nat} {r i : Nat} (h : i < 18) : en_ad base b K V r (1000 + i) = K i := by
  have h1 : Nat.blt (1000 + i) 216 = false := by rw [Bool.eq_false_iff]; intro z; have := Nat.blt_eq.mp z; omega
  have h2 : Nat.blt (1000 + i) 2000 = true := Nat.blt_eq.mpr (by omega)
  unfold en_ad
  rw [h1, h2, show 1000 + i - 1000 = i by omega]
  rfl
theorem en_adV {base b : Nat} {K V : Nat → Nat} {r i : Nat} (h : i < 18) : en_ad base b K V r (2000 + i) = V i := by
  have h1 : Nat.blt (2000 + i) 216 = false := by rw [Bool.eq_false_iff]; intro z; have := Nat.blt_eq.mp z; omega
  have h2 : Nat.blt (2000 + i) 2000 = false := by rw [Bool.eq_false_iff]; intro z; have := Nat.blt_eq.mp z; omega
  have h3 : Nat.blt (2000 + i) 3000 = true := Nat.blt_eq.mpr (by omega)
  unfold en_ad
  rw [h1, h2, h3, show 2000 + i - 2000 = i by omega]
  rfl
theorem en_Xs {args : Array Value} {s : State} {A : Nat → Prop} {base b : Nat} (hts : ∀ w ∈ lw_tbl, w.before args s = true) (h : (Jvm.Cond.and given_1 narrow_1).before args s = true) (hA : ∀ a : Nat, a < s.heap.size → ¬ A a) : ∃ K V : Nat → Nat, ∀ r, vk_S mm_sl.length mm_sl mm_sb (fun i => en_ad base b K V r (1000 + i)) (fun i => en_ad base b K V r (2000 + i)) A s s.heap ∧ ∀ i q, mm_so[i]? = some q → vk_R q.1 q.2.1 q.2.2 (en_ad base b K V r (1000 + i)) s := by
  obtain ⟨K, V, h1, h2⟩ := en_S h hA
  refine ⟨K, V, fun r => ⟨⟨fun i hi => ?_, fun i j hi hj q => ?_⟩, fun i q hq => ?_⟩⟩
  · have hi : i < 18 := hi
    dsimp only
    rw [en_adK hi, en_adV hi]
    exact h1.1 i hi
  · have hi : i < 18 := hi
    have hj : j < 18 := hj
    dsimp only at q
    rw [en_adK hi, en_adK hj] at q
    exact h1.2 i j hi hj q
  · have hi : i < 18 := (List.getElem?_eq_some_iff.mp hq).1
    have h3 := h2 i hi
    unfold en_tm at h3
    rw [hq] at h3
    rw [en_adK hi]
    exact vk_R.of (A := args) (en_of lw_tbl _ hts en_sr_p _ (List.mem_map.mpr ⟨q, List.mem_of_getElem? hq, rfl⟩)) h3
theorem en_Z {p : Program} {s : State} {m : MethodId} {meth : Method} {c : Code} {b L : Nat} {xs : Nat → Int32} (C0 : lw_At p s m meth c b L xs) : ∃ K V r, mm_Z (en_ad s.heap.size b K V r) (ll_A s) s := by
  have hts := C0.2.2.2.2.2.1
  have hg := C0.2.2.2.2.2.2.2.2.2
  have hA : ∀ a : Nat, a < s.heap.size → ¬ ll_A s a := fun a h z => absurd h (Nat.not_lt.mpr z)
  obtain ⟨K, V, h1⟩ := en_Xs (base := s.heap.size) (b := b) hts hg hA
  have hN : mm_Nn s := fun q hq => va_Nw.of rfl (en_of lw_tbl _ hts en_nn_p _ (List.mem_map.mpr ⟨q, hq, rfl⟩))
  rcases en_SF hts hg hA with z | ⟨t, z⟩
  · exact ⟨K, V, 0, ⟨(h1 0).1, ⟨en_CS hts hg hA, Or.inl z⟩, (h1 0).2⟩, hN⟩
  · exact ⟨K, V, t, ⟨(h1 t).1, ⟨en_CS hts hg hA, Or.inr z⟩, (h1 t).2⟩, hN⟩
theorem whole_start {p : Program} {e : Env} {s : State} {m : MethodId} {below : List Frame} {meth : Method} {c : Code} (l : Launch) {b L : Nat} {xs : Nat → Int32} (hL : L ≤ 3584) (C0 : lw_At p s m meth c b L xs) : W p l e room_1 s m #[Value.ref b] below meth c s.heap [] 0 0 (lw_Z below #[Value.ref b] s) (entryFrame m ([Value.ref b] : List Value).toArray 4) := ws_core l hL C0 (en_Z C0)
