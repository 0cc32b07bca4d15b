/-! The law: from its entry to the loop. -/
section LKS
variable {p : Program} {l : Launch} {e : Env} {s : State} {m : MethodId} {below : List Frame} {meth : Method} {c : Code} {b L : Nat} {xs : Nat → Int32} {D : va_G} {tC : Nat → ClassId} {pc k n : Nat} {H : Heap} {locs : List Loc} {la : Array Slot} {st : List Value} {Q : State → Prop} {M M1 : List cc_E}
theorem lk_words (C : lw_At p s m meth c b L xs) : ∀ w ∈ mm_T0, w.before #[Value.ref b] s = true := fun w hw => C.2.2.2.2.2.1 w (List.mem_filter.mp hw).1
theorem lk_new {idx ci N : Nat} {fs : List Value} (C : lw_At p s m meth c b L xs) (B : cc_B D tC s) (hd : decode code pc = .ok (.new idx, 3)) (hf : cc_Nw R_law idx ci N fs) (hfs : ∀ ad, fs.map (mm_cv ad) = fs) (hk : k + 1 ≤ 600000) (hn : n + N ≤ 7302250) (hz : H.size = s.heap.size + M.length) (hP : va_P D vwCl (cc_w tC s.heap.size (cc_L M)) H) (hS : va_S (ll_A s) s.heap H locs)
    (kk : ∀ H1 : Heap, H1.size = s.heap.size + (M ++ [((0, ci, fs) : cc_E)]).length → va_P D vwCl (cc_w tC s.heap.size (cc_L (M ++ [(0, ci, fs)]))) H1 → va_S (ll_A s) s.heap H1 locs → W p l e room_1 s m #[Value.ref b] below meth c H1 locs (k + 1) (n + N) Q (F0 m (pc + 3) la (.ref (s.heap.size + M.length) :: st))) : W p l e room_1 s m #[Value.ref b] below meth c H locs k n Q (F0 m pc la st) := by
  obtain ⟨Cn, T, ty, f1, f2, f3, f4, f5, f6, f7⟩ := hf
  have words := lk_words C
  have hKn := B.1.1 ci _ f1
  refine W.newcK C.1 C.2.1 C.2.2.2.2.1 (words _ f4) (words _ f5) (words _ f6) rfl hd hk hn hKn.2.1 rfl fun H1 kC hkC e1 z1 o1 => ?_
  have hkp : ∀ (k : Nat) (x : Nat × va_E), (cc_w tC s.heap.size (cc_L M))[k]? = some x → H1[x.1]? = H[x.1]? := fun k x hx => o1 x.1 ((hP k x hx).lt)
  have e0 : cc_ent tC s.heap.size (0, ci, fs) = .inr (ci, fs) := by
    show Sum.inr (ci, fs.map (mm_cv (cc_ad s.heap.size))) = _
    rw [hfs]
  have P1 : va_P D vwCl (cc_w tC s.heap.size (cc_L (M ++ [(0, ci, fs)]))) H1 := by
    rw [← cc_L_push, ← cc_w_push tC s.heap.size (cc_L M) e0]
    refine (hP.kept hkp).app (fun k x hx => ?_)
    have hzk : k < 1 := (List.getElem?_eq_some_iff.mp hx).1
    rw [show k = 0 by omega] at hx
    cases hx
    show va_at D vwCl (s.heap.size + M.length, _) H1
    rw [← hz]
    exact ⟨_, f1, (u_born ty words f2 hKn hkC e1 f3).to f7⟩
  have S1 : va_S (ll_A s) s.heap H1 locs := ⟨Nat.le_trans hS.1 (by omega), fun x h1 h2 => (o1 x (Nat.lt_of_lt_of_le h1 hS.1)).trans (hS.2.1 x h1 h2), hS.2.2⟩
  have K := kk H1 (by rw [List.length_append]; show _ = _ + (_ + 1); omega) P1 S1
  rw [hz]
  exact K
theorem lk_call {a idx d mc1 ms1 : Nat} {Y1 : mm_Y} (C : lw_At p s m meth c b L xs) (B : cc_B D tC s) (hd : decode code pc = .ok (.invokespecial idx, 3)) (hl : Cond.methodLink R_law idx Y1.1 ∈ mm_T0) (hC : cc_CI Y1 0) (hM : cc_M d Y1 mc1 ms1 [.ref a] (cc_L M) (cc_L M1)) (hd3 : d ≤ 1000) (hk : k + mc1 ≤ 600000) (hn : n + ms1 ≤ 7302250) (hc : (st.map fun v => v.category).sum ≤ 8) (hla : la.size = 4) (hz : H.size = s.heap.size + M.length) (hP : va_P D vwCl (cc_w tC s.heap.size (cc_L M)) H) (hS : va_S (ll_A s) s.heap H locs)
    (kk : ∀ (H1 : Heap) (locs1 : List Loc), H1.size = s.heap.size + M1.length → va_P D vwCl (cc_w tC s.heap.size (cc_L M1)) H1 → va_S (ll_A s) s.heap H1 locs1 → W p l e room_1 s m #[Value.ref b] below meth c H1 locs1 (k + mc1) (n + ms1) Q (F0 m (pc + 3) la st)) : W p l e room_1 s m #[Value.ref b] below meth c H locs k n Q (F0 m pc la (.ref (s.heap.size + a) :: st)) := by
  have words := lk_words C
  obtain ⟨hin, hco, hini, hr, hnm, hpd, hml⟩ := hC
  have hG : GoodIn mm_T0 (mm_ws Y1) := mm_T0_good (by
    intro w hw
    rcases List.mem_cons.mp hw with rfl | z
    · rw [hr]; exact hco
    · exact z)
  have cw := cwI (R := room_1) (s := s) (args := #[Value.ref b]) (own := R_law) (index := idx) (y := Y1.1) (bytes := Y1.2.1) (maxL := Y1.2.2.1) (ws := mm_ws Y1) (rm := cc_rm d mc1 ms1) (mc := mc1) (ms := ms1) (ws' := mm_T0) 0 words hG (by rw [← hr]; rfl) rfl rfl (words _ hini) (words _ hl) (words _ hin) hnm hpd ⟨by show d + 1 ≤ 2048; omega, by show 8 + (Y1.2.2.1 + 11) + 60 * d ≤ 84000; omega⟩
  refine va_callv (A0 := ll_A s) (va_runI (b := s.heap.size + a) (As := []) (rest := st) ⟨C.1, C.2.1, C.2.2.2.1, C.2.2.2.2.1, words⟩ (hM l D tC s.heap.size) cw ⟨mm_blind (fun U g mk a q => ⟨q.1, q.2.1, cc_B.same (u := U) (U := U.calling g mk a) rfl q.2.2⟩), fun U hU hW => ⟨rfl, by rw [hU]; exact hz, by rw [hU]; exact hP, cc_B.warm hW B⟩⟩ rfl rfl hla rfl (lv_room hc) hd ⟨hk, hn⟩) hS (fun q _ z => z) (fun q z => z) (fun u t H1 locs1 ht hvm _ hB hz1 ho1 hS1 => ?_)
  rw [ht] at hB
  exact kk H1 locs1 hB.1 hB.2 hS1
end LKS
theorem en_ad_b {base b : Nat} {K V : Nat → Nat} {r : Nat} : en_ad base b K V r 5000 = b := rfl
theorem ws_core {p : Program} {e : Env} {s : State} {m : MethodId} {below : List Frame} {meth : Method} {c : Code} (l : Launch) {b L : Nat} {xs : Nat → Int32} (hL : L ≤ 3584) (C0 : lw_At p s m meth c b L xs) (hZ : ∃ K V r, mm_Z (en_ad s.heap.size b K V r) (ll_A s) s) : W p l e room_1 s m #[Value.ref b] below meth c s.heap [] 0 0 (lw_Z below #[Value.ref b] s) (entryFrame m ([Value.ref b] : List Value).toArray 4) := by
  obtain ⟨D, tC, B⟩ := en_K C0.2.2.2.2.2.1
  obtain ⟨K, V, r, Z⟩ := hZ
  have C : ll_C p s m meth c b L xs D tC (en_ad s.heap.size b K V r) := ⟨C0, B.1, en_Dd (fun q z => z), Z, rfl⟩
  have hl := lv_entry [Value.ref b] (n := 4) (Nat.le_of_ble_eq_true rfl)
  rw [lg_entry_eq]
  have hL0 : mm_has (en_ad s.heap.size b K V r) (lg_sl [Value.ref b] ++ List.replicate (4 - (lg_sl [Value.ref b]).length) Slot.unset).toArray 4 [some (.ref 5000), none, none, none] := by
    refine ⟨hl.1, hl.2.1, fun i w hi => ?_⟩
    match i, hi with
    | 0, hi => cases hi; exact hl.2.2 (0, Value.ref b) (by simp [lv_args])
    | 1, hi => cases hi
    | 2, hi => cases hi
    | 3, hi => cases hi
    | n + 4, hi => cases hi
  have P0 : va_P D vwCl (cc_w tC s.heap.size (cc_L [])) s.heap := fun k q hk => by cases hk
  refine lk_new (M := []) C0 B dL_law_0 nwL_7 (fun _ => rfl) (by decide) (by decide) rfl P0 va_S.rf fun H1 z1 P1 S1 => ?_
  refine lv_dup C0.1 C0.2.1 dL_law_3 rfl ?_
  refine lk_call (a := 0) (Y1 := YX10_init) C0 B dL_law_4 lcL_9 ciX10 (ct_X10 0) (by decide) (by decide) (by decide) (Nat.le_of_ble_eq_true rfl) hL0.1 z1 P1 S1 fun H2 locs2 z2 P2 S2 => ?_
  refine lv_astore_n C0.1 C0.2.1 dL_law_7 rfl hL0.al (by decide) rfl (fun la1 hl1 => ?_)
  have hL1 := mm_has_st1 (v := .ref 0) hL0 rfl hl1
  refine lk_new C0 B dL_law_8 nwL_10 (fun _ => rfl) (by decide) (by decide) z2 P2 S2 fun H3 z3 P3 S3 => ?_
  refine lv_dup C0.1 C0.2.1 dL_law_11 rfl ?_
  refine lk_call (Y1 := YX11_init) C0 B dL_law_12 lcL_12 ciX11 (ct_X11 0 _ _ rfl) (by decide) (by decide) (by decide) (Nat.le_of_ble_eq_true rfl) hL1.1 z3 P3 S3 fun H4 locs4 z4 P4 S4 => ?_
  refine lv_astore_n C0.1 C0.2.1 dL_law_15 rfl hL1.al (by decide) rfl (fun la2 hl2 => ?_)
  have hL2 := mm_has_st1 (v := .ref 165) hL1 rfl hl2
  refine W.widen (k := ll_k) (n := ll_n) (by decide) (by decide) ?_
  have K0 : ll_R p l e s m below meth c b D tC (en_ad s.heap.size b K V r) 16 [some (.ref 5000), some (.ref 0), some (.ref 165), none] [] en_h0 := by
    refine ll_iconst (x := 0) C dL_law_16 (by decide) ?_
    refine ll_istore_n C dL_law_17 rfl (by decide) rfl ?_
    exact ll_loop C hL 513 0 en_h0 rfl en_IV (by omega)
  exact K0 H4 locs4 la2 (en_P P4) S4 hL2
