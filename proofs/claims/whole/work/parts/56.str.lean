/-! Strings: rows, the JDK's length and charAt. -/
def mm_MVS (Y : mm_Y) (n : Nat) : Prop := Cond.code Y.1 Y.2.1 Y.2.2.1 Y.2.2.2 ∈ mm_T0 ∧ Cond.instanceMethod Y.1 ∈ mm_T0 ∧ Cond.selects Y.1.cls Y.1 Y.1 ∈ mm_T0 ∧ Cond.initialized Y.1.cls ∈ mm_T0 ∧ Y.1.cls = "java/lang/String" ∧ (Y.1.cls ≠ "java/lang/invoke/MethodHandle" ∧ Y.1.cls ≠ "java/lang/invoke/VarHandle" ∧ (parseMethodDescriptor Y.1.desc).map (fun d => d.parameters.length) = some n) ∧ Y.2.2.1 ≤ 41
section MST
variable {d : Nat} {Y Y1 : mm_Y} {pc : Nat} {ls : List (Option Value)} {st stk : List Value} {h h1 : mm_H} {v v1 : Option Value} {h' : mm_H} {idx n : Nat} {as : List Value}
theorem mm_ldcS {tx : String} (i : Nat) (hd : decode Y.2.1 pc = .ok (.ldc idx, 2)) (hs : mm_so[i]? = some (Y.1.cls, idx, tx)) (k : mm_R d Y (pc + 2) ls (.ref (1000 + i) :: st) h v h') : mm_R d Y pc ls st h v h' :=
  fun p l e s m args below meth c D tC ad A C H locs la hP hS hL => va_ldcS C.1 C.2.1 C.2.2.2.2.1 (C.2.2.2.2.2.2.2.2.2.2.1.2.2 i _ hs) hd (k p l e s m args below meth c D tC ad A C H locs la hP hS hL)
theorem mm_getSv {i : Nat} (hd : decode Y.2.1 pc = .ok (.getfield idx, 3)) (hf : Cond.fieldLink Y.1.cls idx "java/lang/String" "value" "[B" ∈ mm_T0) (hi : i < 18) (k : mm_R d Y (pc + 3) ls (.ref (2000 + i) :: st) h v h') : mm_R d Y pc ls (.ref (1000 + i) :: st) h v h' :=
  fun p l e s m args below meth c D tC ad A C H locs la hP hS hL => vk_getf C.1 C.2.1 (C.2.2.2.2.2.2.2.2.2.2.1.1.1 i hi).2.2.1 hS C.2.2.2.2.1 (C.2.2.2.2.2.1 _ hf) (fun _ q => q) hd (k p l e s m args below meth c D tC ad A C H locs la hP hS hL)
theorem mm_getSc {i : Nat} (hd : decode Y.2.1 pc = .ok (.getfield idx, 3)) (hf : Cond.fieldLink Y.1.cls idx "java/lang/String" "coder" "B" ∈ mm_T0) (hi : i < 18) (k : mm_R d Y (pc + 3) ls (.int 0 :: st) h v h') : mm_R d Y pc ls (.ref (1000 + i) :: st) h v h' :=
  fun p l e s m args below meth c D tC ad A C H locs la hP hS hL => vk_getf C.1 C.2.1 (C.2.2.2.2.2.2.2.2.2.2.1.1.1 i hi).2.1 hS C.2.2.2.2.1 (C.2.2.2.2.2.1 _ hf) (fun _ q => q) hd (k p l e s m args below meth c D tC ad A C H locs la hP hS hL)
theorem mm_gsCS (hd : decode Y.2.1 pc = .ok (.getstatic idx, 3)) (hf : Cond.fieldLink Y.1.cls idx "java/lang/String" "COMPACT_STRINGS" "Z" ∈ mm_T0) (k : mm_R d Y (pc + 3) ls (.int 1 :: st) h v h') : mm_R d Y pc ls st h v h' :=
  fun p l e s m args below meth c D tC ad A C H locs la hP hS hL => va_gets C.1 C.2.1 C.2.2.2.2.2.2.2.2.2.2.1.2.1.1 hS C.2.2.2.2.1 (C.2.2.2.2.2.1 _ hf) (fun _ q => q) hd (k p l e s m args below meth c D tC ad A C H locs la hP hS hL)
theorem mm_gsSF (hd : decode Y.2.1 pc = .ok (.getstatic idx, 3)) (hf : Cond.fieldLink Y.1.cls idx "jdk/internal/util/Preconditions" "SIOOBE_FORMATTER" "Ljava/util/function/BiFunction;" ∈ mm_T0) (k0 : mm_R d Y (pc + 3) ls (.null :: st) h v h') (k : mm_R d Y (pc + 3) ls (.ref 3000 :: st) h v h') : mm_R d Y pc ls st h v h' := by
  intro p l e s m args below meth c D tC ad A C H locs la hP hS hL
  rcases C.2.2.2.2.2.2.2.2.2.2.1.2.1.2 with z | z
  · exact va_gets C.1 C.2.1 z hS C.2.2.2.2.1 (C.2.2.2.2.2.1 _ hf) (fun _ q => q) hd (k0 p l e s m args below meth c D tC ad A C H locs la hP hS hL)
  · exact va_gets C.1 C.2.1 z hS C.2.2.2.2.1 (C.2.2.2.2.2.1 _ hf) (fun _ q => q) hd (k p l e s m args below meth c D tC ad A C H locs la hP hS hL)
theorem mm_tbS {i j : Nat} (hd : decode Y.2.1 pc = .ok (.baload, 1)) (hi : i < 18) (hj : j < mm_sl.getD i 0) (hn : mm_sl.getD i 0 < 2 ^ 31) (k : mm_R d Y (pc + 1) ls (.int ((mm_sb.getD i []).getD j 0) :: st) h v h') : mm_R d Y pc ls (.int (nI j) :: .ref (2000 + i) :: st) h v h' :=
  fun p l e s m args below meth c D tC ad A C H locs la hP hS hL => va_tb C.1 C.2.1 (C.2.2.2.2.2.2.2.2.2.2.1.1.1 i hi).2.2.2 hS (vp_in_nI hj hn) (by rw [nI_clamp (Nat.lt_trans hj hn)]; rfl) hd (k p l e s m args below meth c D tC ad A C H locs la hP hS hL)
theorem mm_tlS {i : Nat} (hd : decode Y.2.1 pc = .ok (.arraylength, 1)) (hi : i < 18) (k : mm_R d Y (pc + 1) ls (.int (nI (mm_sl.getD i 0)) :: st) h v h') : mm_R d Y pc ls (.ref (2000 + i) :: st) h v h' :=
  fun p l e s m args below meth c D tC ad A C H locs la hP hS hL => va_tlen C.1 C.2.1 (C.2.2.2.2.2.2.2.2.2.2.1.1.1 i hi).2.2.2 hS rfl hd (k p l e s m args below meth c D tC ad A C H locs la hP hS hL)
theorem mm_callVS {i : Nat} (hd : decode Y.2.1 pc = .ok (.invokevirtual idx, 3)) (hl : Cond.methodLink Y.1.cls idx Y1.1 ∈ mm_T0) (hy : mm_MVS Y1 n) (hM : mm_M d Y1 (.ref (1000 + i) :: as) h v1 h1) (hi : i < 18) (hst : stk = as.reverse ++ .ref (1000 + i) :: st) (hn : as.length = n) (hc : (st.map fun v => v.category).sum ≤ 8) (k : mm_R (d + 1) Y (pc + 3) ls (v1.toList ++ st) h1 v h') : mm_R (d + 1) Y pc ls stk h v h' := by
  subst hst
  intro p l e s m args below meth c D tC ad A C H locs la hP hS hL
  obtain ⟨y1, y2, y3, y4, y5, y7, y8⟩ := hy
  have hA := mm_A_in (h := h) C.2.2.2.2.2.2.2.2.2.1 hS C.2.2.2.2.2.2.2.2.1
  have hG : GoodIn mm_T0 (wsV Y.1.cls idx Y1.1.cls Y1.1 (mm_ws Y1)) := mm_T0_good (by
    intro w hw
    rcases List.mem_append.mp hw with z | z
    · simp only [List.mem_cons, List.not_mem_nil, or_false] at z
      rcases z with rfl | rfl | rfl | rfl
      · exact hl
      · exact y2
      · exact y3
      · exact y4
    · rcases List.mem_cons.mp z with rfl | z
      · exact y1
      · exact z)
  have cw := cwV (R := mm_rm (d + 1)) (s := s) (args := args) (rm := mm_rm d) (mc := 0) (ms := 0) (ws' := mm_T0) n C.2.2.2.2.2.1 hG rfl rfl rfl ⟨rfl, y7⟩ ⟨Nat.le_refl _, by show 8 + (Y1.2.2.1 + 11) + 60 * d ≤ 60 * (d + 1); omega⟩
  refine mm_after (h := h) (h1 := h1) (v1 := v1) (rest := st.map (mm_cv ad)) (va_runV (b := ad (1000 + i)) (As := as.map (mm_cv ad)) ⟨C.1, C.2.1, C.2.2.1, C.2.2.2.2.1, C.2.2.2.2.2.1⟩ (hM l D tC ad H.size) cw ⟨mm_blindM, ?_, fun U hU hW => ⟨rfl, by rw [hU], by rw [hU]; exact hP, va_K.moved hW.alike C.2.2.2.2.2.2.2.1, (mm_D h C.2.2.2.2.2.2.2.2.2.1).weaken (fun _ _ _ _ => trivial), mm_Z.go C.2.2.2.2.2.2.2.2.2.2 hS hA hU hW⟩⟩ rfl (by rw [List.length_map]; exact hn) hL.1 (by simp [mm_cv]) (lv_room (by rw [mm_sumcat]; exact hc)) hd ⟨Nat.le_refl _, Nat.le_refl _⟩) hS hA (fun H1 locs1 hP1 hS1 => ?_)
  · have := vk_recv (i := i) C.2.2.2.2.2.2.2.2.2.2.1.1 hi hS
    rw [y5]
    exact this
  · have K := k p l e s m args below meth c D tC ad A C H1 locs1 la hP1 hS1 hL
    rw [List.map_append] at K
    have ev : (v1.map (mm_cv ad)).toList = v1.toList.map (mm_cv ad) := by cases v1 <;> rfl
    rw [ev]
    exact K
end MST
theorem fJ0_38 : Cond.fieldLink RJ0 38 "java/lang/String" "COMPACT_STRINGS" "Z" ∈ mm_T0 := mm_in 597 (by decide +kernel) rfl
theorem fJ0_1053 : Cond.fieldLink RJ0 1053 "jdk/internal/util/Preconditions" "SIOOBE_FORMATTER" "Ljava/util/function/BiFunction;" ∈ mm_T0 := mm_in 613 (by decide +kernel) rfl
theorem fJ0_9 : Cond.fieldLink RJ0 9 "java/lang/String" "value" "[B" ∈ mm_T0 := mm_in 1794 (by decide +kernel) rfl
theorem fJ0_15 : Cond.fieldLink RJ0 15 "java/lang/String" "coder" "B" ∈ mm_T0 := mm_in 1795 (by decide +kernel) rfl
set_option maxRecDepth 100000 in
theorem uJ0_length_8abf5 : mm_MVS YJ0_length_8abf5 0 := ⟨(mm_in 592 rfl rfl), mm_in 590 (by decide +kernel) rfl, mm_in 591 (by decide +kernel) rfl, ini_J0, rfl, ⟨by decide, by decide, by decide +kernel⟩, by decide⟩
set_option maxRecDepth 100000 in
theorem uJ0_coder_7d493 : mm_MVS YJ0_coder_7d493 0 := ⟨(mm_in 596 rfl rfl), mm_in 594 (by decide +kernel) rfl, mm_in 595 (by decide +kernel) rfl, ini_J0, rfl, ⟨by decide, by decide, by decide +kernel⟩, by decide⟩
set_option maxRecDepth 100000 in
theorem uJ0_charAt_5068e : mm_MVS YJ0_charAt_5068e 1 := ⟨(mm_in 602 rfl rfl), mm_in 600 (by decide +kernel) rfl, mm_in 601 (by decide +kernel) rfl, ini_J0, rfl, ⟨by decide, by decide, by decide +kernel⟩, by decide⟩
set_option maxRecDepth 100000 in
theorem uJ0_isLatin1_aae02 : mm_MVS YJ0_isLatin1_aae02 0 := ⟨(mm_in 606 rfl rfl), mm_in 604 (by decide +kernel) rfl, mm_in 605 (by decide +kernel) rfl, ini_J0, rfl, ⟨by decide, by decide, by decide +kernel⟩, by decide⟩
set_option maxRecDepth 100000 in
set_option maxHeartbeats 4000000 in
theorem mJ0_coder (d : Nat) (h : mm_H) (i : Nat) (hi : i < 18) : mm_M d YJ0_coder_7d493 [.ref (1000 + i)] h (some (.int 0)) h := by
  refine mm_M.of [some (.ref (1000 + i))] rfl rfl (Nat.le_of_ble_eq_true rfl) ?_
  refine mm_gsCS dJ0_coder_7d493_0 fJ0_38 ?_
  refine mm_if_eq 13 dJ0_coder_7d493_3 (by decide) (fun c => absurd c (by decide)) (fun c => ?_)
  refine mm_aload_n dJ0_coder_7d493_6 rfl rfl ?_
  refine mm_getSc dJ0_coder_7d493_7 fJ0_15 hi ?_
  refine mm_goto 14 dJ0_coder_7d493_10 (by decide) ?_
  exact mm_zretE dJ0_coder_7d493_14 rfl rfl rfl rfl
set_option maxRecDepth 100000 in
set_option maxHeartbeats 4000000 in
theorem mJ0_isLatin1 (d : Nat) (h : mm_H) (i : Nat) (hi : i < 18) : mm_M d YJ0_isLatin1_aae02 [.ref (1000 + i)] h (some (.int 1)) h := by
  refine mm_M.of [some (.ref (1000 + i))] rfl rfl (Nat.le_of_ble_eq_true rfl) ?_
  refine mm_gsCS dJ0_isLatin1_aae02_0 fJ0_38 ?_
  refine mm_if_eq 17 dJ0_isLatin1_aae02_3 (by decide) (fun c => absurd c (by decide)) (fun c => ?_)
  refine mm_aload_n dJ0_isLatin1_aae02_6 rfl rfl ?_
  refine mm_getSc dJ0_isLatin1_aae02_7 fJ0_15 hi ?_
  refine mm_if_ne 17 dJ0_isLatin1_aae02_10 (by decide) (fun c => absurd rfl c) (fun c => ?_)
  refine mm_iconst (x := 1) dJ0_isLatin1_aae02_13 (by decide) ?_
  refine mm_goto 18 dJ0_isLatin1_aae02_14 (by decide) ?_
  exact mm_zretE dJ0_isLatin1_aae02_18 rfl rfl rfl rfl
theorem sl_lt {i : Nat} (hi : i < 18) : mm_sl.getD i 0 < 100 ∧ (nI (mm_sl.getD i 0) >>> ((0 : Int32) &&& 31)) = nI (mm_sl.getD i 0) := by
  have H : ∀ i, i < 18 → mm_sl.getD i 0 < 100 ∧ (nI (mm_sl.getD i 0) >>> ((0 : Int32) &&& 31)) = nI (mm_sl.getD i 0) := by decide +kernel
  exact H i hi
set_option maxRecDepth 100000 in
set_option maxHeartbeats 4000000 in
theorem mJ0_length (d : Nat) (h : mm_H) (i : Nat) (hi : i < 18) : mm_M (d + 1) YJ0_length_8abf5 [.ref (1000 + i)] h (some (.int (nI (mm_sl.getD i 0)))) h := by
  refine mm_M.of [some (.ref (1000 + i))] rfl rfl (Nat.le_of_ble_eq_true rfl) ?_
  refine mm_aload_n dJ0_length_8abf5_0 rfl rfl ?_
  refine mm_getSv dJ0_length_8abf5_1 fJ0_9 hi ?_
  refine mm_tlS dJ0_length_8abf5_4 hi ?_
  refine mm_aload_n dJ0_length_8abf5_5 rfl rfl ?_
  refine mm_callVS (Y1 := YJ0_coder_7d493) dJ0_length_8abf5_6 lJ0_335 uJ0_coder_7d493 (mJ0_coder d h i hi) hi rfl rfl (by simp [Value.category]) ?_
  refine mm_ishr dJ0_length_8abf5_9 ?_
  exact mm_iretE dJ0_length_8abf5_10 rfl (sl_lt hi).2 rfl
set_option maxRecDepth 100000 in
set_option maxHeartbeats 4000000 in
theorem mJ3_checkIndex (d : Nat) (h : mm_H) (j n : Nat) (hj : j < n) (hn : n < 2 ^ 31) : mm_M d YJ3_checkIndex_8e157 [.int (nI j), .int (nI n), .ref 3000] h (some (.int (nI j))) h := by
  refine mm_M.of [some (.int (nI j)), some (.int (nI n)), some (.ref 3000)] rfl rfl (Nat.le_of_ble_eq_true rfl) ?_
  refine mm_iload_n dJ3_checkIndex_8e157_0 rfl rfl ?_
  refine mm_if_lt 9 dJ3_checkIndex_8e157_1 (by decide) (fun c => absurd c (nI_pos (by omega))) (fun c => ?_)
  refine mm_iload_n dJ3_checkIndex_8e157_4 rfl rfl ?_
  refine mm_iload_n dJ3_checkIndex_8e157_5 rfl rfl ?_
  refine mm_icmp_lt 16 dJ3_checkIndex_8e157_6 (by decide) (fun c2 => ?_) (fun c2 => absurd (nI_lt hj hn) c2)
  refine mm_iload_n dJ3_checkIndex_8e157_16 rfl rfl ?_
  exact mm_iretE dJ3_checkIndex_8e157_17 rfl rfl rfl
set_option maxRecDepth 100000 in
set_option maxHeartbeats 4000000 in
theorem mJ3_checkIndex0 (d : Nat) (h : mm_H) (j n : Nat) (hj : j < n) (hn : n < 2 ^ 31) : mm_M d YJ3_checkIndex_8e157 [.int (nI j), .int (nI n), .null] h (some (.int (nI j))) h := by
  refine mm_M.of [some (.int (nI j)), some (.int (nI n)), some .null] rfl rfl (Nat.le_of_ble_eq_true rfl) ?_
  refine mm_iload_n dJ3_checkIndex_8e157_0 rfl rfl ?_
  refine mm_if_lt 9 dJ3_checkIndex_8e157_1 (by decide) (fun c => absurd c (nI_pos (by omega))) (fun c => ?_)
  refine mm_iload_n dJ3_checkIndex_8e157_4 rfl rfl ?_
  refine mm_iload_n dJ3_checkIndex_8e157_5 rfl rfl ?_
  refine mm_icmp_lt 16 dJ3_checkIndex_8e157_6 (by decide) (fun c2 => ?_) (fun c2 => absurd (nI_lt hj hn) c2)
  refine mm_iload_n dJ3_checkIndex_8e157_16 rfl rfl ?_
  exact mm_iretE dJ3_checkIndex_8e157_17 rfl rfl rfl
set_option maxRecDepth 100000 in
set_option maxHeartbeats 4000000 in
theorem mJ0_checkIndex (d : Nat) (h : mm_H) (j n : Nat) (hj : j < n) (hn : n < 2 ^ 31) : mm_M (d + 1) YJ0_checkIndex_df160 [.int (nI j), .int (nI n)] h none h := by
  refine mm_M.of [some (.int (nI j)), some (.int (nI n))] rfl rfl (Nat.le_of_ble_eq_true rfl) ?_
  refine mm_iload_n dJ0_checkIndex_df160_0 rfl rfl ?_
  refine mm_iload_n dJ0_checkIndex_df160_1 rfl rfl ?_
  refine mm_gsSF dJ0_checkIndex_df160_2 fJ0_1053 ?_ ?_
  · refine mm_cS (Y1 := YJ3_checkIndex_8e157) dJ0_checkIndex_df160_5 lJ0_1059 sJ3_checkIndex_8e157 (mJ3_checkIndex0 d h j n hj hn) rfl rfl (by simp [Value.category]) ?_
    refine mm_pop dJ0_checkIndex_df160_8 rfl ?_
    exact mm_retE dJ0_checkIndex_df160_9 rfl rfl
  · refine mm_cS (Y1 := YJ3_checkIndex_8e157) dJ0_checkIndex_df160_5 lJ0_1059 sJ3_checkIndex_8e157 (mJ3_checkIndex d h j n hj hn) rfl rfl (by simp [Value.category]) ?_
    refine mm_pop dJ0_checkIndex_df160_8 rfl ?_
    exact mm_retE dJ0_checkIndex_df160_9 rfl rfl
set_option maxRecDepth 100000 in
set_option maxHeartbeats 4000000 in
theorem mJ1_charAt (d : Nat) (h : mm_H) (i j : Nat) (hi : i < 18) (hj : j < mm_sl.getD i 0) : mm_M (d + 2) YJ1_charAt_3b067 [.ref (2000 + i), .int (nI j)] h (some (.int ((mm_sb.getD i []).getD j 0))) h := by
  have hn := (sl_lt hi).1
  have hch : ∀ i, i < 18 → ∀ j, j < mm_sl.getD i 0 → ((mm_sb.getD i []).getD j 0 &&& 255).toUInt32.toUInt16.toUInt32.toInt32 = (mm_sb.getD i []).getD j 0 ∧ narrow .char (.int ((mm_sb.getD i []).getD j 0)) = .int ((mm_sb.getD i []).getD j 0) := by decide +kernel
  refine mm_M.of [some (.ref (2000 + i)), some (.int (nI j))] rfl rfl (Nat.le_of_ble_eq_true rfl) ?_
  refine mm_iload_n dJ1_charAt_3b067_0 rfl rfl ?_
  refine mm_aload_n dJ1_charAt_3b067_1 rfl rfl ?_
  refine mm_tlS dJ1_charAt_3b067_2 hi ?_
  refine mm_cS (Y1 := YJ0_checkIndex_df160) dJ1_charAt_3b067_3 lJ1_9 sJ0_checkIndex_df160 (mJ0_checkIndex d h j _ hj (by omega)) rfl rfl (by simp [Value.category]) ?_
  refine mm_aload_n dJ1_charAt_3b067_6 rfl rfl ?_
  refine mm_iload_n dJ1_charAt_3b067_7 rfl rfl ?_
  refine mm_tbS dJ1_charAt_3b067_8 hi hj (by omega) ?_
  refine mm_sipush (x := 255) dJ1_charAt_3b067_9 (by decide) ?_
  refine mm_iand dJ1_charAt_3b067_12 ?_
  refine mm_i2c dJ1_charAt_3b067_13 rfl ?_
  exact mm_zretE dJ1_charAt_3b067_14 rfl (hch i hi j hj).2 (hch i hi j hj).1 rfl
set_option maxRecDepth 100000 in
set_option maxHeartbeats 4000000 in
theorem mJ0_charAt (d : Nat) (h : mm_H) (i j : Nat) (hi : i < 18) (hj : j < mm_sl.getD i 0) : mm_M (d + 3) YJ0_charAt_5068e [.ref (1000 + i), .int (nI j)] h (some (.int ((mm_sb.getD i []).getD j 0))) h := by
  have hch : ∀ i, i < 18 → ∀ j, j < mm_sl.getD i 0 → narrow .char (.int ((mm_sb.getD i []).getD j 0)) = .int ((mm_sb.getD i []).getD j 0) := by decide +kernel
  refine mm_M.of [some (.ref (1000 + i)), some (.int (nI j))] rfl rfl (Nat.le_of_ble_eq_true rfl) ?_
  refine mm_aload_n dJ0_charAt_5068e_0 rfl rfl ?_
  refine mm_callVS (Y1 := YJ0_isLatin1_aae02) dJ0_charAt_5068e_1 lJ0_492 uJ0_isLatin1_aae02 (mJ0_isLatin1 (d + 2) h i hi) hi rfl rfl (by simp [Value.category]) ?_
  refine mm_if_eq 16 dJ0_charAt_5068e_4 (by decide) (fun c => absurd c (by decide)) (fun c => ?_)
  refine mm_aload_n dJ0_charAt_5068e_7 rfl rfl ?_
  refine mm_getSv dJ0_charAt_5068e_8 fJ0_9 hi ?_
  refine mm_iload_n dJ0_charAt_5068e_11 rfl rfl ?_
  refine mm_cS (Y1 := YJ1_charAt_3b067) dJ0_charAt_5068e_12 lJ0_495 sJ1_charAt_3b067 (mJ1_charAt d h i j hi hj) rfl rfl (by simp [Value.category]) ?_
  exact mm_zretE dJ0_charAt_5068e_15 rfl (hch i hi j hj) rfl rfl
