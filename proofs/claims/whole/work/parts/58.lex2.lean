/-! The class's Text: numbers, words, signs. -/
theorem nI_dif {a b : Nat} (h : b ≤ a) : nI a - nI b = nI (a - b) := by
  obtain ⟨c, rfl⟩ : ∃ c, a = b + c := ⟨a - b, by omega⟩
  rw [nI_as, show b + c - b = c by omega]
theorem va_ldcwS_ {p : Program} {l : Launch} {e : Env} {R : Room} {s : State} {m : MethodId} {args : Array Value} {below : List Frame} {meth : Method} {c : Code} {T : State} {locs : List Loc} {cells slots : Nat} (X : Stand p l e R s m args below meth c T locs cells slots) (hexec : p.tables.exec = Jvm.exec) {own text : String} {index a : Nat} (hown : s.vm.findClass own = some m.cls) (hZ : vk_R own index text a s) {g : JFrame} (hg : g.method = m) (hdg : decode c.code g.pc = .ok (.ldc_w index, 3)) : ∀ target, Steps p.tables e below (T.setTop { g with pc := g.pc + 3, stack := .ref a :: g.stack }) target → Steps p.tables e below (T.setTop g) target := by
  obtain ⟨k, cf, i, a', hk, hcf, hcp, -, hr, hev'⟩ := Cond.stringRef_spec hown hZ.1
  cases hZ.2.symm.trans hev'
  obtain ⟨k', hk', he⟩ := X.warmed.alike.2.2 _ _ hk
  have hr' : k'.resolved[index]? = some (some (.string a)) := by
    rcases X.warmed.entry hk hk' index with h | ⟨h, -⟩
    · rw [h]; exact hr
    · rw [hr] at h; cases h
  intro target hrest
  subst hg
  jvm_step X.here [hexec, hdg, ldc_w.wp_string (e := e) (s := T) (f := g) X.here.top hk' (by rw [he]; exact hcf) hcp hr']
  exact hrest
theorem mm_ldcWS {d : Nat} {Y : mm_Y} {pc : Nat} {ls : List (Option Value)} {st : List Value} {h : mm_H} {v : Option Value} {h' : mm_H} {idx : Nat} {tx : String} (i : Nat) (hd : decode Y.2.1 pc = .ok (.ldc_w idx, 3)) (hs : mm_so[i]? = some (Y.1.cls, idx, tx)) (k : mm_R d Y (pc + 3) ls (.ref (1000 + i) :: st) h v h') : mm_R d Y pc ls st h v h' := by
  intro p l e s m args below meth c D tC ad A C H locs la hP hS hL T hT X
  obtain ⟨t, a, b⟩ := k p l e s m args below meth c D tC ad A C H locs la hP hS hL T hT X
  exact ⟨t, va_ldcwS_ X C.1 C.2.2.2.2.1 (C.2.2.2.2.2.2.2.2.2.2.1.2.2 i _ hs) (g := F0 m pc la (st.map (mm_cv ad))) rfl (by rw [C.2.1]; exact hd) t a, b⟩
set_option maxRecDepth 100000 in
set_option maxHeartbeats 4000000 in
theorem mX8_numberAt (d : Nat) (h : mm_H) (B : Nat → Int32) (n : Nat) (hn : n ≤ 400) (hB : ∀ i, i < n → h.1 1 i = B i) (p k : Nat) (hp : p + k ≤ n) : mm_M d YX8_numberAt [.ref 1, .int (nI p), .int (nI (p + k))] h (some (.int (if 5 < k then -1 else dgv B p k))) h := by
  refine mm_M.of [some (.ref 1), some (.int (nI p)), some (.int (nI (p + k))), none, none] rfl rfl (Nat.le_of_ble_eq_true rfl) ?_
  by_cases h5 : 5 < k
  · rw [if_pos h5]
    refine mm_iload_n dX8_numberAt_0 rfl rfl ?_
    refine mm_iload_n dX8_numberAt_1 rfl rfl ?_
    refine mm_isub dX8_numberAt_2 ?_
    refine mm_cast (st' := [.int (nI k)]) rfl (by rw [nI_as]) rfl ?_
    refine mm_iconst (x := 5) dX8_numberAt_3 (by decide) ?_
    refine mm_icmp_le 9 dX8_numberAt_4 (by decide) (fun c_4 => ?_) (fun c_4 => ?_)
    · exact absurd c_4 (nI_ge (a := 5) h5 (by omega))
    · refine mm_iconst (x := (-1)) dX8_numberAt_7 (by decide) ?_
      exact mm_iretE dX8_numberAt_8 rfl rfl rfl
  · rw [if_neg h5]
    have K14 : ∀ m j, j + m = k → mm_R d YX8_numberAt 14 [some (.ref 1), some (.int (nI p)), some (.int (nI (p + k))), some (.int (dgv B p j)), some (.int (nI (p + j)))] [] h (some (.int (dgv B p k))) h := by
      intro m
      induction m with
      | zero =>
        intro j hj
        have hj : j = k := by omega
        subst hj
        refine mm_iload dX8_numberAt_14 rfl ?_
        refine mm_iload_n dX8_numberAt_16 rfl rfl ?_
        refine mm_icmp_ge 39 dX8_numberAt_17 (by decide) (fun c_17 => ?_) (fun c_17 => ?_)
        · refine mm_iload_n dX8_numberAt_39 rfl rfl ?_
          exact mm_iretE dX8_numberAt_40 rfl rfl rfl
        · exact absurd (Int32.le_refl _) c_17
      | succ m ih =>
        intro j hj
        have K := ih (j + 1) (by omega)
        refine mm_iload dX8_numberAt_14 rfl ?_
        refine mm_iload_n dX8_numberAt_16 rfl rfl ?_
        refine mm_icmp_ge 39 dX8_numberAt_17 (by decide) (fun c_17 => ?_) (fun c_17 => ?_)
        · exact absurd c_17 (nI_ge (show p + j < p + k by omega) (by omega))
        · refine mm_iload_n dX8_numberAt_20 rfl rfl ?_
          refine mm_bipush (x := 10) dX8_numberAt_21 (by decide) ?_
          refine mm_imul dX8_numberAt_23 ?_
          refine mm_aload_n dX8_numberAt_24 rfl rfl ?_
          refine mm_iload dX8_numberAt_25 rfl ?_
          refine mm_bald ((p + j)) dX8_numberAt_27 sh_1 rfl (by omega) ?_
          refine mm_iadd dX8_numberAt_28 ?_
          refine mm_bipush (x := 48) dX8_numberAt_29 (by decide) ?_
          refine mm_isub dX8_numberAt_31 ?_
          refine mm_cast (st' := [.int (dgv B p (j + 1))]) rfl (by rw [hB (p + j) (by omega)] <;> rfl) rfl ?_
          refine mm_istore_n dX8_numberAt_32 rfl (by decide) rfl ?_
          refine mm_iinc dX8_numberAt_33 rfl (nI_inc (p + j)) rfl ?_
          refine mm_goto 14 dX8_numberAt_36 (by decide) ?_
          exact K
    have K := K14 k 0 (by omega)
    refine mm_iload_n dX8_numberAt_0 rfl rfl ?_
    refine mm_iload_n dX8_numberAt_1 rfl rfl ?_
    refine mm_isub dX8_numberAt_2 ?_
    refine mm_cast (st' := [.int (nI k)]) rfl (by rw [nI_as]) rfl ?_
    refine mm_iconst (x := 5) dX8_numberAt_3 (by decide) ?_
    refine mm_icmp_le 9 dX8_numberAt_4 (by decide) (fun c_4 => ?_) (fun c_4 => ?_)
    · refine mm_iconst (x := 0) dX8_numberAt_9 (by decide) ?_
      refine mm_istore_n dX8_numberAt_10 rfl (by decide) rfl ?_
      refine mm_iload_n dX8_numberAt_11 rfl rfl ?_
      refine mm_istore dX8_numberAt_12 (by decide) rfl ?_
      exact K
    · exact absurd (nI_le (b := 5) (by omega) (by omega)) c_4
def WB (j : Nat) : Int32 := (mm_sb.getD 0 []).getD j 0
set_option maxRecDepth 100000 in
set_option maxHeartbeats 4000000 in
theorem mX8_isWord (d : Nat) (h : mm_H) (B : Nat → Int32) (n : Nat) (hn : n ≤ 400) (hB : ∀ i, i < n → h.1 1 i = B i) (p s e : Nat) (hse : s ≤ e) (he : e ≤ 93) (hp : p + (e - s) ≤ n) : mm_M (d + 4) YX8_isWord [.ref 1, .int (nI p), .int (nI s), .int (nI e)] h (some (.int (pI (∀ j, s ≤ j → j < e → WB j = B (p + j - s))))) h := by
  refine mm_M.of [some (.ref 1), some (.int (nI p)), some (.int (nI s)), some (.int (nI e)), none] rfl rfl (Nat.le_of_ble_eq_true rfl) ?_
  have K3 : ∀ m i, i + m = e → s ≤ i → (∀ j, s ≤ j → j < i → WB j = B (p + j - s)) → mm_R (d + 4) YX8_isWord 3 [some (.ref 1), some (.int (nI p)), some (.int (nI s)), some (.int (nI e)), some (.int (nI i))] [] h (some (.int (pI (∀ j, s ≤ j → j < e → WB j = B (p + j - s))))) h := by
    intro m
    induction m with
    | zero =>
      intro i hi hsi hall
      have hi : i = e := by omega
      subst hi
      refine mm_iload dX8_isWord_3 rfl ?_
      refine mm_iload_n dX8_isWord_5 rfl rfl ?_
      refine mm_icmp_ge 35 dX8_isWord_6 (by decide) (fun c_6 => ?_) (fun c_6 => ?_)
      · refine mm_iconst (x := 1) dX8_isWord_35 (by decide) ?_
        exact mm_zretE dX8_isWord_36 rfl (pI_nar _) (pI_1 hall).symm rfl
      · exact absurd (Int32.le_refl _) c_6
    | succ m ih =>
      intro i hi hsi hall
      have hie : i < e := by omega
      have e1 : nI p + nI i - nI s = nI (p + i - s) := by
        rw [nI_add, show p + i = s + (p + i - s) by omega, nI_as, show s + (p + i - s) - s = p + i - s by omega]
      have eb := hB (p + i - s) (by omega)
      by_cases hc : WB i = B (p + i - s)
      · have K := ih (i + 1) (by omega) (by omega) (fun j h1 h2 => by
          by_cases z : j = i
          · rw [z]; exact hc
          · exact hall j h1 (by omega))
        refine mm_iload dX8_isWord_3 rfl ?_
        refine mm_iload_n dX8_isWord_5 rfl rfl ?_
        refine mm_icmp_ge 35 dX8_isWord_6 (by decide) (fun c_6 => ?_) (fun c_6 => ?_)
        · exact absurd c_6 (nI_ge hie (by omega))
        · refine mm_ldcS 0 dX8_isWord_9 rfl ?_
          refine mm_iload dX8_isWord_11 rfl ?_
          refine mm_callVS (Y1 := YJ0_charAt_5068e) dX8_isWord_13 lX8_74 uJ0_charAt_5068e (mJ0_charAt d h 0 i (by decide) (by show i < 93; omega)) (by decide) rfl rfl (by simp [Value.category]) ?_
          refine mm_aload_n dX8_isWord_16 rfl rfl ?_
          refine mm_iload_n dX8_isWord_17 rfl rfl ?_
          refine mm_iload dX8_isWord_18 rfl ?_
          refine mm_iadd dX8_isWord_20 ?_
          refine mm_iload_n dX8_isWord_21 rfl rfl ?_
          refine mm_isub dX8_isWord_22 ?_
          refine mm_bald ((p + i - s)) dX8_isWord_23 sh_1 e1 (by omega) ?_
          refine mm_icmp_eq 29 dX8_isWord_24 (by decide) (fun c_24 => ?_) (fun c_24 => ?_)
          · refine mm_iinc dX8_isWord_29 rfl (nI_inc i) rfl ?_
            refine mm_goto 3 dX8_isWord_32 (by decide) ?_
            exact K
          · exact absurd (show WB i = _ from hc.trans eb.symm) c_24
      · have hR : ¬ (∀ j, s ≤ j → j < e → WB j = B (p + j - s)) := fun z => hc (z i hsi hie)
        refine mm_iload dX8_isWord_3 rfl ?_
        refine mm_iload_n dX8_isWord_5 rfl rfl ?_
        refine mm_icmp_ge 35 dX8_isWord_6 (by decide) (fun c_6 => ?_) (fun c_6 => ?_)
        · exact absurd c_6 (nI_ge hie (by omega))
        · refine mm_ldcS 0 dX8_isWord_9 rfl ?_
          refine mm_iload dX8_isWord_11 rfl ?_
          refine mm_callVS (Y1 := YJ0_charAt_5068e) dX8_isWord_13 lX8_74 uJ0_charAt_5068e (mJ0_charAt d h 0 i (by decide) (by show i < 93; omega)) (by decide) rfl rfl (by simp [Value.category]) ?_
          refine mm_aload_n dX8_isWord_16 rfl rfl ?_
          refine mm_iload_n dX8_isWord_17 rfl rfl ?_
          refine mm_iload dX8_isWord_18 rfl ?_
          refine mm_iadd dX8_isWord_20 ?_
          refine mm_iload_n dX8_isWord_21 rfl rfl ?_
          refine mm_isub dX8_isWord_22 ?_
          refine mm_bald ((p + i - s)) dX8_isWord_23 sh_1 e1 (by omega) ?_
          refine mm_icmp_eq 29 dX8_isWord_24 (by decide) (fun c_24 => ?_) (fun c_24 => ?_)
          · exact absurd ((show WB i = _ from c_24).trans eb) hc
          · refine mm_iconst (x := 0) dX8_isWord_27 (by decide) ?_
            exact mm_zretE dX8_isWord_28 rfl (pI_nar _) (pI_0 hR).symm rfl
  have K := K3 (e - s) s (by omega) (Nat.le_refl _) (fun j h1 h2 => by omega)
  refine mm_iload_n dX8_isWord_0 rfl rfl ?_
  refine mm_istore dX8_isWord_1 (by decide) rfl ?_
  exact K
/-- how many words end before i, where the last began -/
def nW (i : Nat) : Nat := ((List.range i).filter (fun j => WB j == 32)).length
def sW (i : Nat) : Nat := (List.range i).foldl (fun s j => if WB j = 32 then j + 1 else s) 0
theorem W_st {i : Nat} (hi : i < 93) : (¬ WB i = 32 ∧ nW (i + 1) = nW i ∧ sW (i + 1) = sW i) ∨ (WB i = 32 ∧ nW (i + 1) = nW i + 1 ∧ sW (i + 1) = i + 1 ∧ nW i < 17 ∧ sW i ≤ i ∧ (wdL.getD (nW i) []).length = i - sW i ∧ ∀ k, k < i - sW i → WB (sW i + k) = (wdL.getD (nW i) []).getD k 0) := by
  have H : ∀ i, i < 93 → (¬ WB i = 32 ∧ nW (i + 1) = nW i ∧ sW (i + 1) = sW i) ∨ (WB i = 32 ∧ nW (i + 1) = nW i + 1 ∧ sW (i + 1) = i + 1 ∧ nW i < 17 ∧ sW i ≤ i ∧ (wdL.getD (nW i) []).length = i - sW i ∧ ∀ k, k < i - sW i → WB (sW i + k) = (wdL.getD (nW i) []).getD k 0) := by decide +kernel
  exact H i hi
theorem W_end : nW 93 = 17 ∧ nW 0 = 0 ∧ sW 0 = 0 := by decide +kernel
set_option maxRecDepth 100000 in
set_option maxHeartbeats 4000000 in
theorem mX8_wordAt (d : Nat) (h : mm_H) (B : Nat → Int32) (n : Nat) (hn : n ≤ 400) (hB : ∀ i, i < n → h.1 1 i = B i) (p k : Nat) (hp : p + k ≤ n) : mm_M (d + 5) YX8_wordAt [.ref 1, .int (nI p), .int (nI (p + k))] h (some (.int (nI (wkF B p (p + k))))) h := by
  refine mm_M.of [some (.ref 1), some (.int (nI p)), some (.int (nI (p + k))), none, none, none] rfl rfl (Nat.le_of_ble_eq_true rfl) ?_
  have ML := mJ0_length (d + 3) h 0 (by decide)
  have K9 : ∀ m i, i + m = 93 → (∀ t, t < nW i → ¬ mtb B (wdL.getD t []) p (p + k) = true) → mm_R (d + 5) YX8_wordAt 9 [some (.ref 1), some (.int (nI p)), some (.int (nI (p + k))), some (.int (nI (16 + nW i))), some (.int (nI (sW i))), some (.int (nI i))] [] h (some (.int (nI (wkF B p (p + k))))) h := by
    intro m
    induction m with
    | zero =>
      intro i hi hno
      have hi : i = 93 := by omega
      subst hi
      rw [W_end.1] at hno
      have e := wk_n hno
      refine mm_iload dX8_wordAt_9 rfl ?_
      refine mm_ldcS 0 dX8_wordAt_11 rfl ?_
      refine mm_callVS (Y1 := YJ0_length_8abf5) dX8_wordAt_13 lX8_68 uJ0_length_8abf5 (ML) (by decide) rfl rfl (by simp [Value.category]) ?_
      refine mm_icmp_ge 71 dX8_wordAt_16 (by decide) (fun c_16 => ?_) (fun c_16 => ?_)
      · refine mm_iconst (x := 1) dX8_wordAt_71 (by decide) ?_
        exact mm_iretE dX8_wordAt_72 rfl (by rw [e]; rfl) rfl
      · exact absurd (Int32.le_refl _) c_16
    | succ m ih =>
      intro i hi hno
      have hi93 : i < 93 := by omega
      have MC := mJ0_charAt (d + 1) h 0 i (by decide) (by show i < 93; exact hi93)
      rcases W_st hi93 with ⟨w1, w2, w3⟩ | ⟨w1, w2, w3, w4, w5, w6, w7⟩
      · have K := ih (i + 1) (by omega) (by rw [w2]; exact hno)
        rw [w2, w3] at K
        refine mm_iload dX8_wordAt_9 rfl ?_
        refine mm_ldcS 0 dX8_wordAt_11 rfl ?_
        refine mm_callVS (Y1 := YJ0_length_8abf5) dX8_wordAt_13 lX8_68 uJ0_length_8abf5 (ML) (by decide) rfl rfl (by simp [Value.category]) ?_
        refine mm_icmp_ge 71 dX8_wordAt_16 (by decide) (fun c_16 => ?_) (fun c_16 => ?_)
        · exact absurd c_16 (nI_ge (b := 93) hi93 (by omega))
        · refine mm_ldcS 0 dX8_wordAt_19 rfl ?_
          refine mm_iload dX8_wordAt_21 rfl ?_
          refine mm_callVS (Y1 := YJ0_charAt_5068e) dX8_wordAt_23 lX8_74 uJ0_charAt_5068e (MC) (by decide) rfl rfl (by simp [Value.category]) ?_
          refine mm_bipush (x := 32) dX8_wordAt_26 (by decide) ?_
          refine mm_icmp_ne 65 dX8_wordAt_28 (by decide) (fun c_28 => ?_) (fun c_28 => ?_)
          · refine mm_iinc dX8_wordAt_65 rfl (nI_inc i) rfl ?_
            refine mm_goto 9 dX8_wordAt_68 (by decide) ?_
            exact K
          · exact absurd (show WB i = 32 from c_28) w1
      · have e1 : nI i - nI (sW i) = nI (i - sW i) := nI_dif w5
        have e2 : nI (p + k) - nI p = nI k := nI_as p k
        have hmt : mtb B (wdL.getD (nW i) []) p (p + k) = true ↔ i - sW i = k ∧ ∀ j, sW i ≤ j → j < i → WB j = B (p + j - sW i) := by
          rw [mtb_iff, w6]
          constructor
          · rintro ⟨a, b⟩
            refine ⟨by omega, fun j h1 h2 => ?_⟩
            have := b (j - sW i) (by omega)
            rw [← w7 (j - sW i) (by omega), show sW i + (j - sW i) = j by omega, show p + (j - sW i) = p + j - sW i by omega] at this
            exact this.symm
          · rintro ⟨a, b⟩
            refine ⟨by omega, fun q hq => ?_⟩
            rw [← w7 q hq, b (sW i + q) (by omega) (by omega), show p + (sW i + q) - sW i = p + q by omega]
        have AT39 : ∀ c39 : Prop, True := fun _ => trivial
        by_cases hm : mtb B (wdL.getD (nW i) []) p (p + k) = true
        · have e := wk_y w4 hm
          obtain ⟨q1, q2⟩ := hmt.mp hm
          have MW := mX8_isWord d h B n hn hB p (sW i) i w5 (by omega) (by omega)
          rw [pI_1 q2] at MW
          refine mm_iload dX8_wordAt_9 rfl ?_
          refine mm_ldcS 0 dX8_wordAt_11 rfl ?_
          refine mm_callVS (Y1 := YJ0_length_8abf5) dX8_wordAt_13 lX8_68 uJ0_length_8abf5 (ML) (by decide) rfl rfl (by simp [Value.category]) ?_
          refine mm_icmp_ge 71 dX8_wordAt_16 (by decide) (fun c_16 => ?_) (fun c_16 => ?_)
          · exact absurd c_16 (nI_ge (b := 93) hi93 (by omega))
          · refine mm_ldcS 0 dX8_wordAt_19 rfl ?_
            refine mm_iload dX8_wordAt_21 rfl ?_
            refine mm_callVS (Y1 := YJ0_charAt_5068e) dX8_wordAt_23 lX8_74 uJ0_charAt_5068e (MC) (by decide) rfl rfl (by simp [Value.category]) ?_
            refine mm_bipush (x := 32) dX8_wordAt_26 (by decide) ?_
            refine mm_icmp_ne 65 dX8_wordAt_28 (by decide) (fun c_28 => ?_) (fun c_28 => ?_)
            · exact absurd (show WB i = 32 from w1) c_28
            · refine mm_iload dX8_wordAt_31 rfl ?_
              refine mm_iload dX8_wordAt_33 rfl ?_
              refine mm_isub dX8_wordAt_35 ?_
              refine mm_iload_n dX8_wordAt_36 rfl rfl ?_
              refine mm_iload_n dX8_wordAt_37 rfl rfl ?_
              refine mm_isub dX8_wordAt_38 ?_
              refine mm_cast (st' := [.int (nI k), .int (nI (i - sW i))]) rfl (by rw [e1, e2] <;> rfl) rfl ?_
              refine mm_icmp_ne 56 dX8_wordAt_39 (by decide) (fun c_39 => ?_) (fun c_39 => ?_)
              · exact absurd (by rw [q1]) c_39
              · refine mm_aload_n dX8_wordAt_42 rfl rfl ?_
                refine mm_iload_n dX8_wordAt_43 rfl rfl ?_
                refine mm_iload dX8_wordAt_44 rfl ?_
                refine mm_iload dX8_wordAt_46 rfl ?_
                refine mm_cS (Y1 := YX8_isWord) dX8_wordAt_48 lX8_78 sX8_isWord (MW) rfl rfl (by simp [Value.category]) ?_
                refine mm_if_eq 56 dX8_wordAt_51 (by decide) (fun c_51 => ?_) (fun c_51 => ?_)
                · exact absurd c_51 (by decide)
                · refine mm_iload_n dX8_wordAt_54 rfl rfl ?_
                  exact mm_iretE dX8_wordAt_55 rfl (by rw [e]) rfl
        · have K := ih (i + 1) (by omega) (fun t ht => by
            by_cases z : t = nW i
            · rw [z]; exact hm
            · exact hno t (by omega))
          rw [w2, w3] at K
          by_cases hk : i - sW i = k
          · have MW := mX8_isWord d h B n hn hB p (sW i) i w5 (by omega) (by omega)
            rw [pI_0 (fun z => hm (hmt.mpr ⟨hk, z⟩))] at MW
            refine mm_iload dX8_wordAt_9 rfl ?_
            refine mm_ldcS 0 dX8_wordAt_11 rfl ?_
            refine mm_callVS (Y1 := YJ0_length_8abf5) dX8_wordAt_13 lX8_68 uJ0_length_8abf5 (ML) (by decide) rfl rfl (by simp [Value.category]) ?_
            refine mm_icmp_ge 71 dX8_wordAt_16 (by decide) (fun c_16 => ?_) (fun c_16 => ?_)
            · exact absurd c_16 (nI_ge (b := 93) hi93 (by omega))
            · refine mm_ldcS 0 dX8_wordAt_19 rfl ?_
              refine mm_iload dX8_wordAt_21 rfl ?_
              refine mm_callVS (Y1 := YJ0_charAt_5068e) dX8_wordAt_23 lX8_74 uJ0_charAt_5068e (MC) (by decide) rfl rfl (by simp [Value.category]) ?_
              refine mm_bipush (x := 32) dX8_wordAt_26 (by decide) ?_
              refine mm_icmp_ne 65 dX8_wordAt_28 (by decide) (fun c_28 => ?_) (fun c_28 => ?_)
              · exact absurd (show WB i = 32 from w1) c_28
              · refine mm_iload dX8_wordAt_31 rfl ?_
                refine mm_iload dX8_wordAt_33 rfl ?_
                refine mm_isub dX8_wordAt_35 ?_
                refine mm_iload_n dX8_wordAt_36 rfl rfl ?_
                refine mm_iload_n dX8_wordAt_37 rfl rfl ?_
                refine mm_isub dX8_wordAt_38 ?_
                refine mm_cast (st' := [.int (nI k), .int (nI (i - sW i))]) rfl (by rw [e1, e2] <;> rfl) rfl ?_
                refine mm_icmp_ne 56 dX8_wordAt_39 (by decide) (fun c_39 => ?_) (fun c_39 => ?_)
                · exact absurd (by rw [hk]) c_39
                · refine mm_aload_n dX8_wordAt_42 rfl rfl ?_
                  refine mm_iload_n dX8_wordAt_43 rfl rfl ?_
                  refine mm_iload dX8_wordAt_44 rfl ?_
                  refine mm_iload dX8_wordAt_46 rfl ?_
                  refine mm_cS (Y1 := YX8_isWord) dX8_wordAt_48 lX8_78 sX8_isWord (MW) rfl rfl (by simp [Value.category]) ?_
                  refine mm_if_eq 56 dX8_wordAt_51 (by decide) (fun c_51 => ?_) (fun c_51 => ?_)
                  · refine mm_iinc dX8_wordAt_56 rfl (nI_inc (16 + nW i)) rfl ?_
                    refine mm_iload dX8_wordAt_59 rfl ?_
                    refine mm_iconst (x := 1) dX8_wordAt_61 (by decide) ?_
                    refine mm_iadd dX8_wordAt_62 ?_
                    refine mm_cast (st' := [.int (nI (i + 1))]) rfl (by rw [nI_succ] <;> rfl) rfl ?_
                    refine mm_istore dX8_wordAt_63 (by decide) rfl ?_
                    refine mm_iinc dX8_wordAt_65 rfl (nI_inc i) rfl ?_
                    refine mm_goto 9 dX8_wordAt_68 (by decide) ?_
                    exact K
                  · exact absurd rfl c_51
          · skip
            refine mm_iload dX8_wordAt_9 rfl ?_
            refine mm_ldcS 0 dX8_wordAt_11 rfl ?_
            refine mm_callVS (Y1 := YJ0_length_8abf5) dX8_wordAt_13 lX8_68 uJ0_length_8abf5 (ML) (by decide) rfl rfl (by simp [Value.category]) ?_
            refine mm_icmp_ge 71 dX8_wordAt_16 (by decide) (fun c_16 => ?_) (fun c_16 => ?_)
            · exact absurd c_16 (nI_ge (b := 93) hi93 (by omega))
            · refine mm_ldcS 0 dX8_wordAt_19 rfl ?_
              refine mm_iload dX8_wordAt_21 rfl ?_
              refine mm_callVS (Y1 := YJ0_charAt_5068e) dX8_wordAt_23 lX8_74 uJ0_charAt_5068e (MC) (by decide) rfl rfl (by simp [Value.category]) ?_
              refine mm_bipush (x := 32) dX8_wordAt_26 (by decide) ?_
              refine mm_icmp_ne 65 dX8_wordAt_28 (by decide) (fun c_28 => ?_) (fun c_28 => ?_)
              · exact absurd (show WB i = 32 from w1) c_28
              · refine mm_iload dX8_wordAt_31 rfl ?_
                refine mm_iload dX8_wordAt_33 rfl ?_
                refine mm_isub dX8_wordAt_35 ?_
                refine mm_iload_n dX8_wordAt_36 rfl rfl ?_
                refine mm_iload_n dX8_wordAt_37 rfl rfl ?_
                refine mm_isub dX8_wordAt_38 ?_
                refine mm_cast (st' := [.int (nI k), .int (nI (i - sW i))]) rfl (by rw [e1, e2] <;> rfl) rfl ?_
                refine mm_icmp_ne 56 dX8_wordAt_39 (by decide) (fun c_39 => ?_) (fun c_39 => ?_)
                · refine mm_iinc dX8_wordAt_56 rfl (nI_inc (16 + nW i)) rfl ?_
                  refine mm_iload dX8_wordAt_59 rfl ?_
                  refine mm_iconst (x := 1) dX8_wordAt_61 (by decide) ?_
                  refine mm_iadd dX8_wordAt_62 ?_
                  refine mm_cast (st' := [.int (nI (i + 1))]) rfl (by rw [nI_succ] <;> rfl) rfl ?_
                  refine mm_istore dX8_wordAt_63 (by decide) rfl ?_
                  refine mm_iinc dX8_wordAt_65 rfl (nI_inc i) rfl ?_
                  refine mm_goto 9 dX8_wordAt_68 (by decide) ?_
                  exact K
                · exact absurd ((nI_eq (by omega) (by omega)).mp c_39) hk
  have K := K9 93 0 rfl (fun t ht => by rw [W_end.2.1] at ht; omega)
  rw [W_end.2.1, W_end.2.2] at K
  refine mm_bipush (x := 16) dX8_wordAt_0 (by decide) ?_
  refine mm_istore_n dX8_wordAt_2 rfl (by decide) rfl ?_
  refine mm_iconst (x := 0) dX8_wordAt_3 (by decide) ?_
  refine mm_istore dX8_wordAt_4 (by decide) rfl ?_
  refine mm_iconst (x := 0) dX8_wordAt_6 (by decide) ?_
  refine mm_istore dX8_wordAt_7 (by decide) rfl ?_
  exact K
theorem tk59 {c : Int32} (h : ¬ c = 59) : ¬ c.toInt = 59 := fun z => h (Int32.toInt_inj.mp (z.trans (by decide +kernel : (59 : Int32).toInt = 59).symm))
theorem tk91 {c : Int32} (h : ¬ c = 91) : ¬ c.toInt = 91 := fun z => h (Int32.toInt_inj.mp (z.trans (by decide +kernel : (91 : Int32).toInt = 91).symm))
theorem tk93 {c : Int32} (h : ¬ c = 93) : ¬ c.toInt = 93 := fun z => h (Int32.toInt_inj.mp (z.trans (by decide +kernel : (93 : Int32).toInt = 93).symm))
theorem tk43 {c : Int32} (h : ¬ c = 43) : ¬ c.toInt = 43 := fun z => h (Int32.toInt_inj.mp (z.trans (by decide +kernel : (43 : Int32).toInt = 43).symm))
theorem tk45 {c : Int32} (h : ¬ c = 45) : ¬ c.toInt = 45 := fun z => h (Int32.toInt_inj.mp (z.trans (by decide +kernel : (45 : Int32).toInt = 45).symm))
theorem tk42 {c : Int32} (h : ¬ c = 42) : ¬ c.toInt = 42 := fun z => h (Int32.toInt_inj.mp (z.trans (by decide +kernel : (42 : Int32).toInt = 42).symm))
theorem tk47 {c : Int32} (h : ¬ c = 47) : ¬ c.toInt = 47 := fun z => h (Int32.toInt_inj.mp (z.trans (by decide +kernel : (47 : Int32).toInt = 47).symm))
theorem tk37 {c : Int32} (h : ¬ c = 37) : ¬ c.toInt = 37 := fun z => h (Int32.toInt_inj.mp (z.trans (by decide +kernel : (37 : Int32).toInt = 37).symm))
theorem tk60 {c : Int32} (h : ¬ c = 60) : ¬ c.toInt = 60 := fun z => h (Int32.toInt_inj.mp (z.trans (by decide +kernel : (60 : Int32).toInt = 60).symm))
theorem tk61 {c : Int32} (h : ¬ c = 61) : ¬ c.toInt = 61 := fun z => h (Int32.toInt_inj.mp (z.trans (by decide +kernel : (61 : Int32).toInt = 61).symm))
theorem tk62 {c : Int32} (h : ¬ c = 62) : ¬ c.toInt = 62 := fun z => h (Int32.toInt_inj.mp (z.trans (by decide +kernel : (62 : Int32).toInt = 62).symm))
set_option maxRecDepth 100000 in
set_option maxHeartbeats 4000000 in
theorem mX8_signOf (d : Nat) (h : mm_H) (c : Int32) (t : Prop) [Decidable t] : mm_M d YX8_signOf [.int c, .int (bI t)] h (some (.int (nI (sgn c t)))) h := by
  refine mm_M.of [some (.int c), some (.int (bI t))] rfl rfl (Nat.le_of_ble_eq_true rfl) ?_
  by_cases n59 : c = 59
  · subst n59
    have e : sgn 59 t = 3 := by unfold sgn; rw [if_pos rfl]
    refine mm_iload_n dX8_signOf_0 rfl rfl ?_
    refine mm_lookup (off := 99) 100 dX8_signOf_1 (by decide) (by decide) (by decide) ?_
    refine mm_iconst (x := 3) dX8_signOf_100 (by decide) ?_
    exact mm_iretE dX8_signOf_101 rfl (by rw [e]; rfl) rfl
  by_cases n91 : c = 91
  · subst n91
    have e : sgn 91 t = 4 := by unfold sgn; rw [if_neg (by decide), if_pos rfl]
    refine mm_iload_n dX8_signOf_0 rfl rfl ?_
    refine mm_lookup (off := 101) 102 dX8_signOf_1 (by decide) (by decide) (by decide) ?_
    refine mm_iconst (x := 4) dX8_signOf_102 (by decide) ?_
    exact mm_iretE dX8_signOf_103 rfl (by rw [e]; rfl) rfl
  by_cases n93 : c = 93
  · subst n93
    have e : sgn 93 t = 5 := by unfold sgn; rw [if_neg (by decide), if_neg (by decide), if_pos rfl]
    refine mm_iload_n dX8_signOf_0 rfl rfl ?_
    refine mm_lookup (off := 103) 104 dX8_signOf_1 (by decide) (by decide) (by decide) ?_
    refine mm_iconst (x := 5) dX8_signOf_104 (by decide) ?_
    exact mm_iretE dX8_signOf_105 rfl (by rw [e]; rfl) rfl
  by_cases n43 : c = 43
  · subst n43
    have e : sgn 43 t = 6 := by unfold sgn; rw [if_neg (by decide), if_neg (by decide), if_neg (by decide), if_pos rfl]
    refine mm_iload_n dX8_signOf_0 rfl rfl ?_
    refine mm_lookup (off := 105) 106 dX8_signOf_1 (by decide) (by decide) (by decide) ?_
    refine mm_bipush (x := 6) dX8_signOf_106 (by decide) ?_
    exact mm_iretE dX8_signOf_108 rfl (by rw [e]; rfl) rfl
  by_cases n45 : c = 45
  · subst n45
    have e : sgn 45 t = 7 := by unfold sgn; rw [if_neg (by decide), if_neg (by decide), if_neg (by decide), if_neg (by decide), if_pos rfl]
    refine mm_iload_n dX8_signOf_0 rfl rfl ?_
    refine mm_lookup (off := 108) 109 dX8_signOf_1 (by decide) (by decide) (by decide) ?_
    refine mm_bipush (x := 7) dX8_signOf_109 (by decide) ?_
    exact mm_iretE dX8_signOf_111 rfl (by rw [e]; rfl) rfl
  by_cases n42 : c = 42
  · subst n42
    have e : sgn 42 t = 8 := by unfold sgn; rw [if_neg (by decide), if_neg (by decide), if_neg (by decide), if_neg (by decide), if_neg (by decide), if_pos rfl]
    refine mm_iload_n dX8_signOf_0 rfl rfl ?_
    refine mm_lookup (off := 111) 112 dX8_signOf_1 (by decide) (by decide) (by decide) ?_
    refine mm_bipush (x := 8) dX8_signOf_112 (by decide) ?_
    exact mm_iretE dX8_signOf_114 rfl (by rw [e]; rfl) rfl
  by_cases n47 : c = 47
  · subst n47
    have e : sgn 47 t = 9 := by unfold sgn; rw [if_neg (by decide), if_neg (by decide), if_neg (by decide), if_neg (by decide), if_neg (by decide), if_neg (by decide), if_pos rfl]
    refine mm_iload_n dX8_signOf_0 rfl rfl ?_
    refine mm_lookup (off := 114) 115 dX8_signOf_1 (by decide) (by decide) (by decide) ?_
    refine mm_bipush (x := 9) dX8_signOf_115 (by decide) ?_
    exact mm_iretE dX8_signOf_117 rfl (by rw [e]; rfl) rfl
  by_cases n37 : c = 37
  · subst n37
    have e : sgn 37 t = 10 := by unfold sgn; rw [if_neg (by decide), if_neg (by decide), if_neg (by decide), if_neg (by decide), if_neg (by decide), if_neg (by decide), if_neg (by decide), if_pos rfl]
    refine mm_iload_n dX8_signOf_0 rfl rfl ?_
    refine mm_lookup (off := 117) 118 dX8_signOf_1 (by decide) (by decide) (by decide) ?_
    refine mm_bipush (x := 10) dX8_signOf_118 (by decide) ?_
    exact mm_iretE dX8_signOf_120 rfl (by rw [e]; rfl) rfl
  by_cases n60 : c = 60
  · subst n60
    have e : sgn 60 t = if t then 12 else 11 := by unfold sgn; rw [if_neg (by decide), if_neg (by decide), if_neg (by decide), if_neg (by decide), if_neg (by decide), if_neg (by decide), if_neg (by decide), if_neg (by decide), if_pos rfl]
    refine mm_iload_n dX8_signOf_0 rfl rfl ?_
    refine mm_lookup (off := 120) 121 dX8_signOf_1 (by decide) (by decide) (by decide) ?_
    refine mm_iload_n dX8_signOf_121 rfl rfl ?_
    refine mm_if_eq 130 dX8_signOf_122 (by decide) (fun c_122 => ?_) (fun c_122 => ?_)
    · refine mm_bipush (x := 11) dX8_signOf_130 (by decide) ?_
      exact mm_iretE dX8_signOf_132 rfl (by rw [e]; first | (rw [if_pos (bI_n0.mp c_122)]; rfl) | (rw [if_neg (bI_e0.mp c_122)]; rfl)) rfl
    · refine mm_bipush (x := 12) dX8_signOf_125 (by decide) ?_
      refine mm_goto 132 dX8_signOf_127 (by decide) ?_
      exact mm_iretE dX8_signOf_132 rfl (by rw [e]; first | (rw [if_pos (bI_n0.mp c_122)]; rfl) | (rw [if_neg (bI_e0.mp c_122)]; rfl)) rfl
  by_cases n61 : c = 61
  · subst n61
    have e : sgn 61 t = 13 := by unfold sgn; rw [if_neg (by decide), if_neg (by decide), if_neg (by decide), if_neg (by decide), if_neg (by decide), if_neg (by decide), if_neg (by decide), if_neg (by decide), if_neg (by decide), if_pos rfl]
    refine mm_iload_n dX8_signOf_0 rfl rfl ?_
    refine mm_lookup (off := 132) 133 dX8_signOf_1 (by decide) (by decide) (by decide) ?_
    refine mm_bipush (x := 13) dX8_signOf_133 (by decide) ?_
    exact mm_iretE dX8_signOf_135 rfl (by rw [e]; rfl) rfl
  by_cases n62 : c = 62
  · subst n62
    have e : sgn 62 t = if t then 14 else 15 := by unfold sgn; rw [if_neg (by decide), if_neg (by decide), if_neg (by decide), if_neg (by decide), if_neg (by decide), if_neg (by decide), if_neg (by decide), if_neg (by decide), if_neg (by decide), if_neg (by decide), if_pos rfl]
    refine mm_iload_n dX8_signOf_0 rfl rfl ?_
    refine mm_lookup (off := 135) 136 dX8_signOf_1 (by decide) (by decide) (by decide) ?_
    refine mm_iload_n dX8_signOf_136 rfl rfl ?_
    refine mm_if_eq 145 dX8_signOf_137 (by decide) (fun c_137 => ?_) (fun c_137 => ?_)
    · refine mm_bipush (x := 15) dX8_signOf_145 (by decide) ?_
      exact mm_iretE dX8_signOf_147 rfl (by rw [e]; first | (rw [if_pos (bI_n0.mp c_137)]; rfl) | (rw [if_neg (bI_e0.mp c_137)]; rfl)) rfl
    · refine mm_bipush (x := 14) dX8_signOf_140 (by decide) ?_
      refine mm_goto 147 dX8_signOf_142 (by decide) ?_
      exact mm_iretE dX8_signOf_147 rfl (by rw [e]; first | (rw [if_pos (bI_n0.mp c_137)]; rfl) | (rw [if_neg (bI_e0.mp c_137)]; rfl)) rfl
  have e : sgn c t = 1 := by unfold sgn; rw [if_neg n59, if_neg n91, if_neg n93, if_neg n43, if_neg n45, if_neg n42, if_neg n47, if_neg n37, if_neg n60, if_neg n61, if_neg n62]
  refine mm_iload_n dX8_signOf_0 rfl rfl ?_
  refine mm_lookup (off := 147) 148 dX8_signOf_1 (by decide) (by simp [Op.lookupswitch.offset, Ne.symm (tk59 n59), Ne.symm (tk91 n91), Ne.symm (tk93 n93), Ne.symm (tk43 n43), Ne.symm (tk45 n45), Ne.symm (tk42 n42), Ne.symm (tk47 n47), Ne.symm (tk37 n37), Ne.symm (tk60 n60), Ne.symm (tk61 n61), Ne.symm (tk62 n62)]) (by decide) ?_
  refine mm_iconst (x := 1) dX8_signOf_148 (by decide) ?_
  exact mm_iretE dX8_signOf_149 rfl (by rw [e]; rfl) rfl
set_option maxRecDepth 100000 in
set_option maxHeartbeats 4000000 in
theorem mX8_append (d : Nat) (h : mm_H) (s : Nat) (hs : h.1 4 3 = nI s) (hs4 : s < 401) (k p x : Int32) : mm_M d YX8_append [.ref 4, .int k, .int p, .int x] h none (mm_up (mm_up (mm_up (mm_up h.1 5 s k) 6 s p) 7 s x) 4 3 (nI (s + 1)), h.2.1, h.2.2) := by
  refine mm_M.of [some (.ref 4), some (.int k), some (.int p), some (.int x)] rfl rfl (Nat.le_of_ble_eq_true rfl) ?_
  refine mm_aload_n dX8_append_0 rfl rfl ?_
  refine mm_getI dX8_append_1 fX8_21 sh_4 rfl ?_
  refine mm_aload_n dX8_append_4 rfl rfl ?_
  refine mm_getS dX8_append_5 fX8_9 sh_4 rfl gr_4_0 ?_
  refine mm_alen dX8_append_8 (Or.inl rfl) sh_5 ?_
  refine mm_icmp_ge 52 dX8_append_9 (by decide) (fun c_9 => ?_) (fun c_9 => ?_)
  · exact absurd c_9 (by rw [hs]; exact nI_ge (b := 401) hs4 (by omega))
  · refine mm_aload_n dX8_append_12 rfl rfl ?_
    refine mm_getS dX8_append_13 fX8_9 sh_4 rfl gr_4_0 ?_
    refine mm_aload_n dX8_append_16 rfl rfl ?_
    refine mm_getI dX8_append_17 fX8_21 sh_4 rfl ?_
    refine mm_iload_n dX8_append_20 rfl rfl ?_
    refine mm_iast (s) dX8_append_21 sh_5 hs (by omega) ?_
    refine mm_aload_n dX8_append_22 rfl rfl ?_
    refine mm_getS dX8_append_23 fX8_15 sh_4 rfl gr_4_1 ?_
    refine mm_aload_n dX8_append_26 rfl rfl ?_
    refine mm_getI dX8_append_27 fX8_21 sh_4 rfl ?_
    refine mm_iload_n dX8_append_30 rfl rfl ?_
    refine mm_iast (s) dX8_append_31 sh_6 (by dsimp only; rw [mm_up_n (by decide)]; exact hs) (by omega) ?_
    refine mm_aload_n dX8_append_32 rfl rfl ?_
    refine mm_getS dX8_append_33 fX8_18 sh_4 rfl gr_4_2 ?_
    refine mm_aload_n dX8_append_36 rfl rfl ?_
    refine mm_getI dX8_append_37 fX8_21 sh_4 rfl ?_
    refine mm_iload_n dX8_append_40 rfl rfl ?_
    refine mm_iast (s) dX8_append_41 sh_7 (by dsimp only; rw [mm_up_n (by decide), mm_up_n (by decide)]; exact hs) (by omega) ?_
    refine mm_aload_n dX8_append_42 rfl rfl ?_
    refine mm_dup dX8_append_43 rfl ?_
    refine mm_getI dX8_append_44 fX8_21 sh_4 rfl ?_
    refine mm_iconst (x := 1) dX8_append_47 (by decide) ?_
    refine mm_iadd dX8_append_48 ?_
    refine mm_putI dX8_append_49 fX8_21 sh_4 rfl rfl rfl ?_
    exact mm_retE dX8_append_52 rfl (by dsimp only; rw [mm_up_n (by decide), mm_up_n (by decide), mm_up_n (by decide), hs, nI_succ])
