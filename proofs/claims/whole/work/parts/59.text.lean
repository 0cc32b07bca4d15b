/-! The class's Text: split, and how far it has been read. -/
set_option maxRecDepth 100000 in
set_option maxHeartbeats 4000000 in
theorem mX8_addPiece (d : Nat) (h : mm_H) (B : Nat → Int32) (n : Nat) (hn : n ≤ 400) (hB : ∀ i, i < n → h.1 1 i = B i) (s : Nat) (hs : h.1 4 3 = nI s) (hs4 : s < 401) (p : Nat) (hp : p < n) : mm_M (d + 6) YX8_addPiece [.ref 4, .ref 1, .int (nI p), .int (nI (en B n p))] h none (mm_up (mm_up (mm_up (mm_up h.1 5 s (nI (kd B n p))) 6 s (nI p)) 7 s (num B n p)) 4 3 (nI (s + 1)), h.2.1, h.2.2) := by
  refine mm_M.of [some (.ref 4), some (.ref 1), some (.int (nI p)), some (.int (nI (en B n p)))] rfl rfl (Nat.le_of_ble_eq_true rfl) ?_
  have eB := hB p hp
  have hen := en_bd (B := B) hp
  obtain ⟨k, ek⟩ : ∃ k, en B n p = p + k := ⟨en B n p - p, by omega⟩
  have hnp : ¬ n ≤ p := by omega
  have M1 := mX8_isDigit (d + 5) h (B p)
  have M2 := mX8_isLetter (d + 5) h (B p)
  by_cases c1 : isD (B p)
  · have MN := mX8_numberAt (d + 5) h B n hn hB p k (by omega)
    rw [← ek] at MN
    have eK : kd B n p = 2 := by unfold kd; rw [if_neg hnp, if_pos c1]
    have eN : num B n p = (if 5 < k then -1 else dgv B p k) := by unfold num; rw [if_neg hnp, if_pos c1, show en B n p - p = k by omega]
    have MA := mX8_append (d + 5) h s hs hs4 2 (nI p) (if 5 < k then -1 else dgv B p k)
    rw [eK, eN]
    refine mm_aload_n dX8_addPiece_0 rfl rfl ?_
    refine mm_iload_n dX8_addPiece_1 rfl rfl ?_
    refine mm_bald (p) dX8_addPiece_2 sh_1 rfl (by omega) ?_
    refine mm_cast (st' := [.int (B p)]) rfl (by rw [eB] <;> rfl) rfl ?_
    refine mm_cS (Y1 := YX8_isDigit) dX8_addPiece_3 lX8_53 sX8_isDigit (M1) rfl rfl (by simp [Value.category]) ?_
    refine mm_if_eq 24 dX8_addPiece_6 (by decide) (fun c_6 => ?_) (fun c_6 => ?_)
    · exact absurd c1 (bI_e0.mp c_6)
    · refine mm_aload_n dX8_addPiece_9 rfl rfl ?_
      refine mm_iconst (x := 2) dX8_addPiece_10 (by decide) ?_
      refine mm_iload_n dX8_addPiece_11 rfl rfl ?_
      refine mm_aload_n dX8_addPiece_12 rfl rfl ?_
      refine mm_iload_n dX8_addPiece_13 rfl rfl ?_
      refine mm_iload_n dX8_addPiece_14 rfl rfl ?_
      refine mm_cS (Y1 := YX8_numberAt) dX8_addPiece_15 lX8_56 sX8_numberAt (MN) rfl rfl (by simp [Value.category]) ?_
      refine mm_cV (Y1 := YX8_append) dX8_addPiece_18 lX8_45 vX8_append (MA) sh_4 rfl rfl (by simp [Value.category]) ?_
      refine mm_goto 72 dX8_addPiece_21 (by decide) ?_
      exact mm_retE dX8_addPiece_72 rfl rfl
  · have eN : num B n p = 0 := by unfold num; rw [if_neg hnp, if_neg c1]
    by_cases c2 : isLt (B p)
    · have MW := mX8_wordAt d h B n hn hB p k (by omega)
      rw [← ek] at MW
      have eK : kd B n p = wkF B p (en B n p) := by unfold kd; rw [if_neg hnp, if_neg c1, if_pos c2]
      have MA := mX8_append (d + 5) h s hs hs4 (nI (wkF B p (en B n p))) (nI p) 0
      rw [eK, eN]
      refine mm_aload_n dX8_addPiece_0 rfl rfl ?_
      refine mm_iload_n dX8_addPiece_1 rfl rfl ?_
      refine mm_bald (p) dX8_addPiece_2 sh_1 rfl (by omega) ?_
      refine mm_cast (st' := [.int (B p)]) rfl (by rw [eB] <;> rfl) rfl ?_
      refine mm_cS (Y1 := YX8_isDigit) dX8_addPiece_3 lX8_53 sX8_isDigit (M1) rfl rfl (by simp [Value.category]) ?_
      refine mm_if_eq 24 dX8_addPiece_6 (by decide) (fun c_6 => ?_) (fun c_6 => ?_)
      · refine mm_aload_n dX8_addPiece_24 rfl rfl ?_
        refine mm_iload_n dX8_addPiece_25 rfl rfl ?_
        refine mm_bald (p) dX8_addPiece_26 sh_1 rfl (by omega) ?_
        refine mm_cast (st' := [.int (B p)]) rfl (by rw [eB] <;> rfl) rfl ?_
        refine mm_cS (Y1 := YX8_isLetter) dX8_addPiece_27 lX8_49 sX8_isLetter (M2) rfl rfl (by simp [Value.category]) ?_
        refine mm_if_eq 48 dX8_addPiece_30 (by decide) (fun c_30 => ?_) (fun c_30 => ?_)
        · exact absurd c2 (bI_e0.mp c_30)
        · refine mm_aload_n dX8_addPiece_33 rfl rfl ?_
          refine mm_aload_n dX8_addPiece_34 rfl rfl ?_
          refine mm_iload_n dX8_addPiece_35 rfl rfl ?_
          refine mm_iload_n dX8_addPiece_36 rfl rfl ?_
          refine mm_cS (Y1 := YX8_wordAt) dX8_addPiece_37 lX8_59 sX8_wordAt (MW) rfl rfl (by simp [Value.category]) ?_
          refine mm_iload_n dX8_addPiece_40 rfl rfl ?_
          refine mm_iconst (x := 0) dX8_addPiece_41 (by decide) ?_
          refine mm_cV (Y1 := YX8_append) dX8_addPiece_42 lX8_45 vX8_append (MA) sh_4 rfl rfl (by simp [Value.category]) ?_
          refine mm_goto 72 dX8_addPiece_45 (by decide) ?_
          exact mm_retE dX8_addPiece_72 rfl rfl
      · exact absurd (bI_n0.mp c_6) c1
    · have eK : kd B n p = sgn (B p) (two B n p) := by unfold kd; rw [if_neg hnp, if_neg c1, if_neg c2]
      have hk2 : k = 2 ↔ two B n p := by
        constructor
        · intro z
          by_cases w : two B n p
          · exact w
          · unfold en at ek; rw [if_neg w, if_neg c2, if_neg c1] at ek; omega
        · intro z; unfold en at ek; rw [if_pos z] at ek; omega
      have MS := mX8_signOf (d + 5) h (B p) (two B n p)
      have MA := mX8_append (d + 5) h s hs hs4 (nI (sgn (B p) (two B n p))) (nI p) 0
      have e54 : nI (en B n p) - nI p = nI k := by rw [ek]; exact nI_as p k
      rw [eK, eN]
      by_cases ct : two B n p
      · rw [bI_1 ct] at MS
        refine mm_aload_n dX8_addPiece_0 rfl rfl ?_
        refine mm_iload_n dX8_addPiece_1 rfl rfl ?_
        refine mm_bald (p) dX8_addPiece_2 sh_1 rfl (by omega) ?_
        refine mm_cast (st' := [.int (B p)]) rfl (by rw [eB] <;> rfl) rfl ?_
        refine mm_cS (Y1 := YX8_isDigit) dX8_addPiece_3 lX8_53 sX8_isDigit (M1) rfl rfl (by simp [Value.category]) ?_
        refine mm_if_eq 24 dX8_addPiece_6 (by decide) (fun c_6 => ?_) (fun c_6 => ?_)
        · refine mm_aload_n dX8_addPiece_24 rfl rfl ?_
          refine mm_iload_n dX8_addPiece_25 rfl rfl ?_
          refine mm_bald (p) dX8_addPiece_26 sh_1 rfl (by omega) ?_
          refine mm_cast (st' := [.int (B p)]) rfl (by rw [eB] <;> rfl) rfl ?_
          refine mm_cS (Y1 := YX8_isLetter) dX8_addPiece_27 lX8_49 sX8_isLetter (M2) rfl rfl (by simp [Value.category]) ?_
          refine mm_if_eq 48 dX8_addPiece_30 (by decide) (fun c_30 => ?_) (fun c_30 => ?_)
          · refine mm_aload_n dX8_addPiece_48 rfl rfl ?_
            refine mm_aload_n dX8_addPiece_49 rfl rfl ?_
            refine mm_iload_n dX8_addPiece_50 rfl rfl ?_
            refine mm_bald (p) dX8_addPiece_51 sh_1 rfl (by omega) ?_
            refine mm_iload_n dX8_addPiece_52 rfl rfl ?_
            refine mm_iload_n dX8_addPiece_53 rfl rfl ?_
            refine mm_isub dX8_addPiece_54 ?_
            refine mm_cast (st' := [.int (nI k), .int (B p), .ref 4]) rfl (by rw [e54, eB] <;> rfl) rfl ?_
            refine mm_iconst (x := 2) dX8_addPiece_55 (by decide) ?_
            refine mm_icmp_ne 63 dX8_addPiece_56 (by decide) (fun c_56 => ?_) (fun c_56 => ?_)
            · exact absurd (by rw [hk2.mpr ct]; rfl) c_56
            · refine mm_iconst (x := 1) dX8_addPiece_59 (by decide) ?_
              refine mm_goto 64 dX8_addPiece_60 (by decide) ?_
              refine mm_cS (Y1 := YX8_signOf) dX8_addPiece_64 lX8_62 sX8_signOf (MS) rfl rfl (by simp [Value.category]) ?_
              refine mm_iload_n dX8_addPiece_67 rfl rfl ?_
              refine mm_iconst (x := 0) dX8_addPiece_68 (by decide) ?_
              refine mm_cV (Y1 := YX8_append) dX8_addPiece_69 lX8_45 vX8_append (MA) sh_4 rfl rfl (by simp [Value.category]) ?_
              exact mm_retE dX8_addPiece_72 rfl rfl
          · exact absurd (bI_n0.mp c_30) c2
        · exact absurd (bI_n0.mp c_6) c1
      · rw [bI_0 ct] at MS
        refine mm_aload_n dX8_addPiece_0 rfl rfl ?_
        refine mm_iload_n dX8_addPiece_1 rfl rfl ?_
        refine mm_bald (p) dX8_addPiece_2 sh_1 rfl (by omega) ?_
        refine mm_cast (st' := [.int (B p)]) rfl (by rw [eB] <;> rfl) rfl ?_
        refine mm_cS (Y1 := YX8_isDigit) dX8_addPiece_3 lX8_53 sX8_isDigit (M1) rfl rfl (by simp [Value.category]) ?_
        refine mm_if_eq 24 dX8_addPiece_6 (by decide) (fun c_6 => ?_) (fun c_6 => ?_)
        · refine mm_aload_n dX8_addPiece_24 rfl rfl ?_
          refine mm_iload_n dX8_addPiece_25 rfl rfl ?_
          refine mm_bald (p) dX8_addPiece_26 sh_1 rfl (by omega) ?_
          refine mm_cast (st' := [.int (B p)]) rfl (by rw [eB] <;> rfl) rfl ?_
          refine mm_cS (Y1 := YX8_isLetter) dX8_addPiece_27 lX8_49 sX8_isLetter (M2) rfl rfl (by simp [Value.category]) ?_
          refine mm_if_eq 48 dX8_addPiece_30 (by decide) (fun c_30 => ?_) (fun c_30 => ?_)
          · refine mm_aload_n dX8_addPiece_48 rfl rfl ?_
            refine mm_aload_n dX8_addPiece_49 rfl rfl ?_
            refine mm_iload_n dX8_addPiece_50 rfl rfl ?_
            refine mm_bald (p) dX8_addPiece_51 sh_1 rfl (by omega) ?_
            refine mm_iload_n dX8_addPiece_52 rfl rfl ?_
            refine mm_iload_n dX8_addPiece_53 rfl rfl ?_
            refine mm_isub dX8_addPiece_54 ?_
            refine mm_cast (st' := [.int (nI k), .int (B p), .ref 4]) rfl (by rw [e54, eB] <;> rfl) rfl ?_
            refine mm_iconst (x := 2) dX8_addPiece_55 (by decide) ?_
            refine mm_icmp_ne 63 dX8_addPiece_56 (by decide) (fun c_56 => ?_) (fun c_56 => ?_)
            · refine mm_iconst (x := 0) dX8_addPiece_63 (by decide) ?_
              refine mm_cS (Y1 := YX8_signOf) dX8_addPiece_64 lX8_62 sX8_signOf (MS) rfl rfl (by simp [Value.category]) ?_
              refine mm_iload_n dX8_addPiece_67 rfl rfl ?_
              refine mm_iconst (x := 0) dX8_addPiece_68 (by decide) ?_
              refine mm_cV (Y1 := YX8_append) dX8_addPiece_69 lX8_45 vX8_append (MA) sh_4 rfl rfl (by simp [Value.category]) ?_
              exact mm_retE dX8_addPiece_72 rfl rfl
            · exact absurd (hk2.mp ((nI_eq (b := 2) (by omega) (by omega)).mp c_56)) ct
          · exact absurd (bI_n0.mp c_30) c2
        · exact absurd (bI_n0.mp c_6) c1
/-- the first s words, as they are kept -/
def tbl (B : Nat → Int32) (n : Nat) (h : mm_H) (s : Nat) : Prop := ∀ i, i < s → h.1 5 i = nI (kd B n (tpp B n i)) ∧ h.1 6 i = nI (tpp B n i) ∧ h.1 7 i = num B n (tpp B n i)
/-- the text is read up to pos; its fault -/
def TX (B : Nat → Int32) (n : Nat) (h : mm_H) (pos ft : Nat) : Prop := ∃ N j, h.1 4 3 = nI N ∧ N ≤ 401 ∧ j < N ∧ tpp B n (N - 1) = n ∧ (∀ i, i + 1 < N → tpp B n i < n) ∧ tbl B n h N ∧ h.1 4 4 = nI j ∧ tpp B n j = pos ∧ h.1 4 5 = nI ft
theorem TX_c {B : Nat → Int32} {n : Nat} {h g : mm_H} {pos ft : Nat} (t : TX B n h pos ft) (e4 : ∀ j, j = 3 ∨ j = 4 ∨ j = 5 → g.1 4 j = h.1 4 j) (e5 : g.1 5 = h.1 5) (e6 : g.1 6 = h.1 6) (e7 : g.1 7 = h.1 7) : TX B n g pos ft := by
  obtain ⟨N, j, a, b, c, d, e, f, g1, g2, g3⟩ := t
  exact ⟨N, j, by rw [e4 3 (by omega)]; exact a, b, c, d, e, fun i hi => by rw [e5, e6, e7]; exact f i hi, by rw [e4 4 (by omega)]; exact g1, g2, by rw [e4 5 (by omega)]; exact g3⟩
theorem TX.le {B : Nat → Int32} {n : Nat} {h : mm_H} {pos ft : Nat} (t : TX B n h pos ft) : pos ≤ n := by
  obtain ⟨N, j, a, b, c, d, e, f, g1, g2, g3⟩ := t
  rw [← g2]
  exact (tpp_ge j (fun i hi => e i (by omega))).2
set_option maxRecDepth 100000 in
set_option maxHeartbeats 4000000 in
theorem mX8_split (d : Nat) (h : mm_H) (B : Nat → Int32) (n : Nat) (hn : n ≤ 400) (hB : ∀ i, i < n → h.1 1 i = B i) : ∃ g, mm_M (d + 7) YX8_split [.ref 4, .ref 1, .int (nI n)] h none g ∧ TX B n g (sk B n 0) 0 ∧ frm (rg 4 7) h g := by
  suffices hE : mm_E (d + 7) YX8_split 0 [some (.ref 4), some (.ref 1), some (.int (nI n)), none, none] [] h (fun v g => v = none ∧ TX B n g (sk B n 0) 0 ∧ frm (rg 4 7) h g) by
    obtain ⟨v, g, hR, rfl, h1⟩ := hE
    exact ⟨g, mm_M.of _ rfl rfl (Nat.le_of_ble_eq_true rfl) hR, h1⟩
  have upd4 : ∀ (gg : mm_H) (s : Nat) (k q x : Int32), frm (rg 4 7) h gg → tbl B n gg s → frm (rg 4 7) h (mm_up (mm_up (mm_up (mm_up gg.1 5 s k) 6 s q) 7 s x) 4 3 (nI (s + 1)), gg.2.1, gg.2.2) ∧ (∀ i, i < s → (mm_up (mm_up (mm_up (mm_up gg.1 5 s k) 6 s q) 7 s x) 4 3 (nI (s + 1))) 5 i = nI (kd B n (tpp B n i)) ∧ (mm_up (mm_up (mm_up (mm_up gg.1 5 s k) 6 s q) 7 s x) 4 3 (nI (s + 1))) 6 i = nI (tpp B n i) ∧ (mm_up (mm_up (mm_up (mm_up gg.1 5 s k) 6 s q) 7 s x) 4 3 (nI (s + 1))) 7 i = num B n (tpp B n i)) := by
    intro gg s k q x fg ht
    refine ⟨(((fg.up (c := 5) rfl).up (c := 6) rfl).up (c := 7) rfl).up (c := 4) rfl, fun i hi => ?_⟩
    obtain ⟨a, b, c⟩ := ht i hi
    refine ⟨?_, ?_, ?_⟩
    · rw [mm_up_n (by decide), mm_up_n (by decide), mm_up_n (by decide), mm_up_k (by omega)]; exact a
    · rw [mm_up_n (by decide), mm_up_n (by decide), mm_up_k (by omega), mm_up_n (by decide)]; exact b
    · rw [mm_up_n (by decide), mm_up_k (by omega), mm_up_n (by decide), mm_up_n (by decide)]; exact c
  have atS : ∀ (gg : mm_H) (s : Nat) (k q x : Int32), (mm_up (mm_up (mm_up (mm_up gg.1 5 s k) 6 s q) 7 s x) 4 3 (nI (s + 1))) 5 s = k ∧ (mm_up (mm_up (mm_up (mm_up gg.1 5 s k) 6 s q) 7 s x) 4 3 (nI (s + 1))) 6 s = q ∧ (mm_up (mm_up (mm_up (mm_up gg.1 5 s k) 6 s q) 7 s x) 4 3 (nI (s + 1))) 7 s = x := by
    intro gg s k q x
    refine ⟨?_, ?_, ?_⟩
    · rw [mm_up_n (by decide), mm_up_n (by decide), mm_up_n (by decide), mm_up_e]
    · rw [mm_up_n (by decide), mm_up_n (by decide), mm_up_e]
    · rw [mm_up_n (by decide), mm_up_e]
  have oth4 : ∀ (gg : mm_H) (s : Nat) (k q x : Int32) (j : Nat), j ≠ 3 → (mm_up (mm_up (mm_up (mm_up gg.1 5 s k) 6 s q) 7 s x) 4 3 (nI (s + 1))) 4 j = gg.1 4 j := by
    intro gg s k q x j hj
    rw [mm_up_k hj, mm_up_n (by decide), mm_up_n (by decide), mm_up_n (by decide)]
  have K18 : ∀ m p, p + m = n → ∀ s gg, (frm (rg 4 7) h gg ∧ gg.1 4 3 = nI s ∧ gg.1 4 4 = 0 ∧ gg.1 4 5 = 0 ∧ tbl B n gg s ∧ (∀ i, i < s → tpp B n i < n) ∧ tpp B n s = sk B n p ∧ s ≤ p) → ∀ x3, mm_E (d + 7) YX8_split 18 [some (.ref 4), some (.ref 1), some (.int (nI n)), x3, some (.int (nI p))] [] gg (fun v g => v = none ∧ TX B n g (sk B n 0) 0 ∧ frm (rg 4 7) h g) := by
    intro m
    induction m using Nat.strongRecOn with
    | _ m ih =>
    intro p hm s gg S x3
    obtain ⟨s1, s2, s3, s4, s5, s6, s7, s8⟩ := S
    by_cases hpn : p = n
    · have e0 : sk B n p = n := by rw [hpn]; exact sk_n (Nat.le_refl _)
      have MA := mX8_append (d + 6) gg s s2 (by omega) 0 (nI n) 0
      obtain ⟨f1, f2⟩ := upd4 gg s 0 (nI n) 0 s1 s5
      obtain ⟨a1, a2, a3⟩ := atS gg s 0 (nI n) 0
      have hT : TX B n (mm_up (mm_up (mm_up (mm_up gg.1 5 s 0) 6 s (nI n)) 7 s 0) 4 3 (nI (s + 1)), gg.2.1, gg.2.2) (sk B n 0) 0 := by
        refine ⟨s + 1, 0, by dsimp only; rw [mm_up_e], by omega, by omega, by rw [show s + 1 - 1 = s by omega, s7, e0], fun i hi => s6 i (by omega), fun i hi => ?_, by dsimp only; rw [oth4 _ _ _ _ _ _ (by decide)]; exact s3, rfl, by dsimp only; rw [oth4 _ _ _ _ _ _ (by decide)]; exact s4⟩
        dsimp only
        by_cases z : i = s
        · rw [z, a1, a2, a3, s7, e0]
          refine ⟨?_, rfl, ?_⟩
          · unfold kd; rw [if_pos (Nat.le_refl _)]; rfl
          · unfold num; rw [if_pos (Nat.le_refl _)]
        · exact f2 i (by omega)
      rw [hpn]
      refine mm_Es (fun _ _ => mm_iload dX8_split_18 rfl) ?_
      refine mm_Es (fun _ _ => mm_iload_n dX8_split_20 rfl rfl) ?_
      refine mm_Eb (fun _ _ => mm_icmp_ge 64 dX8_split_21 (by decide)) (fun c_21 => ?_) (fun c_21 => ?_)
      · refine mm_Es (fun _ _ => mm_aload_n dX8_split_64 rfl rfl) ?_
        refine mm_Es (fun _ _ => mm_iconst (x := 0) dX8_split_65 (by decide)) ?_
        refine mm_Es (fun _ _ => mm_iload_n dX8_split_66 rfl rfl) ?_
        refine mm_Es (fun _ _ => mm_iconst (x := 0) dX8_split_67 (by decide)) ?_
        refine mm_Es (fun _ _ => mm_cV (Y1 := YX8_append) dX8_split_68 lX8_45 vX8_append (MA) sh_4 rfl rfl (by simp [Value.category])) ?_
        refine mm_Er (mm_return dX8_split_71 rfl) ?_
        exact ⟨rfl, hT, f1⟩
      · exact absurd (Int32.le_refl _) c_21
    · have hp : p < n := by omega
      have eb : gg.1 1 p = B p := by rw [s1.i rfl]; exact hB p hp
      have hBg : ∀ i, i < n → gg.1 1 i = B i := fun i hi => by rw [s1.i rfl]; exact hB i hi
      by_cases hbl : B p = 32
      · have K := ih (n - (p + 1)) (by omega) (p + 1) (by omega) s gg ⟨s1, s2, s3, s4, s5, s6, by rw [s7]; exact sk_b hp hbl, by omega⟩
        refine mm_Es (fun _ _ => mm_iload dX8_split_18 rfl) ?_
        refine mm_Es (fun _ _ => mm_iload_n dX8_split_20 rfl rfl) ?_
        refine mm_Eb (fun _ _ => mm_icmp_ge 64 dX8_split_21 (by decide)) (fun c_21 => ?_) (fun c_21 => ?_)
        · exact absurd c_21 (nI_ge hp (by omega))
        · refine mm_Es (fun _ _ => mm_iload dX8_split_24 rfl) ?_
          refine mm_Es (fun _ _ => mm_iconst (x := 1) dX8_split_26 (by decide)) ?_
          refine mm_Es (fun _ _ => mm_iadd dX8_split_27) ?_
          refine mm_Es (fun _ _ => mm_cast (st' := [.int (nI (p + 1))]) rfl (by rw [nI_succ] <;> rfl) rfl) ?_
          refine mm_Es (fun _ _ => mm_istore_n dX8_split_28 rfl (by decide) rfl) ?_
          refine mm_Es (fun _ _ => mm_aload_n dX8_split_29 rfl rfl) ?_
          refine mm_Es (fun _ _ => mm_iload dX8_split_30 rfl) ?_
          refine mm_Es (fun _ _ => mm_bald (p) dX8_split_32 sh_1 rfl (by omega)) ?_
          refine mm_Es (fun _ _ => mm_cast (st' := [.int (B p)]) rfl (by rw [eb] <;> rfl) rfl) ?_
          refine mm_Es (fun _ _ => mm_bipush (x := 32) dX8_split_33 (by decide)) ?_
          refine mm_Eb (fun _ _ => mm_icmp_eq 58 dX8_split_35 (by decide)) (fun c_35 => ?_) (fun c_35 => ?_)
          · refine mm_Es (fun _ _ => mm_iload_n dX8_split_58 rfl rfl) ?_
            refine mm_Es (fun _ _ => mm_istore dX8_split_59 (by decide) rfl) ?_
            refine mm_Es (fun _ _ => mm_goto 18 dX8_split_61 (by decide)) ?_
            exact K _
          · exact absurd hbl c_35
      · have e0 : tpp B n s = p := by rw [s7]; exact sk_o hbl
        have hen := en_bd (B := B) hp
        have MP := mX8_pieceEnd (d + 5) gg B n hn hBg p hp
        have MA := mX8_addPiece d gg B n hn hBg s s2 (by omega) p hp
        obtain ⟨f1, f2⟩ := upd4 gg s (nI (kd B n p)) (nI p) (num B n p) s1 s5
        obtain ⟨a1, a2, a3⟩ := atS gg s (nI (kd B n p)) (nI p) (num B n p)
        have K := ih (n - en B n p) (by omega) (en B n p) (by omega) (s + 1) _ ⟨f1, by dsimp only; rw [mm_up_e], by dsimp only; rw [oth4 _ _ _ _ _ _ (by decide)]; exact s3, by dsimp only; rw [oth4 _ _ _ _ _ _ (by decide)]; exact s4, fun i hi => by
          dsimp only
          by_cases z : i = s
          · rw [z, a1, a2, a3, e0]; exact ⟨rfl, rfl, rfl⟩
          · exact f2 i (by omega), fun i hi => by
          by_cases z : i = s
          · rw [z, e0]; exact hp
          · exact s6 i (by omega), by
          simp only [tpp]
          rw [e0]
          unfold nx
          rw [if_neg (by omega)], by omega⟩
        have emx : (if nI (p + 1) < nI (en B n p) then nI (en B n p) else nI (p + 1)) = nI (en B n p) := by
          by_cases z : p + 1 < en B n p
          · rw [if_pos (nI_lt z (by omega))]
          · rw [if_neg (nI_nlt (by omega) (by omega)), show en B n p = p + 1 by omega]
        refine mm_Es (fun _ _ => mm_iload dX8_split_18 rfl) ?_
        refine mm_Es (fun _ _ => mm_iload_n dX8_split_20 rfl rfl) ?_
        refine mm_Eb (fun _ _ => mm_icmp_ge 64 dX8_split_21 (by decide)) (fun c_21 => ?_) (fun c_21 => ?_)
        · exact absurd c_21 (nI_ge hp (by omega))
        · refine mm_Es (fun _ _ => mm_iload dX8_split_24 rfl) ?_
          refine mm_Es (fun _ _ => mm_iconst (x := 1) dX8_split_26 (by decide)) ?_
          refine mm_Es (fun _ _ => mm_iadd dX8_split_27) ?_
          refine mm_Es (fun _ _ => mm_cast (st' := [.int (nI (p + 1))]) rfl (by rw [nI_succ] <;> rfl) rfl) ?_
          refine mm_Es (fun _ _ => mm_istore_n dX8_split_28 rfl (by decide) rfl) ?_
          refine mm_Es (fun _ _ => mm_aload_n dX8_split_29 rfl rfl) ?_
          refine mm_Es (fun _ _ => mm_iload dX8_split_30 rfl) ?_
          refine mm_Es (fun _ _ => mm_bald (p) dX8_split_32 sh_1 rfl (by omega)) ?_
          refine mm_Es (fun _ _ => mm_cast (st' := [.int (B p)]) rfl (by rw [eb] <;> rfl) rfl) ?_
          refine mm_Es (fun _ _ => mm_bipush (x := 32) dX8_split_33 (by decide)) ?_
          refine mm_Eb (fun _ _ => mm_icmp_eq 58 dX8_split_35 (by decide)) (fun c_35 => ?_) (fun c_35 => ?_)
          · exact absurd c_35 hbl
          · refine mm_Es (fun _ _ => mm_iload_n dX8_split_38 rfl rfl) ?_
            refine mm_Es (fun _ _ => mm_aload_n dX8_split_39 rfl rfl) ?_
            refine mm_Es (fun _ _ => mm_iload dX8_split_40 rfl) ?_
            refine mm_Es (fun _ _ => mm_iload_n dX8_split_42 rfl rfl) ?_
            refine mm_Es (fun _ _ => mm_cS (Y1 := YX8_pieceEnd) dX8_split_43 lX8_31 sX8_pieceEnd (MP) rfl rfl (by simp [Value.category])) ?_
            refine mm_Es (fun _ _ => mm_maxI dX8_split_46 lX8_35 (by simp [Value.category])) ?_
            refine mm_Es (fun _ _ => mm_cast (st' := [.int (nI (en B n p))]) rfl (by rw [emx] <;> rfl) rfl) ?_
            refine mm_Es (fun _ _ => mm_istore_n dX8_split_49 rfl (by decide) rfl) ?_
            refine mm_Es (fun _ _ => mm_aload_n dX8_split_50 rfl rfl) ?_
            refine mm_Es (fun _ _ => mm_aload_n dX8_split_51 rfl rfl) ?_
            refine mm_Es (fun _ _ => mm_iload dX8_split_52 rfl) ?_
            refine mm_Es (fun _ _ => mm_iload_n dX8_split_54 rfl rfl) ?_
            refine mm_Es (fun _ _ => mm_cV (Y1 := YX8_addPiece) dX8_split_55 lX8_41 vX8_addPiece (MA) sh_4 rfl rfl (by simp [Value.category])) ?_
            refine mm_Es (fun _ _ => mm_iload_n dX8_split_58 rfl rfl) ?_
            refine mm_Es (fun _ _ => mm_istore dX8_split_59 (by decide) rfl) ?_
            refine mm_Es (fun _ _ => mm_goto 18 dX8_split_61 (by decide)) ?_
            exact K _
  have K := K18 n 0 (by omega) 0 (mm_up (mm_up (mm_up h.1 4 3 0) 4 4 0) 4 5 0, h.2.1, h.2.2) ⟨(((frm.refl _ h).up (c := 4) rfl).up (c := 4) rfl).up (c := 4) rfl, by dsimp only; rw [mm_up_k (by decide), mm_up_k (by decide), mm_up_e]; rfl, by dsimp only; rw [mm_up_k (by decide), mm_up_e], by dsimp only; rw [mm_up_e], fun i hi => by omega, fun i hi => by omega, rfl, Nat.le_refl _⟩ none
  refine mm_Es (fun _ _ => mm_aload_n dX8_split_0 rfl rfl) ?_
  refine mm_Es (fun _ _ => mm_iconst (x := 0) dX8_split_1 (by decide)) ?_
  refine mm_Es (fun _ _ => mm_putI dX8_split_2 fX8_21 sh_4 rfl rfl rfl) ?_
  refine mm_Es (fun _ _ => mm_aload_n dX8_split_5 rfl rfl) ?_
  refine mm_Es (fun _ _ => mm_iconst (x := 0) dX8_split_6 (by decide)) ?_
  refine mm_Es (fun _ _ => mm_putI dX8_split_7 fX8_25 sh_4 rfl rfl rfl) ?_
  refine mm_Es (fun _ _ => mm_aload_n dX8_split_10 rfl rfl) ?_
  refine mm_Es (fun _ _ => mm_iconst (x := 0) dX8_split_11 (by decide)) ?_
  refine mm_Es (fun _ _ => mm_putI dX8_split_12 fX8_28 sh_4 rfl rfl rfl) ?_
  refine mm_Es (fun _ _ => mm_iconst (x := 0) dX8_split_15 (by decide)) ?_
  refine mm_Es (fun _ _ => mm_istore dX8_split_16 (by decide) rfl) ?_
  exact K
set_option maxRecDepth 100000 in
set_option maxHeartbeats 4000000 in
theorem mX8_kind (d : Nat) (h : mm_H) (B : Nat → Int32) (n pos ft : Nat) (t : TX B n h pos ft) : mm_M d YX8_kind [.ref 4] h (some (.int (nI (kd B n pos)))) h := by
  obtain ⟨N, j, a, b, c, e, e2, tb, g1, g2, g3⟩ := t
  obtain ⟨q1, q2, q3⟩ := tb j c
  refine mm_M.of [some (.ref 4)] rfl rfl (Nat.le_of_ble_eq_true rfl) ?_
  refine mm_aload_n dX8_kind_0 rfl rfl ?_
  refine mm_getI dX8_kind_1 fX8_25 sh_4 rfl ?_
  refine mm_aload_n dX8_kind_4 rfl rfl ?_
  refine mm_getI dX8_kind_5 fX8_21 sh_4 rfl ?_
  refine mm_icmp_ge 23 dX8_kind_8 (by decide) (fun c_8 => ?_) (fun c_8 => ?_)
  · exact absurd c_8 (by rw [a, g1]; exact nI_ge c (by omega))
  · refine mm_aload_n dX8_kind_11 rfl rfl ?_
    refine mm_getS dX8_kind_12 fX8_9 sh_4 rfl gr_4_0 ?_
    refine mm_aload_n dX8_kind_15 rfl rfl ?_
    refine mm_getI dX8_kind_16 fX8_25 sh_4 rfl ?_
    refine mm_iald (j) dX8_kind_19 sh_5 g1 (by omega) ?_
    refine mm_goto 24 dX8_kind_20 (by decide) ?_
    exact mm_iretE dX8_kind_24 rfl (by rw [q1, g2]) rfl
set_option maxRecDepth 100000 in
set_option maxHeartbeats 4000000 in
theorem mX8_number (d : Nat) (h : mm_H) (B : Nat → Int32) (n pos ft : Nat) (t : TX B n h pos ft) : mm_M d YX8_number [.ref 4] h (some (.int (num B n pos))) h := by
  obtain ⟨N, j, a, b, c, e, e2, tb, g1, g2, g3⟩ := t
  obtain ⟨q1, q2, q3⟩ := tb j c
  refine mm_M.of [some (.ref 4)] rfl rfl (Nat.le_of_ble_eq_true rfl) ?_
  refine mm_aload_n dX8_number_0 rfl rfl ?_
  refine mm_getI dX8_number_1 fX8_25 sh_4 rfl ?_
  refine mm_aload_n dX8_number_4 rfl rfl ?_
  refine mm_getI dX8_number_5 fX8_21 sh_4 rfl ?_
  refine mm_icmp_ge 23 dX8_number_8 (by decide) (fun c_8 => ?_) (fun c_8 => ?_)
  · exact absurd c_8 (by rw [a, g1]; exact nI_ge c (by omega))
  · refine mm_aload_n dX8_number_11 rfl rfl ?_
    refine mm_getS dX8_number_12 fX8_18 sh_4 rfl gr_4_2 ?_
    refine mm_aload_n dX8_number_15 rfl rfl ?_
    refine mm_getI dX8_number_16 fX8_25 sh_4 rfl ?_
    refine mm_iald (j) dX8_number_19 sh_7 g1 (by omega) ?_
    refine mm_goto 24 dX8_number_20 (by decide) ?_
    exact mm_iretE dX8_number_24 rfl (by rw [q3, g2]) rfl
set_option maxRecDepth 100000 in
set_option maxHeartbeats 4000000 in
theorem mX8_step (d : Nat) (h : mm_H) (B : Nat → Int32) (n pos ft : Nat) (t : TX B n h pos ft) : ∃ g, mm_M d YX8_step [.ref 4] h none g ∧ TX B n g (nx B n pos) ft ∧ frm (onep 4) h g := by
  obtain ⟨N, j, a, b, c, e, e2, tb, g1, g2, g3⟩ := t
  by_cases hj : j + 1 < N
  · refine ⟨(mm_up h.1 4 4 (nI (j + 1)), h.2.1, h.2.2), ?_, ⟨N, j + 1, by dsimp only; rw [mm_up_k (by decide)]; exact a, b, hj, e, e2, fun i hi => by dsimp only; rw [mm_up_n (by decide), mm_up_n (by decide), mm_up_n (by decide)]; exact tb i hi, by dsimp only; rw [mm_up_e], by simp only [tpp]; rw [g2], by dsimp only; rw [mm_up_k (by decide)]; exact g3⟩, (frm.refl _ h).up (c := 4) rfl⟩
    refine mm_M.of [some (.ref 4)] rfl rfl (Nat.le_of_ble_eq_true rfl) ?_
    refine mm_aload_n dX8_step_0 rfl rfl ?_
    refine mm_getI dX8_step_1 fX8_25 sh_4 rfl ?_
    refine mm_aload_n dX8_step_4 rfl rfl ?_
    refine mm_getI dX8_step_5 fX8_21 sh_4 rfl ?_
    refine mm_iconst (x := 1) dX8_step_8 (by decide) ?_
    refine mm_isub dX8_step_9 ?_
    refine mm_icmp_ge 23 dX8_step_10 (by decide) (fun c_10 => ?_) (fun c_10 => ?_)
    · exact absurd c_10 (by rw [a, g1, show N = (N - 1) + 1 by omega, nI_pred]; exact nI_ge (by omega) (by omega))
    · refine mm_aload_n dX8_step_13 rfl rfl ?_
      refine mm_dup dX8_step_14 rfl ?_
      refine mm_getI dX8_step_15 fX8_25 sh_4 rfl ?_
      refine mm_iconst (x := 1) dX8_step_18 (by decide) ?_
      refine mm_iadd dX8_step_19 ?_
      refine mm_putI dX8_step_20 fX8_25 sh_4 rfl rfl rfl ?_
      exact mm_retE dX8_step_23 rfl (by rw [g1, nI_succ])
  · have hjN : j = N - 1 := by omega
    have hpn : pos = n := by rw [← g2, hjN]; exact e
    have hnx : nx B n pos = pos := by unfold nx; rw [hpn, if_pos (Nat.le_refl _)]
    refine ⟨h, ?_, by rw [hnx]; exact ⟨N, j, a, b, c, e, e2, tb, g1, g2, g3⟩, frm.refl _ h⟩
    refine mm_M.of [some (.ref 4)] rfl rfl (Nat.le_of_ble_eq_true rfl) ?_
    refine mm_aload_n dX8_step_0 rfl rfl ?_
    refine mm_getI dX8_step_1 fX8_25 sh_4 rfl ?_
    refine mm_aload_n dX8_step_4 rfl rfl ?_
    refine mm_getI dX8_step_5 fX8_21 sh_4 rfl ?_
    refine mm_iconst (x := 1) dX8_step_8 (by decide) ?_
    refine mm_isub dX8_step_9 ?_
    refine mm_icmp_ge 23 dX8_step_10 (by decide) (fun c_10 => ?_) (fun c_10 => ?_)
    · exact mm_retE dX8_step_23 rfl rfl
    · exact absurd (by rw [a, g1, show N = (N - 1) + 1 by omega, nI_pred, hjN]; exact Int32.le_refl _) c_10
/-- the first fault stays -/
def flt (ft pos why : Nat) : Nat := if ft = 0 then 1 + 8 * pos + why else ft
set_option maxRecDepth 100000 in
set_option maxHeartbeats 4000000 in
theorem mX8_fail (d : Nat) (h : mm_H) (B : Nat → Int32) (n pos ft : Nat) (t : TX B n h pos ft) (hn : n ≤ 400) (hft : ft < 4000) (why : Nat) (hw : why < 8) : ∃ g, mm_M d YX8_fail [.ref 4, .int (nI why)] h none g ∧ TX B n g pos (flt ft pos why) ∧ frm (onep 4) h g := by
  have hle := t.le
  have t0 := t
  obtain ⟨N, j, a, b, c, e, e2, tb, g1, g2, g3⟩ := t
  obtain ⟨q1, q2, q3⟩ := tb j c
  by_cases hf : ft = 0
  · have ef : flt ft pos why = 1 + 8 * pos + why := by unfold flt; rw [if_pos hf]
    rw [ef]
    refine ⟨(mm_up h.1 4 5 (nI (1 + 8 * pos + why)), h.2.1, h.2.2), ?_, ⟨N, j, by dsimp only; rw [mm_up_k (by decide)]; exact a, b, c, e, e2, fun i hi => by dsimp only; rw [mm_up_n (by decide), mm_up_n (by decide), mm_up_n (by decide)]; exact tb i hi, by dsimp only; rw [mm_up_k (by decide)]; exact g1, g2, by dsimp only; rw [mm_up_e]⟩, (frm.refl _ h).up (c := 4) rfl⟩
    refine mm_M.of [some (.ref 4), some (.int (nI why))] rfl rfl (Nat.le_of_ble_eq_true rfl) ?_
    refine mm_aload_n dX8_fail_0 rfl rfl ?_
    refine mm_getI dX8_fail_1 fX8_28 sh_4 rfl ?_
    refine mm_if_ne 38 dX8_fail_4 (by decide) (fun c_4 => ?_) (fun c_4 => ?_)
    · exact absurd (by rw [g3, hf]; rfl) c_4
    · refine mm_aload_n dX8_fail_7 rfl rfl ?_
      refine mm_getI dX8_fail_8 fX8_25 sh_4 rfl ?_
      refine mm_aload_n dX8_fail_11 rfl rfl ?_
      refine mm_getI dX8_fail_12 fX8_21 sh_4 rfl ?_
      refine mm_icmp_ge 38 dX8_fail_15 (by decide) (fun c_15 => ?_) (fun c_15 => ?_)
      · exact absurd c_15 (by rw [a, g1]; exact nI_ge c (by omega))
      · refine mm_aload_n dX8_fail_18 rfl rfl ?_
        refine mm_iconst (x := 1) dX8_fail_19 (by decide) ?_
        refine mm_bipush (x := 8) dX8_fail_20 (by decide) ?_
        refine mm_aload_n dX8_fail_22 rfl rfl ?_
        refine mm_getS dX8_fail_23 fX8_15 sh_4 rfl gr_4_1 ?_
        refine mm_aload_n dX8_fail_26 rfl rfl ?_
        refine mm_getI dX8_fail_27 fX8_25 sh_4 rfl ?_
        refine mm_iald (j) dX8_fail_30 sh_6 g1 (by omega) ?_
        refine mm_imul dX8_fail_31 ?_
        refine mm_iadd dX8_fail_32 ?_
        refine mm_iload_n dX8_fail_33 rfl rfl ?_
        refine mm_iadd dX8_fail_34 ?_
        refine mm_putI dX8_fail_35 fX8_28 sh_4 rfl rfl rfl ?_
        exact mm_retE dX8_fail_38 rfl (by rw [q2, g2, show (8 : Int32) = nI 8 from rfl, show (1 : Int32) = nI 1 from rfl, nI_mul, nI_add, nI_add])
  · have ef : flt ft pos why = ft := by unfold flt; rw [if_neg hf]
    rw [ef]
    refine ⟨h, ?_, t0, frm.refl _ h⟩
    refine mm_M.of [some (.ref 4), some (.int (nI why))] rfl rfl (Nat.le_of_ble_eq_true rfl) ?_
    refine mm_aload_n dX8_fail_0 rfl rfl ?_
    refine mm_getI dX8_fail_1 fX8_28 sh_4 rfl ?_
    refine mm_if_ne 38 dX8_fail_4 (by decide) (fun c_4 => ?_) (fun c_4 => ?_)
    · exact mm_retE dX8_fail_38 rfl rfl
    · exact absurd ((nI_eq (b := 0) (by omega) (by omega)).mp (g3.symm.trans c_4)) hf
