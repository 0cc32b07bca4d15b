/-! The reference reads a law: entries, values. -/
/-- the reference's reader of a law -/
def zm_S (B : Nat → Int32) (n : Nat) (h : mm_H) (r : Nat) (s : zl_S) (p : Nat) : Prop := MT B n h p 0 ∧ p ≤ n ∧ sk B n p = s.1 ∧ h.1 165 27 = nI s.2.1 ∧ h.1 165 25 = nI s.2.2.length ∧ h.1 165 23 = nI r ∧ h.1 165 29 = 10 ∧ (∀ k, k < s.2.2.length → h.1 186 (300 * r + k) = nI (rs (s.2.2.getD k 0)) ∧ h.1 187 (300 * r + k) = nI (rn (s.2.2.getD k 0))) ∧ s.2.1 ≤ 60
/-- it has met a fault -/
def ME (B : Nat → Int32) (n : Nat) (h : mm_H) (r c : Nat) : Prop := ∃ p, MT B n h p c ∧ p ≤ n ∧ ¬ c = 0 ∧ c < 4000 ∧ h.1 165 23 = nI r ∧ h.1 165 29 = 10
def pMV : Nat → Bool := fun c => c == 165 || c == 186 || c == 187
def mv_fr (r : Nat) (h g : mm_H) : Prop := frm pMV h g ∧ (∀ j, j ≠ 21 → j ≠ 22 → j ≠ 25 → j ≠ 27 → g.1 165 j = h.1 165 j) ∧ ∀ k, (k < 300 * r ∨ 300 * r + 300 ≤ k) → g.1 186 k = h.1 186 k ∧ g.1 187 k = h.1 187 k
theorem mv_fr.refl (r : Nat) (h : mm_H) : mv_fr r h h := ⟨frm.refl _ _, fun _ _ _ _ _ => rfl, fun _ _ => ⟨rfl, rfl⟩⟩
theorem mv_fr.trans {r : Nat} {h g k : mm_H} (a : mv_fr r h g) (b : mv_fr r g k) : mv_fr r h k := ⟨a.1.trans b.1, fun j h1 h2 h3 h4 => (b.2.1 j h1 h2 h3 h4).trans (a.2.1 j h1 h2 h3 h4), fun i hi => ⟨(b.2.2 i hi).1.trans (a.2.2 i hi).1, (b.2.2 i hi).2.trans (a.2.2 i hi).2⟩⟩
/-- only p, fault and counted have changed -/
def mc_fr (h g : mm_H) : Prop := frm (onep 165) h g ∧ ∀ j, j ≠ 21 → j ≠ 22 → j ≠ 27 → g.1 165 j = h.1 165 j
theorem mc_fr.trans {h g k : mm_H} (a : mc_fr h g) (b : mc_fr g k) : mc_fr h k := ⟨a.1.trans b.1, fun j h1 h2 h3 => (b.2 j h1 h2 h3).trans (a.2 j h1 h2 h3)⟩
theorem mt_fr.mc {h g : mm_H} (a : mt_fr h g) : mc_fr h g := ⟨a.1, fun j h1 h2 _ => a.2 j h1 h2⟩
theorem mc_fr.mv {r : Nat} {h g : mm_H} (a : mc_fr h g) : mv_fr r h g := ⟨a.1.mono (fun c hc => by simp only [pMV, Bool.or_eq_false_iff] at hc; exact hc.1.1), fun j h1 h2 _ h4 => a.2 j h1 h2 h4, fun k _ => ⟨by rw [a.1.i (c := 186) rfl], by rw [a.1.i (c := 187) rfl]⟩⟩
theorem ME.fr {B : Nat → Int32} {n r c p : Nat} {h g : mm_H} (S : ME B n h r c) (a : mc_fr h g) (t : MT B n g p c) (hp : p ≤ n) : ME B n g r c := by
  obtain ⟨-, -, -, h1, h2, h3, h4⟩ := S
  exact ⟨p, t, hp, h1, h2, by rw [a.2 23 (by decide) (by decide) (by decide)]; exact h3, by rw [a.2 29 (by decide) (by decide) (by decide)]; exact h4⟩
theorem zm_S.e {B : Nat → Int32} {n r c p q : Nat} {s : zl_S} {h g : mm_H} (S : zm_S B n h r s q) (a : mc_fr h g) (t : MT B n g p c) (hp : p ≤ n) (h1 : ¬ c = 0) (h2 : c < 4000) : ME B n g r c := by
  obtain ⟨-, -, -, -, -, h3, h4, -⟩ := S
  exact ⟨p, t, hp, h1, h2, by rw [a.2 23 (by decide) (by decide) (by decide)]; exact h3, by rw [a.2 29 (by decide) (by decide) (by decide)]; exact h4⟩
theorem zm_S.to {B : Nat → Int32} {n r p q v pos : Nat} {s : zl_S} {h g : mm_H} (S : zm_S B n h r s q) (a : mc_fr h g) (t : MT B n g p 0) (hp : p ≤ n) (hk : sk B n p = pos) (hc : g.1 165 27 = nI v) (hv : v ≤ 60) : zm_S B n g r (pos, v, s.2.2) p := by
  obtain ⟨-, -, -, -, h2, h3, h4, h5, -⟩ := S
  exact ⟨t, hp, hk, hc, by rw [a.2 25 (by decide) (by decide) (by decide)]; exact h2, by rw [a.2 23 (by decide) (by decide) (by decide)]; exact h3, by rw [a.2 29 (by decide) (by decide) (by decide)]; exact h4, fun k hk => by rw [a.1.i (c := 186) rfl, a.1.i (c := 187) rfl]; exact h5 k hk, hv⟩
/-- p alone has changed -/
theorem zm_S.p {B : Nat → Int32} {n r p q : Nat} {s : zl_S} {h g : mm_H} (S : zm_S B n h r s q) (a : mt_fr h g) (t : MT B n g p 0) (hp : p ≤ n) (hk : sk B n p = s.1) : zm_S B n g r s p := S.to a.mc t hp hk (by rw [a.2 27 (by decide) (by decide)]; exact S.2.2.2.1) S.2.2.2.2.2.2.2.2
theorem zm_S.a {B : Nat → Int32} {n r p q : Nat} {s : zl_S} {h g : mm_H} (S : zm_S B n h r s q) (a : mt_fr h g) (t : MT B n g p 0) (hp : p ≤ n) (hk : sk B n p = nx B n s.1) : zm_S B n g r (zl_a B n s) p := S.to a.mc t hp hk (by rw [a.2 27 (by decide) (by decide)]; exact S.2.2.2.1) S.2.2.2.2.2.2.2.2
set_option maxRecDepth 100000 in
set_option maxHeartbeats 4000000 in
theorem mX11_entry_y (d : Nat) (h : mm_H) (r : Nat) (hr : r < 6) (l : Nat) (hf : h.1 165 22 = 0) (hs : h.1 165 23 = nI r) (he : h.1 165 25 = nI l) (hl : l < 300) (k v : Int32) : mm_M d YX11_entry [.ref 165, .int k, .int v] h none (mm_up (mm_up (mm_up h.1 186 (300 * r + l) k) 187 (300 * r + l) v) 165 25 (nI (l + 1)), h.2.1, h.2.2) := by
  have e1 : (300 : Int32) * nI r = nI (300 * r) := pk_mul 300 r
  refine mm_M.of [some (.ref 165), some (.int k), some (.int v)] rfl rfl (Nat.le_of_ble_eq_true rfl) ?_
  refine mm_aload_n dX11_entry_0 rfl rfl ?_
  refine mm_getI dX11_entry_1 fX11_208 sh_165 rfl ?_
  refine mm_if_ne 55 dX11_entry_4 (by decide) (fun c_4 => ?_) (fun c_4 => ?_)
  · exact absurd hf c_4
  · refine mm_aload_n dX11_entry_7 rfl rfl ?_
    refine mm_getS dX11_entry_8 fX11_75 sh_165 rfl gr_165_33 ?_
    refine mm_sipush (x := 300) dX11_entry_11 (by decide) ?_
    refine mm_aload_n dX11_entry_14 rfl rfl ?_
    refine mm_getI dX11_entry_15 fX11_238 sh_165 rfl ?_
    refine mm_imul dX11_entry_18 ?_
    refine mm_aload_n dX11_entry_19 rfl rfl ?_
    refine mm_getI dX11_entry_20 fX11_241 sh_165 rfl ?_
    refine mm_iadd dX11_entry_23 ?_
    refine mm_iload_n dX11_entry_24 rfl rfl ?_
    refine mm_iast (300 * r + l) dX11_entry_25 sh_186 (by rw [hs, he, e1, nI_add]) (by omega) ?_
    refine mm_aload_n dX11_entry_26 rfl rfl ?_
    refine mm_getS dX11_entry_27 fX11_78 sh_165 rfl gr_165_34 ?_
    refine mm_sipush (x := 300) dX11_entry_30 (by decide) ?_
    refine mm_aload_n dX11_entry_33 rfl rfl ?_
    refine mm_getI dX11_entry_34 fX11_238 sh_165 rfl ?_
    refine mm_imul dX11_entry_37 ?_
    refine mm_aload_n dX11_entry_38 rfl rfl ?_
    refine mm_getI dX11_entry_39 fX11_241 sh_165 rfl ?_
    refine mm_iadd dX11_entry_42 ?_
    refine mm_iload_n dX11_entry_43 rfl rfl ?_
    refine mm_iast (300 * r + l) dX11_entry_44 sh_187 (by dsimp only; rw [mm_up_n (by decide), hs, he, e1, nI_add]) (by omega) ?_
    refine mm_aload_n dX11_entry_45 rfl rfl ?_
    refine mm_dup dX11_entry_46 rfl ?_
    refine mm_getI dX11_entry_47 fX11_241 sh_165 rfl ?_
    refine mm_iconst (x := 1) dX11_entry_50 (by decide) ?_
    refine mm_iadd dX11_entry_51 ?_
    refine mm_putI dX11_entry_52 fX11_241 sh_165 rfl rfl rfl ?_
    exact mm_retE dX11_entry_55 rfl (by dsimp only; rw [mm_up_n (by decide), mm_up_n (by decide), he, nI_succ])
set_option maxRecDepth 100000 in
set_option maxHeartbeats 4000000 in
theorem mX11_entry_x (d : Nat) (h : mm_H) (hf : ¬ h.1 165 22 = 0) (k v : Int32) : mm_M d YX11_entry [.ref 165, .int k, .int v] h none h := by
  refine mm_M.of [some (.ref 165), some (.int k), some (.int v)] rfl rfl (Nat.le_of_ble_eq_true rfl) ?_
  refine mm_aload_n dX11_entry_0 rfl rfl ?_
  refine mm_getI dX11_entry_1 fX11_208 sh_165 rfl ?_
  refine mm_if_ne 55 dX11_entry_4 (by decide) (fun c_4 => ?_) (fun c_4 => ?_)
  · exact mm_retE dX11_entry_55 rfl rfl
  · exact absurd c_4 hf
theorem ME.f0 {B : Nat → Int32} {n r c : Nat} {h : mm_H} (S : ME B n h r c) : ¬ h.1 165 22 = 0 := by
  obtain ⟨p, t, -, c0, c4, -⟩ := S
  exact fun z => c0 ((nI_eq (b := 0) (by omega) (by omega)).mp (t.2.2.1.symm.trans z))
theorem zm_S.f0 {B : Nat → Int32} {n r p : Nat} {s : zl_S} {h : mm_H} (S : zm_S B n h r s p) : h.1 165 22 = 0 := S.1.2.2.1
/-- a token written down -/
theorem mX11_entry_t (d : Nat) (h : mm_H) (B : Nat → Int32) (n r p : Nat) (hr : r < 6) (s : zl_S) (S : zm_S B n h r s p) (hl : s.2.2.length < 300) (t : Nat) (k v : Int32) (hk : k = nI (rs t)) (hv : v = nI (rn t)) : ∃ g, mm_M d YX11_entry [.ref 165, .int k, .int v] h none g ∧ mv_fr r h g ∧ zm_S B n g r (s.1, s.2.1, s.2.2 ++ [t]) p := by
  refine ⟨_, mX11_entry_y d h r hr s.2.2.length S.f0 S.2.2.2.2.2.1 S.2.2.2.2.1 hl k v, ?_, ?_⟩
  · refine ⟨(((frm.refl _ h).up (c := 186) rfl).up (c := 187) rfl).up (c := 165) rfl, fun j _ _ h3 _ => ?_, fun i hi => ⟨?_, ?_⟩⟩ <;> dsimp only
    · rw [mm_up_k h3, mm_up_n (by decide), mm_up_n (by decide)]
    · rw [mm_up_n (by decide), mm_up_n (by decide), mm_up_k (by omega)]
    · rw [mm_up_n (by decide), mm_up_k (by omega), mm_up_n (by decide)]
  · obtain ⟨⟨a1, a2, a3, a4, a5⟩, b1, b2, b3, b4, b5, b6, b7, b8⟩ := S
    refine ⟨⟨?_, ?_, ?_, fun i hi => ?_, a5⟩, b1, b2, ?_, ?_, ?_, ?_, fun i hi => ?_, b8⟩ <;> dsimp only
    · rw [mm_up_k (by decide), mm_up_n (by decide), mm_up_n (by decide)]; exact a1
    · rw [mm_up_k (by decide), mm_up_n (by decide), mm_up_n (by decide)]; exact a2
    · rw [mm_up_k (by decide), mm_up_n (by decide), mm_up_n (by decide)]; exact a3
    · rw [mm_up_n (by decide), mm_up_n (by decide), mm_up_n (by decide)]; exact a4 i hi
    · rw [mm_up_k (by decide), mm_up_n (by decide), mm_up_n (by decide)]; exact b3
    · rw [mm_up_e, List.length_append]; rfl
    · rw [mm_up_k (by decide), mm_up_n (by decide), mm_up_n (by decide)]; exact b5
    · rw [mm_up_k (by decide), mm_up_n (by decide), mm_up_n (by decide)]; exact b6
    · dsimp only at hi
      rw [List.length_append] at hi
      simp only [List.length_cons, List.length_nil] at hi
      rw [gD_app]
      by_cases z : i = s.2.2.length
      · rw [if_neg (by omega), if_pos z, z]
        exact ⟨by rw [mm_up_n (by decide), mm_up_n (by decide), mm_up_e]; exact hk, by rw [mm_up_n (by decide), mm_up_e]; exact hv⟩
      · rw [if_pos (by omega)]
        exact ⟨by rw [mm_up_n (by decide), mm_up_n (by decide), mm_up_k (by omega)]; exact (b7 i (by omega)).1, by rw [mm_up_n (by decide), mm_up_k (by omega), mm_up_n (by decide)]; exact (b7 i (by omega)).2⟩
theorem mX11_entry_e (d : Nat) (h : mm_H) (B : Nat → Int32) (n r c : Nat) (S : ME B n h r c) (k v : Int32) : mm_M d YX11_entry [.ref 165, .int k, .int v] h none h := mX11_entry_x d h S.f0 k v
set_option maxRecDepth 100000 in
set_option maxHeartbeats 4000000 in
theorem mX11_isCounted (d : Nat) (h : mm_H) (B : Nat → Int32) (n p ft : Nat) (t : MT B n h p ft) (hp : p < 100000) (hft : ft < 100000) (q : Nat) (hq : q < 100000) : ∃ g, mm_M (d + 1) YX11_isCounted [.ref 165, .int (nI q)] h none g ∧ MT B n g p (if h.1 165 27 = 60 then flt ft q 3 else ft) ∧ g.1 165 27 = h.1 165 27 + 1 ∧ mc_fr h g := by
  by_cases c : h.1 165 27 = 60
  · rw [if_pos c]
    have MF := mX11_fails d h B n p ft t hp hft q 3 hq (by decide)
    obtain ⟨g1, eg1⟩ : ∃ g : mm_H, g = (mm_up h.1 165 22 (nI (flt ft q 3)), h.2.1, h.2.2) := ⟨_, rfl⟩
    rw [← eg1] at MF
    have t1 : MT B n g1 p (flt ft q 3) := by rw [eg1]; exact t.f _
    have f1 : mt_fr h g1 := by rw [eg1]; exact mt_q h _
    have e27 : g1.1 165 27 = h.1 165 27 := f1.2 27 (by decide) (by decide)
    refine ⟨(mm_up g1.1 165 27 (h.1 165 27 + 1), g1.2.1, g1.2.2), ?_, ?_, by dsimp only; rw [mm_up_e], f1.mc.trans ⟨(frm.refl _ g1).up (c := 165) rfl, fun j _ _ h3 => by dsimp only; rw [mm_up_k h3]⟩⟩
    · refine mm_M.of [some (.ref 165), some (.int (nI q))] rfl rfl (Nat.le_of_ble_eq_true rfl) ?_
      refine mm_aload_n dX11_isCounted_0 rfl rfl ?_
      refine mm_getI dX11_isCounted_1 fX11_244 sh_165 rfl ?_
      refine mm_bipush (x := 60) dX11_isCounted_4 (by decide) ?_
      refine mm_icmp_ne 15 dX11_isCounted_6 (by decide) (fun c_6 => ?_) (fun c_6 => ?_)
      · exact absurd c c_6
      · refine mm_aload_n dX11_isCounted_9 rfl rfl ?_
        refine mm_iconst (x := 3) dX11_isCounted_10 (by decide) ?_
        refine mm_iload_n dX11_isCounted_11 rfl rfl ?_
        refine mm_cV (Y1 := YX11_fails) dX11_isCounted_12 lX11_247 vX11_fails (MF) sh_165 rfl rfl (by simp [Value.category]) ?_
        refine mm_aload_n dX11_isCounted_15 rfl rfl ?_
        refine mm_dup dX11_isCounted_16 rfl ?_
        refine mm_getI dX11_isCounted_17 fX11_244 sh_165 rfl ?_
        refine mm_iconst (x := 1) dX11_isCounted_20 (by decide) ?_
        refine mm_iadd dX11_isCounted_21 ?_
        refine mm_putI dX11_isCounted_22 fX11_244 sh_165 rfl rfl rfl ?_
        exact mm_retE dX11_isCounted_25 rfl (by rw [e27])
    · obtain ⟨a1, a2, a3, a4, a5⟩ := t1
      refine ⟨?_, ?_, ?_, fun i hi => ?_, a5⟩ <;> dsimp only
      · rw [mm_up_k (by decide)]; exact a1
      · rw [mm_up_k (by decide)]; exact a2
      · rw [mm_up_k (by decide)]; exact a3
      · rw [mm_up_n (by decide)]; exact a4 i hi
  · rw [if_neg c]
    refine ⟨(mm_up h.1 165 27 (h.1 165 27 + 1), h.2.1, h.2.2), ?_, ?_, by dsimp only; rw [mm_up_e], ⟨(frm.refl _ h).up (c := 165) rfl, fun j _ _ h3 => by dsimp only; rw [mm_up_k h3]⟩⟩
    · refine mm_M.of [some (.ref 165), some (.int (nI q))] rfl rfl (Nat.le_of_ble_eq_true rfl) ?_
      refine mm_aload_n dX11_isCounted_0 rfl rfl ?_
      refine mm_getI dX11_isCounted_1 fX11_244 sh_165 rfl ?_
      refine mm_bipush (x := 60) dX11_isCounted_4 (by decide) ?_
      refine mm_icmp_ne 15 dX11_isCounted_6 (by decide) (fun c_6 => ?_) (fun c_6 => ?_)
      · refine mm_aload_n dX11_isCounted_15 rfl rfl ?_
        refine mm_dup dX11_isCounted_16 rfl ?_
        refine mm_getI dX11_isCounted_17 fX11_244 sh_165 rfl ?_
        refine mm_iconst (x := 1) dX11_isCounted_20 (by decide) ?_
        refine mm_iadd dX11_isCounted_21 ?_
        refine mm_putI dX11_isCounted_22 fX11_244 sh_165 rfl rfl rfl ?_
        exact mm_retE dX11_isCounted_25 rfl rfl
      · exact absurd c_6 c
    · obtain ⟨a1, a2, a3, a4, a5⟩ := t
      refine ⟨?_, ?_, ?_, fun i hi => ?_, a5⟩ <;> dsimp only
      · rw [mm_up_k (by decide)]; exact a1
      · rw [mm_up_k (by decide)]; exact a2
      · rw [mm_up_k (by decide)]; exact a3
      · rw [mm_up_n (by decide)]; exact a4 i hi
set_option maxRecDepth 100000 in
set_option maxHeartbeats 4000000 in
theorem mX11_wordOf_0 (d : Nat) (h : mm_H) : mm_M d YX11_wordOf [.int 0] h (some (.ref (1000 + 1))) h := by
  refine mm_M.of [some (.int 0)] rfl rfl (Nat.le_of_ble_eq_true rfl) ?_
  refine mm_iload_n dX11_wordOf_0 rfl rfl ?_
  refine mm_tableIn (off := 51) 52 dX11_wordOf_1 (by decide) (by decide) (by decide) (by decide) ?_
  refine mm_ldcS 1 dX11_wordOf_52 rfl ?_
  exact mm_areturn dX11_wordOf_54 rfl
set_option maxRecDepth 100000 in
set_option maxHeartbeats 4000000 in
theorem mX11_wordOf_1 (d : Nat) (h : mm_H) : mm_M d YX11_wordOf [.int 1] h (some (.ref (1000 + 2))) h := by
  refine mm_M.of [some (.int 1)] rfl rfl (Nat.le_of_ble_eq_true rfl) ?_
  refine mm_iload_n dX11_wordOf_0 rfl rfl ?_
  refine mm_tableIn (off := 54) 55 dX11_wordOf_1 (by decide) (by decide) (by decide) (by decide) ?_
  refine mm_ldcS 2 dX11_wordOf_55 rfl ?_
  exact mm_areturn dX11_wordOf_57 rfl
set_option maxRecDepth 100000 in
set_option maxHeartbeats 4000000 in
theorem mX11_wordOf_2 (d : Nat) (h : mm_H) : mm_M d YX11_wordOf [.int 2] h (some (.ref (1000 + 3))) h := by
  refine mm_M.of [some (.int 2)] rfl rfl (Nat.le_of_ble_eq_true rfl) ?_
  refine mm_iload_n dX11_wordOf_0 rfl rfl ?_
  refine mm_tableIn (off := 57) 58 dX11_wordOf_1 (by decide) (by decide) (by decide) (by decide) ?_
  refine mm_ldcS 3 dX11_wordOf_58 rfl ?_
  exact mm_areturn dX11_wordOf_60 rfl
set_option maxRecDepth 100000 in
set_option maxHeartbeats 4000000 in
theorem mX11_wordOf_3 (d : Nat) (h : mm_H) : mm_M d YX11_wordOf [.int 3] h (some (.ref (1000 + 4))) h := by
  refine mm_M.of [some (.int 3)] rfl rfl (Nat.le_of_ble_eq_true rfl) ?_
  refine mm_iload_n dX11_wordOf_0 rfl rfl ?_
  refine mm_tableIn (off := 60) 61 dX11_wordOf_1 (by decide) (by decide) (by decide) (by decide) ?_
  refine mm_ldcS 4 dX11_wordOf_61 rfl ?_
  exact mm_areturn dX11_wordOf_63 rfl
set_option maxRecDepth 100000 in
set_option maxHeartbeats 4000000 in
theorem mX11_wordOf_4 (d : Nat) (h : mm_H) : mm_M d YX11_wordOf [.int 4] h (some (.ref (1000 + 5))) h := by
  refine mm_M.of [some (.int 4)] rfl rfl (Nat.le_of_ble_eq_true rfl) ?_
  refine mm_iload_n dX11_wordOf_0 rfl rfl ?_
  refine mm_tableIn (off := 63) 64 dX11_wordOf_1 (by decide) (by decide) (by decide) (by decide) ?_
  refine mm_ldcS 5 dX11_wordOf_64 rfl ?_
  exact mm_areturn dX11_wordOf_66 rfl
set_option maxRecDepth 100000 in
set_option maxHeartbeats 4000000 in
theorem mX11_wordOf_5 (d : Nat) (h : mm_H) : mm_M d YX11_wordOf [.int 5] h (some (.ref (1000 + 6))) h := by
  refine mm_M.of [some (.int 5)] rfl rfl (Nat.le_of_ble_eq_true rfl) ?_
  refine mm_iload_n dX11_wordOf_0 rfl rfl ?_
  refine mm_tableIn (off := 66) 67 dX11_wordOf_1 (by decide) (by decide) (by decide) (by decide) ?_
  refine mm_ldcS 6 dX11_wordOf_67 rfl ?_
  exact mm_areturn dX11_wordOf_69 rfl
set_option maxRecDepth 100000 in
set_option maxHeartbeats 4000000 in
theorem mX11_wordOf_6 (d : Nat) (h : mm_H) : mm_M d YX11_wordOf [.int 6] h (some (.ref (1000 + 7))) h := by
  refine mm_M.of [some (.int 6)] rfl rfl (Nat.le_of_ble_eq_true rfl) ?_
  refine mm_iload_n dX11_wordOf_0 rfl rfl ?_
  refine mm_tableIn (off := 69) 70 dX11_wordOf_1 (by decide) (by decide) (by decide) (by decide) ?_
  refine mm_ldcS 7 dX11_wordOf_70 rfl ?_
  exact mm_areturn dX11_wordOf_72 rfl
set_option maxRecDepth 100000 in
set_option maxHeartbeats 4000000 in
theorem mX11_wordOf_7 (d : Nat) (h : mm_H) : mm_M d YX11_wordOf [.int 7] h (some (.ref (1000 + 8))) h := by
  refine mm_M.of [some (.int 7)] rfl rfl (Nat.le_of_ble_eq_true rfl) ?_
  refine mm_iload_n dX11_wordOf_0 rfl rfl ?_
  refine mm_tableIn (off := 72) 73 dX11_wordOf_1 (by decide) (by decide) (by decide) (by decide) ?_
  refine mm_ldcS 8 dX11_wordOf_73 rfl ?_
  exact mm_areturn dX11_wordOf_75 rfl
set_option maxRecDepth 100000 in
set_option maxHeartbeats 4000000 in
theorem mX11_wordOf_8 (d : Nat) (h : mm_H) : mm_M d YX11_wordOf [.int 8] h (some (.ref (1000 + 9))) h := by
  refine mm_M.of [some (.int 8)] rfl rfl (Nat.le_of_ble_eq_true rfl) ?_
  refine mm_iload_n dX11_wordOf_0 rfl rfl ?_
  refine mm_tableIn (off := 75) 76 dX11_wordOf_1 (by decide) (by decide) (by decide) (by decide) ?_
  refine mm_ldcS 9 dX11_wordOf_76 rfl ?_
  exact mm_areturn dX11_wordOf_78 rfl
set_option maxRecDepth 100000 in
set_option maxHeartbeats 4000000 in
theorem mX11_wordOf_9 (d : Nat) (h : mm_H) : mm_M d YX11_wordOf [.int 9] h (some (.ref (1000 + 10))) h := by
  refine mm_M.of [some (.int 9)] rfl rfl (Nat.le_of_ble_eq_true rfl) ?_
  refine mm_iload_n dX11_wordOf_0 rfl rfl ?_
  refine mm_tableOut 79 dX11_wordOf_1 (by decide) (by decide) ?_
  refine mm_ldcS 10 dX11_wordOf_79 rfl ?_
  exact mm_areturn dX11_wordOf_81 rfl
theorem mX11_wordOf (d : Nat) (h : mm_H) (k : Nat) (hk : k < 10) : mm_M d YX11_wordOf [.int (nI k)] h (some (.ref (1000 + (k + 1)))) h := by
  rcases (show k = 0 ∨ k = 1 ∨ k = 2 ∨ k = 3 ∨ k = 4 ∨ k = 5 ∨ k = 6 ∨ k = 7 ∨ k = 8 ∨ k = 9 by omega) with rfl | rfl | rfl | rfl | rfl | rfl | rfl | rfl | rfl | rfl
  · exact mX11_wordOf_0 d h
  · exact mX11_wordOf_1 d h
  · exact mX11_wordOf_2 d h
  · exact mX11_wordOf_3 d h
  · exact mX11_wordOf_4 d h
  · exact mX11_wordOf_5 d h
  · exact mX11_wordOf_6 d h
  · exact mX11_wordOf_7 d h
  · exact mX11_wordOf_8 d h
  · exact mX11_wordOf_9 d h
theorem ki_v {k : Nat} (h : k < 10) : ki (k + 1) = 16 + k := by unfold ki; rw [if_neg (by omega), if_neg (by omega)]; omega
set_option maxRecDepth 100000 in
set_option maxHeartbeats 4000000 in
theorem mX11_value_l (d : Nat) (g1 : mm_H) (B : Nat → Int32) (n pos ft : Nat) (t1 : MT B n g1 pos ft) (hpn : pos ≤ n) (hw : g1.1 165 29 = 10) (kt : Nat) (hkt : kt ≤ 10) (hno : ∀ k, k < kt → ¬ kd B n pos = 16 + k) (hye : kt < 10 → kd B n pos = 16 + kt) (v : Option Value) (g' : mm_H) (K62 : mm_R (d + 5) YX11_value 62 [some (.ref 165), some (.int (nI pos)), some (.int (nI kt))] [] g1 v g') : ∀ m k, k + m = kt → mm_R (d + 5) YX11_value 37 [some (.ref 165), some (.int (nI pos)), some (.int (nI k))] [] g1 v g' := by
  have stw : ∀ k : Nat, k < 10 → mm_M (d + 4) YX11_stood [.ref 165, .ref (1000 + (k + 1))] g1 (some (.int (pI (kd B n pos = 16 + k)))) g1 := fun k hk => by
    have := mX11_stood d g1 B n pos ft t1 hpn (k + 1) (by omega) (by omega)
    rw [ki_v hk] at this
    exact this
  intro m
  induction m with
  | zero =>
    intro k hk
    have hk : k = kt := by omega
    subst hk
    by_cases h44 : k < 10
    · have MW := mX11_wordOf (d + 4) g1 k h44
      have MS := stw k h44
      rw [pI_1 (hye h44)] at MS
      refine mm_iload_n dX11_value_37 rfl rfl ?_
      refine mm_aload_n dX11_value_38 rfl rfl ?_
      refine mm_getI dX11_value_39 fX11_67 sh_165 rfl ?_
      refine mm_icmp_ge 62 dX11_value_42 (by decide) (fun c_42 => ?_) (fun c_42 => ?_)
      · exact absurd (by rw [hw] at c_42; exact c_42) (nI_ge (b := 10) h44 (by omega))
      · refine mm_aload_n dX11_value_45 rfl rfl ?_
        refine mm_iload_n dX11_value_46 rfl rfl ?_
        refine mm_cS (Y1 := YX11_wordOf) dX11_value_47 lX11_266 sX11_wordOf (MW) rfl rfl (by simp [Value.category]) ?_
        refine mm_cV (Y1 := YX11_stood) dX11_value_50 lX11_234 vX11_stood (MS) sh_165 rfl rfl (by simp [Value.category]) ?_
        refine mm_if_ne 62 dX11_value_53 (by decide) (fun c_53 => ?_) (fun c_53 => ?_)
        · exact K62
        · exact absurd c_53 (by decide)
    · skip
      refine mm_iload_n dX11_value_37 rfl rfl ?_
      refine mm_aload_n dX11_value_38 rfl rfl ?_
      refine mm_getI dX11_value_39 fX11_67 sh_165 rfl ?_
      refine mm_icmp_ge 62 dX11_value_42 (by decide) (fun c_42 => ?_) (fun c_42 => ?_)
      · exact K62
      · exact absurd (by rw [hw]; exact nI_le (a := 10) (by omega) (by omega)) c_42
  | succ m ih =>
    intro k hk
    have h44 : k < 10 := by omega
    have MW := mX11_wordOf (d + 4) g1 k h44
    have MS := stw k h44
    rw [pI_0 (hno k (by omega))] at MS
    have K := ih (k + 1) (by omega)
    refine mm_iload_n dX11_value_37 rfl rfl ?_
    refine mm_aload_n dX11_value_38 rfl rfl ?_
    refine mm_getI dX11_value_39 fX11_67 sh_165 rfl ?_
    refine mm_icmp_ge 62 dX11_value_42 (by decide) (fun c_42 => ?_) (fun c_42 => ?_)
    · exact absurd (by rw [hw] at c_42; exact c_42) (nI_ge (b := 10) h44 (by omega))
    · refine mm_aload_n dX11_value_45 rfl rfl ?_
      refine mm_iload_n dX11_value_46 rfl rfl ?_
      refine mm_cS (Y1 := YX11_wordOf) dX11_value_47 lX11_266 sX11_wordOf (MW) rfl rfl (by simp [Value.category]) ?_
      refine mm_cV (Y1 := YX11_stood) dX11_value_50 lX11_234 vX11_stood (MS) sh_165 rfl rfl (by simp [Value.category]) ?_
      refine mm_if_ne 62 dX11_value_53 (by decide) (fun c_53 => ?_) (fun c_53 => ?_)
      · exact absurd rfl c_53
      · refine mm_iinc dX11_value_56 rfl (nI_inc k) rfl ?_
        refine mm_goto 37 dX11_value_59 (by decide) ?_
        exact K
theorem kd_D {B : Nat → Int32} {n p : Nat} : kd B n p = 2 ↔ p < n ∧ isD (B p) := by
  refine ⟨kd_2, fun z => ?_⟩
  unfold kd; rw [if_neg (by omega), if_pos z.2]
set_option maxRecDepth 100000 in
set_option maxHeartbeats 4000000 in
theorem mX11_value_n (d : Nat) (h : mm_H) (B : Nat → Int32) (n p ft : Nat) (t : MT B n h p ft) (hp : p ≤ n) (hft : ft < 4000) (hw : h.1 165 29 = 10) (hk : ¬ (kd B n (sk B n p) = 2 ∨ (16 ≤ kd B n (sk B n p) ∧ kd B n (sk B n p) ≤ 25))) : ∃ g, mm_M (d + 5) YX11_value [.ref 165] h none g ∧ MT B n g (sk B n p) (flt ft (sk B n p) 0) ∧ mt_fr h g := by
  have hn4 := t.2.2.2.2.1
  have hsk := sk_ge (B := B) hp
  have MB := mX11_blanks (d + 3) h B n p ft t (by omega)
  obtain ⟨pos, epos⟩ : ∃ pos, pos = sk B n p := ⟨_, rfl⟩
  obtain ⟨g1, eg1⟩ : ∃ g : mm_H, g = (mm_up h.1 165 21 (nI (sk B n p)), h.2.1, h.2.2) := ⟨_, rfl⟩
  have t1 : MT B n g1 (sk B n p) ft := by rw [eg1]; exact t.p _
  have f1 : mt_fr h g1 := by rw [eg1]; exact mt_p h _
  rw [← eg1] at MB
  rw [← epos] at t1 hsk hk ⊢
  have hw1 : g1.1 165 29 = 10 := by rw [f1.2 29 (by decide) (by decide)]; exact hw
  have MD := mX11_isDigit (d + 3) g1 B n pos ft t1 (by omega)
  have hd : ¬ (pos < n ∧ isD (B pos)) := fun z => hk (Or.inl (kd_D.mpr z))
  rw [bI_0 hd] at MD
  have MF := mX11_fails (d + 4) g1 B n pos ft t1 (by omega) (by omega) pos 0 (by omega) (by decide)
  refine ⟨_, ?_, t1.f _, f1.trans (mt_q g1 _)⟩
  have K62 : mm_R (d + 5) YX11_value 62 [some (.ref 165), some (.int (nI pos)), some (.int (nI 10))] [] g1 none (mm_up g1.1 165 22 (nI (flt ft pos 0)), g1.2.1, g1.2.2) := by
    refine mm_iload_n dX11_value_62 rfl rfl ?_
    refine mm_aload_n dX11_value_63 rfl rfl ?_
    refine mm_getI dX11_value_64 fX11_67 sh_165 rfl ?_
    refine mm_icmp_ne 77 dX11_value_67 (by decide) (fun c_67 => ?_) (fun c_67 => ?_)
    · exact absurd (by rw [hw1]; rfl) c_67
    · refine mm_aload_n dX11_value_70 rfl rfl ?_
      refine mm_iconst (x := 0) dX11_value_71 (by decide) ?_
      refine mm_iload_n dX11_value_72 rfl rfl ?_
      refine mm_cV (Y1 := YX11_fails) dX11_value_73 lX11_247 vX11_fails (MF) sh_165 rfl rfl (by simp [Value.category]) ?_
      exact mm_retE dX11_value_76 rfl rfl
  have K := mX11_value_l d g1 B n pos ft t1 hsk.2 hw1 10 (Nat.le_refl _) (fun k hk2 z => hk (Or.inr (by omega))) (fun z => by omega) _ _ K62 10 0 rfl
  refine mm_M.of [some (.ref 165), none, none] rfl rfl (Nat.le_of_ble_eq_true rfl) ?_
  refine mm_aload_n dX11_value_0 rfl rfl ?_
  refine mm_cV (Y1 := YX11_blanks) dX11_value_1 lX11_231 vX11_blanks (MB) sh_165 rfl rfl (by simp [Value.category]) ?_
  refine mm_aload_n dX11_value_4 rfl rfl ?_
  refine mm_getI dX11_value_5 fX11_211 sh_165 rfl ?_
  refine mm_cast (st' := [.int (nI pos)]) rfl (by rw [t1.2.1] <;> rfl) rfl ?_
  refine mm_istore_n dX11_value_8 rfl (by decide) rfl ?_
  refine mm_aload_n dX11_value_9 rfl rfl ?_
  refine mm_cV (Y1 := YX11_isDigit) dX11_value_10 lX11_251 vX11_isDigit (MD) sh_165 rfl rfl (by simp [Value.category]) ?_
  refine mm_if_eq 35 dX11_value_13 (by decide) (fun c_13 => ?_) (fun c_13 => ?_)
  · refine mm_iconst (x := 0) dX11_value_35 (by decide) ?_
    refine mm_istore_n dX11_value_36 rfl (by decide) rfl ?_
    exact K
  · exact absurd rfl c_13
set_option maxRecDepth 100000 in
set_option maxHeartbeats 4000000 in
theorem mX11_value_d (d : Nat) (h : mm_H) (B : Nat → Int32) (n p ft : Nat) (t : MT B n h p ft) (hp : p ≤ n) (hft : ft < 4000) (hw : h.1 165 29 = 10) (hk : kd B n (sk B n p) = 2) : ∃ g x, MT B n g (en B n (sk B n p)) (if h.1 165 27 = 60 then flt (if 5 < en B n (sk B n p) - sk B n p then flt ft (sk B n p) 1 else ft) (sk B n p) 3 else (if 5 < en B n (sk B n p) - sk B n p then flt ft (sk B n p) 1 else ft)) ∧ mc_fr h g ∧ g.1 165 27 = h.1 165 27 + 1 ∧ (¬ 5 < en B n (sk B n p) - sk B n p → x = dgv B (sk B n p) (en B n (sk B n p) - sk B n p)) ∧ ∀ g2, mm_M (d + 4) YX11_entry [.ref 165, .int 0, .int x] g none g2 → mm_M (d + 5) YX11_value [.ref 165] h none g2 := by
  have hn4 := t.2.2.2.2.1
  have hsk := sk_ge (B := B) hp
  have MB := mX11_blanks (d + 3) h B n p ft t (by omega)
  obtain ⟨pos, epos⟩ : ∃ pos, pos = sk B n p := ⟨_, rfl⟩
  obtain ⟨g1, eg1⟩ : ∃ g : mm_H, g = (mm_up h.1 165 21 (nI (sk B n p)), h.2.1, h.2.2) := ⟨_, rfl⟩
  have t1 : MT B n g1 (sk B n p) ft := by rw [eg1]; exact t.p _
  have f1 : mt_fr h g1 := by rw [eg1]; exact mt_p h _
  rw [← eg1] at MB
  rw [← epos] at t1 hsk hk ⊢
  have hw1 : g1.1 165 29 = 10 := by rw [f1.2 29 (by decide) (by decide)]; exact hw
  have MD := mX11_isDigit (d + 3) g1 B n pos ft t1 (by omega)
  have hd := kd_D.mp hk
  rw [bI_1 hd] at MD
  have hen := en_bd (B := B) hd.1
  obtain ⟨x, g2, M2, t2, hx, f2⟩ := mX11_digits_y (d + 2) g1 B n pos ft t1 (by omega) (by omega) hd.1 hd.2
  have hfl : (if 5 < en B n pos - pos then flt ft pos 1 else ft) < 100000 := by unfold flt; split <;> (try split) <;> omega
  obtain ⟨g3, M3, t3, e3, f3⟩ := mX11_isCounted (d + 3) g2 B n (en B n pos) _ t2 (by omega) hfl pos (by omega)
  have e27 : g2.1 165 27 = h.1 165 27 := by rw [f2.2 27 (by decide) (by decide), f1.2 27 (by decide) (by decide)]
  rw [e27] at t3 e3
  refine ⟨g3, x, t3, (f1.mc.trans f2.mc).trans f3, e3, hx, fun g4 M4 => ?_⟩
  refine mm_M.of [some (.ref 165), none, none] rfl rfl (Nat.le_of_ble_eq_true rfl) ?_
  refine mm_aload_n dX11_value_0 rfl rfl ?_
  refine mm_cV (Y1 := YX11_blanks) dX11_value_1 lX11_231 vX11_blanks (MB) sh_165 rfl rfl (by simp [Value.category]) ?_
  refine mm_aload_n dX11_value_4 rfl rfl ?_
  refine mm_getI dX11_value_5 fX11_211 sh_165 rfl ?_
  refine mm_cast (st' := [.int (nI pos)]) rfl (by rw [t1.2.1] <;> rfl) rfl ?_
  refine mm_istore_n dX11_value_8 rfl (by decide) rfl ?_
  refine mm_aload_n dX11_value_9 rfl rfl ?_
  refine mm_cV (Y1 := YX11_isDigit) dX11_value_10 lX11_251 vX11_isDigit (MD) sh_165 rfl rfl (by simp [Value.category]) ?_
  refine mm_if_eq 35 dX11_value_13 (by decide) (fun c_13 => ?_) (fun c_13 => ?_)
  · exact absurd c_13 (by decide)
  · refine mm_aload_n dX11_value_16 rfl rfl ?_
    refine mm_ldc dX11_value_17 kX11_255 ?_
    refine mm_cV (Y1 := YX11_digits) dX11_value_19 lX11_256 vX11_digits (M2) sh_165 rfl rfl (by simp [Value.category]) ?_
    refine mm_istore_n dX11_value_22 rfl (by decide) rfl ?_
    refine mm_aload_n dX11_value_23 rfl rfl ?_
    refine mm_iload_n dX11_value_24 rfl rfl ?_
    refine mm_cV (Y1 := YX11_isCounted) dX11_value_25 lX11_260 vX11_isCounted (M3) sh_165 rfl rfl (by simp [Value.category]) ?_
    refine mm_aload_n dX11_value_28 rfl rfl ?_
    refine mm_iconst (x := 0) dX11_value_29 (by decide) ?_
    refine mm_iload_n dX11_value_30 rfl rfl ?_
    refine mm_cV (Y1 := YX11_entry) dX11_value_31 lX11_263 vX11_entry (M4) sh_165 rfl rfl (by simp [Value.category]) ?_
    exact mm_retE dX11_value_34 rfl rfl
set_option maxRecDepth 100000 in
set_option maxHeartbeats 4000000 in
theorem mX11_value_w (d : Nat) (h : mm_H) (B : Nat → Int32) (n p ft : Nat) (t : MT B n h p ft) (hp : p ≤ n) (hft : ft < 4000) (hw : h.1 165 29 = 10) (hk : 16 ≤ kd B n (sk B n p) ∧ kd B n (sk B n p) ≤ 25) : ∃ g, MT B n g (en B n (sk B n p)) (if h.1 165 27 = 60 then flt ft (sk B n p) 3 else ft) ∧ mc_fr h g ∧ g.1 165 27 = h.1 165 27 + 1 ∧ ∀ g2, mm_M (d + 4) YX11_entry [.ref 165, .int 1, .int (nI (kd B n (sk B n p) - 16))] g none g2 → mm_M (d + 5) YX11_value [.ref 165] h none g2 := by
  have hn4 := t.2.2.2.2.1
  have hsk := sk_ge (B := B) hp
  have MB := mX11_blanks (d + 3) h B n p ft t (by omega)
  obtain ⟨pos, epos⟩ : ∃ pos, pos = sk B n p := ⟨_, rfl⟩
  obtain ⟨g1, eg1⟩ : ∃ g : mm_H, g = (mm_up h.1 165 21 (nI (sk B n p)), h.2.1, h.2.2) := ⟨_, rfl⟩
  have t1 : MT B n g1 (sk B n p) ft := by rw [eg1]; exact t.p _
  have f1 : mt_fr h g1 := by rw [eg1]; exact mt_p h _
  rw [← eg1] at MB
  rw [← epos] at t1 hsk hk ⊢
  have hw1 : g1.1 165 29 = 10 := by rw [f1.2 29 (by decide) (by decide)]; exact hw
  have MD := mX11_isDigit (d + 3) g1 B n pos ft t1 (by omega)
  have hd : ¬ (pos < n ∧ isD (B pos)) := fun z => by have := kd_D.mpr z; omega
  rw [bI_0 hd] at MD
  obtain ⟨k, ek⟩ : ∃ k, kd B n pos = 16 + k := ⟨kd B n pos - 16, by omega⟩
  have k10 : k < 10 := by omega
  obtain ⟨hpos, een⟩ := en_w (i := k + 1) hsk.2 (by omega) (by omega) (by rw [ki_v k10]; exact ek)
  have hen := en_bd (B := B) hpos
  obtain ⟨g2, M2, t2, e2, f2⟩ := mX11_isCounted (d + 3) g1 B n pos ft t1 (by omega) (by omega) pos (by omega)
  have e27 : g1.1 165 27 = h.1 165 27 := by rw [f1.2 27 (by decide) (by decide)]
  rw [e27] at t2 e2
  obtain ⟨g3, eg3⟩ : ∃ g : mm_H, g = (mm_up g2.1 165 21 (nI (en B n pos)), g2.2.1, g2.2.2) := ⟨_, rfl⟩
  have f3 : mt_fr g2 g3 := by rw [eg3]; exact mt_p g2 _
  have e3 : g3.1 165 27 = h.1 165 27 + 1 := by rw [f3.2 27 (by decide) (by decide)]; exact e2
  refine ⟨g3, by rw [eg3]; exact t2.p _, (f1.mc.trans f2).trans f3.mc, e3, fun g4 M4 => ?_⟩
  rw [ek, show 16 + k - 16 = k by omega] at M4
  have MW := mX11_wordOf (d + 4) g2 k k10
  have ML := mJ0_length (d + 3) g2 (k + 1) (by omega)
  have K62 : mm_R (d + 5) YX11_value 62 [some (.ref 165), some (.int (nI pos)), some (.int (nI k))] [] g1 none g4 := by
    refine mm_iload_n dX11_value_62 rfl rfl ?_
    refine mm_aload_n dX11_value_63 rfl rfl ?_
    refine mm_getI dX11_value_64 fX11_67 sh_165 rfl ?_
    refine mm_icmp_ne 77 dX11_value_67 (by decide) (fun c_67 => ?_) (fun c_67 => ?_)
    · refine mm_aload_n dX11_value_77 rfl rfl ?_
      refine mm_iload_n dX11_value_78 rfl rfl ?_
      refine mm_cV (Y1 := YX11_isCounted) dX11_value_79 lX11_260 vX11_isCounted (M2) sh_165 rfl rfl (by simp [Value.category]) ?_
      refine mm_aload_n dX11_value_82 rfl rfl ?_
      refine mm_dup dX11_value_83 rfl ?_
      refine mm_getI dX11_value_84 fX11_211 sh_165 rfl ?_
      refine mm_iload_n dX11_value_87 rfl rfl ?_
      refine mm_cS (Y1 := YX11_wordOf) dX11_value_88 lX11_266 sX11_wordOf (MW) rfl rfl (by simp [Value.category]) ?_
      refine mm_callVS (Y1 := YJ0_length_8abf5) dX11_value_91 lX11_222 uJ0_length_8abf5 (ML) (show k + 1 < 18 by omega) rfl rfl (by simp [Value.category]) ?_
      refine mm_iadd dX11_value_94 ?_
      refine mm_putI dX11_value_95 fX11_211 sh_165 rfl rfl rfl ?_
      refine mm_cast rfl rfl (g := g3) (by rw [eg3, t2.2.1, nI_add, een]) ?_
      refine mm_aload_n dX11_value_98 rfl rfl ?_
      refine mm_iconst (x := 1) dX11_value_99 (by decide) ?_
      refine mm_iload_n dX11_value_100 rfl rfl ?_
      refine mm_cV (Y1 := YX11_entry) dX11_value_101 lX11_263 vX11_entry (M4) sh_165 rfl rfl (by simp [Value.category]) ?_
      exact mm_retE dX11_value_104 rfl rfl
    · exact absurd (by rw [hw1] at c_67; exact (nI_eq (b := 10) (by omega) (by omega)).mp c_67) (by omega)
  have K := mX11_value_l d g1 B n pos ft t1 hsk.2 hw1 k (by omega) (fun j hj z => by omega) (fun _ => ek) _ _ K62 k 0 (by omega)
  refine mm_M.of [some (.ref 165), none, none] rfl rfl (Nat.le_of_ble_eq_true rfl) ?_
  refine mm_aload_n dX11_value_0 rfl rfl ?_
  refine mm_cV (Y1 := YX11_blanks) dX11_value_1 lX11_231 vX11_blanks (MB) sh_165 rfl rfl (by simp [Value.category]) ?_
  refine mm_aload_n dX11_value_4 rfl rfl ?_
  refine mm_getI dX11_value_5 fX11_211 sh_165 rfl ?_
  refine mm_cast (st' := [.int (nI pos)]) rfl (by rw [t1.2.1] <;> rfl) rfl ?_
  refine mm_istore_n dX11_value_8 rfl (by decide) rfl ?_
  refine mm_aload_n dX11_value_9 rfl rfl ?_
  refine mm_cV (Y1 := YX11_isDigit) dX11_value_10 lX11_251 vX11_isDigit (MD) sh_165 rfl rfl (by simp [Value.category]) ?_
  refine mm_if_eq 35 dX11_value_13 (by decide) (fun c_13 => ?_) (fun c_13 => ?_)
  · refine mm_iconst (x := 0) dX11_value_35 (by decide) ?_
    refine mm_istore_n dX11_value_36 rfl (by decide) rfl ?_
    exact K
  · exact absurd rfl c_13
def MR (B : Nat → Int32) (n : Nat) (g : mm_H) (r : Nat) (q : Except Nat zl_S) : Prop := match q with
  | .ok s => ∃ p, zm_S B n g r s p
  | .error c => ME B n g r c
theorem flt_0 {q w : Nat} : flt 0 q w = 1 + 8 * q + w := if_pos rfl
theorem flt_x {c q w : Nat} (h : ¬ c = 0) : flt c q w = c := if_neg h
theorem rs_v {t : Nat} (h : t < 100000) : rs t = 0 ∧ rn t = t := ⟨if_pos h, if_pos h⟩
theorem rs_w {k : Nat} (h : k < 10) : rs (100016 + k) = 1 ∧ rn (100016 + k) = k := by
  refine ⟨?_, ?_⟩
  · unfold rs; rw [if_neg (by omega), if_pos (by omega)]
  · unfold rn; rw [if_neg (by omega), if_pos (by omega)]; omega
theorem mX11_value (d : Nat) (h : mm_H) (B : Nat → Int32) (n r p : Nat) (hr : r < 6) (s : zl_S) (S : zm_S B n h r s p) (hl : s.2.2.length < 300) : ∃ g, mm_M (d + 5) YX11_value [.ref 165] h none g ∧ mv_fr r h g ∧ MR B n g r (zl_v B n s) := by
  have S0 := S
  obtain ⟨t, hpn, hpos, hcn, -, -, hw, -, hv⟩ := S
  have hn4 := t.2.2.2.2.1
  have hsk := sk_ge (B := B) hpn
  have c60 : h.1 165 27 = 60 ↔ 60 ≤ s.2.1 := by rw [hcn]; exact ⟨fun z => by have := (nI_eq (b := 60) (by omega) (by omega)).mp z; omega, fun z => by rw [show s.2.1 = 60 by omega]; rfl⟩
  have cnx : ∀ q, q < n → sk B n (en B n q) = nx B n q := fun q hq => by unfold nx; rw [if_neg (by omega)]
  by_cases k1 : kd B n s.1 = 2 ∨ (16 ≤ kd B n s.1 ∧ kd B n s.1 ≤ 25)
  · by_cases k2 : kd B n s.1 = 2
    · obtain ⟨g, x, t1, f1, e1, hx, K⟩ := mX11_value_d d h B n p 0 t hpn (by decide) hw (by rw [hpos]; exact k2)
      rw [hpos] at t1 hx
      have hd := kd_D.mp k2
      have hen := en_bd (B := B) hd.1
      have nm : num B n s.1 = if 5 < en B n s.1 - s.1 then -1 else dgv B s.1 (en B n s.1 - s.1) := by unfold num; rw [if_neg (by omega), if_pos hd.2]
      by_cases k5 : 5 < en B n s.1 - s.1
      · rw [if_pos k5] at nm
        have e : zl_v B n s = .error (1 + 8 * s.1 + 1) := by unfold zl_v; rw [if_neg (fun z => z k1), if_pos ⟨k2, by rw [nm]; decide⟩]
        rw [if_pos k5, flt_0, flt_x (by omega), ite_self] at t1
        have E : ME B n g r (1 + 8 * s.1 + 1) := S0.e f1 t1 hen.2 (by omega) (by omega)
        rw [e]
        exact ⟨g, K g (mX11_entry_e _ g B n r _ E _ _), f1.mv, E⟩
      · rw [if_neg k5] at nm t1
        have x1 := hx k5
        have all := rE_all (P := bD) (B := B) (n := n) (n - s.1) s.1 (by omega)
        rw [← en_D hd.2] at all
        obtain ⟨v, v1, v2⟩ := dgv_bd (B := B) (p := s.1) (en B n s.1 - s.1) (by omega) (fun i hi => of_decide_eq_true (all (s.1 + i) (by omega) (by omega)))
        have v5 : v < 100000 := Nat.lt_of_lt_of_le v1 (Nat.le_trans (Nat.pow_le_pow_right (by decide) (show en B n s.1 - s.1 ≤ 5 by omega)) (by decide))
        have nmv : num B n s.1 = nI v := nm.trans v2
        have ng : ¬ (kd B n s.1 = 2 ∧ num B n s.1 < 0) := fun z => by
          have w := Int32.lt_iff_toInt_lt.mp z.2
          rw [nmv, nI_toInt (show v < 2 ^ 31 by omega), show (0 : Int32).toInt = 0 from rfl] at w
          omega
        by_cases k6 : 60 ≤ s.2.1
        · have e : zl_v B n s = .error (1 + 8 * s.1 + 3) := by unfold zl_v; rw [if_neg (fun z => z k1), if_neg ng, if_pos k6]
          rw [if_pos (c60.mpr k6), flt_0] at t1
          have E : ME B n g r (1 + 8 * s.1 + 3) := S0.e f1 t1 hen.2 (by omega) (by omega)
          rw [e]
          exact ⟨g, K g (mX11_entry_e _ g B n r _ E _ _), f1.mv, E⟩
        · have e : zl_v B n s = .ok (nx B n s.1, s.2.1 + 1, s.2.2 ++ [v]) := by
            unfold zl_v
            rw [if_neg (fun z => z k1), if_neg ng, if_neg k6, if_pos k2, nmv, nI_clamp (by omega)]
          rw [if_neg (fun z => k6 (c60.mp z))] at t1
          have S1 : zm_S B n g r (nx B n s.1, s.2.1 + 1, s.2.2) (en B n s.1) := S0.to f1 t1 hen.2 (cnx _ hd.1) (by rw [e1, hcn, nI_succ]) (by omega)
          obtain ⟨g2, M2, f2, S2⟩ := mX11_entry_t (d + 4) g B n r _ hr _ S1 hl v 0 x (by rw [(rs_v v5).1]; rfl) (by rw [(rs_v v5).2, x1, v2])
          rw [e]
          exact ⟨g2, K g2 M2, f1.mv.trans f2, _, S2⟩
    · have kw := k1.resolve_left k2
      obtain ⟨k, ek⟩ : ∃ k, kd B n s.1 = 16 + k := ⟨kd B n s.1 - 16, by omega⟩
      have k10 : k < 10 := by omega
      obtain ⟨g, t1, f1, e1, K⟩ := mX11_value_w d h B n p 0 t hpn (by decide) hw (by rw [hpos]; exact kw)
      rw [hpos] at t1 K
      have hq : s.1 < n := kd_pos (B := B) (by omega) (by omega)
      have hen := en_bd (B := B) hq
      have ng : ¬ (kd B n s.1 = 2 ∧ num B n s.1 < 0) := fun z => k2 z.1
      by_cases k6 : 60 ≤ s.2.1
      · have e : zl_v B n s = .error (1 + 8 * s.1 + 3) := by unfold zl_v; rw [if_neg (fun z => z k1), if_neg ng, if_pos k6]
        rw [if_pos (c60.mpr k6), flt_0] at t1
        have E : ME B n g r (1 + 8 * s.1 + 3) := S0.e f1 t1 hen.2 (by omega) (by omega)
        rw [e]
        exact ⟨g, K g (mX11_entry_e _ g B n r _ E _ _), f1.mv, E⟩
      · have e : zl_v B n s = .ok (nx B n s.1, s.2.1 + 1, s.2.2 ++ [100016 + k]) := by
          unfold zl_v
          rw [if_neg (fun z => z k1), if_neg ng, if_neg k6, if_neg k2, ek, ← Nat.add_assoc]
        rw [if_neg (fun z => k6 (c60.mp z))] at t1
        have S1 : zm_S B n g r (nx B n s.1, s.2.1 + 1, s.2.2) (en B n s.1) := S0.to f1 t1 hen.2 (cnx _ hq) (by rw [e1, hcn, nI_succ]) (by omega)
        obtain ⟨g2, M2, f2, S2⟩ := mX11_entry_t (d + 4) g B n r _ hr _ S1 hl (100016 + k) 1 (nI (kd B n s.1 - 16)) (by rw [(rs_w k10).1]; rfl) (by rw [(rs_w k10).2, show kd B n s.1 - 16 = k by omega])
        rw [e]
        exact ⟨g2, K g2 M2, f1.mv.trans f2, _, S2⟩
  · have e : zl_v B n s = .error (1 + 8 * s.1) := by unfold zl_v; rw [if_pos k1]
    obtain ⟨g, M, t1, f1⟩ := mX11_value_n d h B n p 0 t hpn (by decide) hw (by rw [hpos]; exact k1)
    rw [hpos, flt_0] at t1
    rw [e]
    exact ⟨g, M, f1.mc.mv, S0.e f1.mc t1 (by omega) (by omega) (by omega)⟩
theorem mX11_value_x (d : Nat) (h : mm_H) (B : Nat → Int32) (n r c : Nat) (S : ME B n h r c) : ∃ g, mm_M (d + 5) YX11_value [.ref 165] h none g ∧ mv_fr r h g ∧ ME B n g r c := by
  have S0 := S
  obtain ⟨p, t, hpn, c0, c4, h23, hw⟩ := S
  have hsk := sk_ge (B := B) hpn
  by_cases k1 : kd B n (sk B n p) = 2 ∨ (16 ≤ kd B n (sk B n p) ∧ kd B n (sk B n p) ≤ 25)
  · have hq : sk B n p < n := kd_pos (B := B) (by omega) (by omega)
    have hen := en_bd (B := B) hq
    by_cases k2 : kd B n (sk B n p) = 2
    · obtain ⟨g, x, t1, f1, e1, hx, K⟩ := mX11_value_d d h B n p c t hpn c4 hw k2
      rw [flt_x c0, ite_self, flt_x c0, ite_self] at t1
      have E := S0.fr f1 t1 hen.2
      exact ⟨g, K g (mX11_entry_e _ g B n r _ E _ _), f1.mv, E⟩
    · obtain ⟨g, t1, f1, e1, K⟩ := mX11_value_w d h B n p c t hpn c4 hw (k1.resolve_left k2)
      rw [flt_x c0, ite_self] at t1
      have E := S0.fr f1 t1 hen.2
      exact ⟨g, K g (mX11_entry_e _ g B n r _ E _ _), f1.mv, E⟩
  · obtain ⟨g, M, t1, f1⟩ := mX11_value_n d h B n p c t hpn c4 hw k1
    rw [flt_x c0] at t1
    exact ⟨g, M, f1.mc.mv, S0.fr f1.mc t1 hsk.2⟩
