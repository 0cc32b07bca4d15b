/-! The JDK's own small methods; the reference's leaves. -/
set_option maxRecDepth 100000 in
set_option maxHeartbeats 4000000 in
theorem mJ6_bitCount_0f7a4 (d : Nat) (h : mm_H) (a : Nat) (ha : a < 4096) : mm_M d YJ6_bitCount_0f7a4 [.int (nI a)] h (some (.int (nI (pc a)))) h := by
  refine mm_M.of [some (.int (nI a))] rfl rfl (Nat.le_of_ble_eq_true rfl) ?_
  refine mm_iload_n dJ6_bitCount_0f7a4_0 rfl rfl ?_
  refine mm_iload_n dJ6_bitCount_0f7a4_1 rfl rfl ?_
  refine mm_iconst (x := 1) dJ6_bitCount_0f7a4_2 (by decide) ?_
  refine mm_iushr dJ6_bitCount_0f7a4_3 rfl ?_
  refine mm_ldcw dJ6_bitCount_0f7a4_4 kJ6_265 ?_
  refine mm_iand dJ6_bitCount_0f7a4_7 ?_
  refine mm_isub dJ6_bitCount_0f7a4_8 ?_
  refine mm_istore_n dJ6_bitCount_0f7a4_9 rfl (by decide) rfl ?_
  refine mm_iload_n dJ6_bitCount_0f7a4_10 rfl rfl ?_
  refine mm_ldcw dJ6_bitCount_0f7a4_11 kJ6_266 ?_
  refine mm_iand dJ6_bitCount_0f7a4_14 ?_
  refine mm_iload_n dJ6_bitCount_0f7a4_15 rfl rfl ?_
  refine mm_iconst (x := 2) dJ6_bitCount_0f7a4_16 (by decide) ?_
  refine mm_iushr dJ6_bitCount_0f7a4_17 rfl ?_
  refine mm_ldcw dJ6_bitCount_0f7a4_18 kJ6_266 ?_
  refine mm_iand dJ6_bitCount_0f7a4_21 ?_
  refine mm_iadd dJ6_bitCount_0f7a4_22 ?_
  refine mm_istore_n dJ6_bitCount_0f7a4_23 rfl (by decide) rfl ?_
  refine mm_iload_n dJ6_bitCount_0f7a4_24 rfl rfl ?_
  refine mm_iload_n dJ6_bitCount_0f7a4_25 rfl rfl ?_
  refine mm_iconst (x := 4) dJ6_bitCount_0f7a4_26 (by decide) ?_
  refine mm_iushr dJ6_bitCount_0f7a4_27 rfl ?_
  refine mm_iadd dJ6_bitCount_0f7a4_28 ?_
  refine mm_ldcw dJ6_bitCount_0f7a4_29 kJ6_267 ?_
  refine mm_iand dJ6_bitCount_0f7a4_32 ?_
  refine mm_istore_n dJ6_bitCount_0f7a4_33 rfl (by decide) rfl ?_
  refine mm_iload_n dJ6_bitCount_0f7a4_34 rfl rfl ?_
  refine mm_iload_n dJ6_bitCount_0f7a4_35 rfl rfl ?_
  refine mm_bipush (x := 8) dJ6_bitCount_0f7a4_36 (by decide) ?_
  refine mm_iushr dJ6_bitCount_0f7a4_38 rfl ?_
  refine mm_iadd dJ6_bitCount_0f7a4_39 ?_
  refine mm_istore_n dJ6_bitCount_0f7a4_40 rfl (by decide) rfl ?_
  refine mm_iload_n dJ6_bitCount_0f7a4_41 rfl rfl ?_
  refine mm_iload_n dJ6_bitCount_0f7a4_42 rfl rfl ?_
  refine mm_bipush (x := 16) dJ6_bitCount_0f7a4_43 (by decide) ?_
  refine mm_iushr dJ6_bitCount_0f7a4_45 rfl ?_
  refine mm_iadd dJ6_bitCount_0f7a4_46 ?_
  refine mm_istore_n dJ6_bitCount_0f7a4_47 rfl (by decide) rfl ?_
  refine mm_iload_n dJ6_bitCount_0f7a4_48 rfl rfl ?_
  refine mm_bipush (x := 63) dJ6_bitCount_0f7a4_49 (by decide) ?_
  refine mm_iand dJ6_bitCount_0f7a4_51 ?_
  exact mm_iretE dJ6_bitCount_0f7a4_52 rfl (sp_bc_pc ha) rfl
set_option maxRecDepth 100000 in
set_option maxHeartbeats 4000000 in
theorem mX11_bits (d : Nat) (h : mm_H) (a : Nat) (ha : a < 4096) : mm_M d YX11_bits [.int (nI a)] h (some (.int (nI (pc a)))) h := by
  refine mm_M.of [some (.int (nI a)), none, none] rfl rfl (Nat.le_of_ble_eq_true rfl) ?_
  have K4 : ∀ (v : Nat), v ≤ a → ∀ n : Nat, n + pc v = pc a → mm_R d YX11_bits 4 [some (.int (nI a)), some (.int (nI n)), some (.int (nI v))] [] h (some (.int (nI (pc a)))) h := by
    intro v
    induction v using Nat.strongRecOn with
    | ind v ih =>
      intro hv n hn
      refine mm_iload_n dX11_bits_4 rfl rfl ?_
      refine mm_if_eq 20 dX11_bits_5 (by decide) (fun c_5 => ?_) (fun c_5 => ?_)
      · have e0 : v = 0 := nI_inj (by omega) (by omega) c_5
        subst e0
        refine mm_iload_n dX11_bits_20 rfl rfl ?_
        exact mm_iretE dX11_bits_21 rfl (by have : pc 0 = 0 := rfl; rw [← hn, this]; rfl) rfl
      · have hz : v ≠ 0 := fun z => c_5 (by rw [z]; rfl)
        obtain ⟨q1, q2, q3⟩ := (pc_cl (show v < 4096 by omega)).resolve_left hz
        refine mm_iinc dX11_bits_8 rfl rfl rfl ?_
        refine mm_iload_n dX11_bits_11 rfl rfl ?_
        refine mm_iload_n dX11_bits_12 rfl rfl ?_
        refine mm_iconst (x := 1) dX11_bits_13 (by decide) ?_
        refine mm_isub dX11_bits_14 ?_
        refine mm_iand dX11_bits_15 ?_
        refine mm_istore_n dX11_bits_16 rfl (by decide) rfl ?_
        refine mm_goto 4 dX11_bits_17 (by decide) ?_
        exact mm_cast (by rw [q1]) rfl rfl (mm_cast (by rw [nI_succ]; rfl) rfl rfl (ih _ q2 (by omega) (n + 1) (by omega)))
  refine mm_iconst (x := 0) dX11_bits_0 (by decide) ?_
  refine mm_istore_n dX11_bits_1 rfl (by decide) rfl ?_
  refine mm_iload_n dX11_bits_2 rfl rfl ?_
  refine mm_istore_n dX11_bits_3 rfl (by decide) rfl ?_
  exact K4 a (Nat.le_refl _) 0 (by omega)
set_option maxRecDepth 100000 in
set_option maxHeartbeats 4000000 in
theorem mX11_held (d : Nat) (h : mm_H) (v a b : Int64) : mm_M d YX11_held [.long v, .long a, .long b] h (some (.long (if v < a then a else if b < v then b else v))) h := by
  refine mm_M.of [some (.long v), none, some (.long a), none, some (.long b), none] rfl rfl (Nat.le_of_ble_eq_true rfl) ?_
  refine mm_lload_n dX11_held_0 rfl rfl ?_
  refine mm_lload_n dX11_held_1 rfl rfl ?_
  refine mm_lcmp dX11_held_2 ?_
  refine mm_if_ge 10 dX11_held_3 (by decide) (fun c_3 => ?_) (fun c_3 => ?_)
  · refine mm_lload_n dX11_held_10 rfl rfl ?_
    refine mm_lload dX11_held_11 rfl ?_
    refine mm_lcmp dX11_held_13 ?_
    refine mm_if_le 22 dX11_held_14 (by decide) (fun c_14 => ?_) (fun c_14 => ?_)
    · refine mm_lload_n dX11_held_22 rfl rfl ?_
      exact mm_lretE dX11_held_23 rfl (by simp only [lg_ge, lg_le] at *; simp only [Int64.le_iff_toInt_le, Int64.lt_iff_toInt_lt] at *; first | rw [if_pos (by omega)] | rw [if_neg (by omega), if_pos (by omega)] | rw [if_neg (by omega), if_neg (by omega)]) rfl
    · refine mm_lload dX11_held_17 rfl ?_
      refine mm_goto 23 dX11_held_19 (by decide) ?_
      exact mm_lretE dX11_held_23 rfl (by simp only [lg_ge, lg_le] at *; simp only [Int64.le_iff_toInt_le, Int64.lt_iff_toInt_lt] at *; first | rw [if_pos (by omega)] | rw [if_neg (by omega), if_pos (by omega)] | rw [if_neg (by omega), if_neg (by omega)]) rfl
  · refine mm_lload_n dX11_held_6 rfl rfl ?_
    refine mm_goto 23 dX11_held_7 (by decide) ?_
    exact mm_lretE dX11_held_23 rfl (by simp only [lg_ge, lg_le] at *; simp only [Int64.le_iff_toInt_le, Int64.lt_iff_toInt_lt] at *; first | rw [if_pos (by omega)] | rw [if_neg (by omega), if_pos (by omega)] | rw [if_neg (by omega), if_neg (by omega)]) rfl
theorem sp_bit_01 (s : Int32) (i : Nat) : sp_bit s i = 0 ∨ sp_bit s i = 1 := by
  obtain ⟨j, hj, e⟩ := pk_andE (s >>> (nI i &&& 31)) (m := 1) 1 (by decide)
  have : j = 0 ∨ j = 1 := by omega
  rcases this with rfl | rfl
  · exact Or.inl e
  · exact Or.inr e
theorem or0 (x : Int32) : x ||| 0 = x := by simp
theorem add0 (x : Int32) : x + 0 = x := by simp
theorem zmul (x : Int32) : 0 * x = 0 := by simp
theorem omul (x : Int32) : 1 * x = x := by simp
set_option maxRecDepth 100000 in
set_option maxHeartbeats 4000000 in
theorem mX11_worthOf (d : Nat) (h : mm_H) (n : Nat) (hn : h.1 166 0 = nI n) (h12 : n ≤ 12) (set : Int32) : mm_M (d + 1) YX11_worthOf [.ref 165, .int set] h (some (.int (sp_worth (h.1 169) set n))) h := by
  refine mm_M.of [some (.ref 165), some (.int set), none, none] rfl rfl (Nat.le_of_ble_eq_true rfl) ?_
  have K4 : ∀ i, i ≤ n → mm_R (d + 1) YX11_worthOf 4 [some (.ref 165), some (.int set), some (.int (sp_worth (h.1 169) set i)), some (.int (nI i))] [] h (some (.int (sp_worth (h.1 169) set n))) h := by
    refine mm_down n ?_ (fun i hi ih => ?_)
    · refine mm_iload_n dX11_worthOf_4 rfl rfl ?_
      refine mm_aload_n dX11_worthOf_5 rfl rfl ?_
      refine mm_getS dX11_worthOf_6 fX11_9 sh_165 rfl gr_165_1 ?_
      refine mm_iconst (x := 0) dX11_worthOf_9 (by decide) ?_
      refine mm_iald (0) dX11_worthOf_10 sh_166 rfl (by decide) ?_
      refine mm_icmp_ge 41 dX11_worthOf_11 (by decide) (fun c_11 => ?_) (fun c_11 => ?_)
      · refine mm_iload_n dX11_worthOf_41 rfl rfl ?_
        exact mm_iretE dX11_worthOf_42 rfl rfl rfl
      · exact absurd (by rw [hn]; exact nI_le (Nat.le_refl _) (by omega)) c_11
    · refine mm_iload_n dX11_worthOf_4 rfl rfl ?_
      refine mm_aload_n dX11_worthOf_5 rfl rfl ?_
      refine mm_getS dX11_worthOf_6 fX11_9 sh_165 rfl gr_165_1 ?_
      refine mm_iconst (x := 0) dX11_worthOf_9 (by decide) ?_
      refine mm_iald (0) dX11_worthOf_10 sh_166 rfl (by decide) ?_
      refine mm_icmp_ge 41 dX11_worthOf_11 (by decide) (fun c_11 => ?_) (fun c_11 => ?_)
      · exact absurd (by rw [hn] at c_11; exact c_11) (nI_ge hi (by omega))
      · refine mm_iload_n dX11_worthOf_14 rfl rfl ?_
        refine mm_iload_n dX11_worthOf_15 rfl rfl ?_
        refine mm_iload_n dX11_worthOf_16 rfl rfl ?_
        refine mm_cS (Y1 := YX11_has) dX11_worthOf_17 lX11_177 sX11_has (mX11_has d h set i) rfl rfl (by simp [Value.category]) ?_
        refine mm_if_eq 32 dX11_worthOf_20 (by decide) (fun c_20 => ?_) (fun c_20 => ?_)
        · refine mm_iconst (x := 0) dX11_worthOf_32 (by decide) ?_
          refine mm_iadd dX11_worthOf_33 ?_
          refine mm_istore_n dX11_worthOf_34 rfl (by decide) rfl ?_
          refine mm_iinc dX11_worthOf_35 rfl rfl rfl ?_
          refine mm_goto 4 dX11_worthOf_38 (by decide) ?_
          exact mm_cast (by rw [nI_succ]; simp only [sp_worth]; first | (rw [bI_n0] at c_20; rw [c_20, omul]; rfl) | (rw [bI_e0] at c_20; rw [(sp_bit_01 set i).resolve_right c_20, zmul]; rfl)) rfl rfl ih
        · refine mm_aload_n dX11_worthOf_23 rfl rfl ?_
          refine mm_getS dX11_worthOf_24 fX11_19 sh_165 rfl gr_165_4 ?_
          refine mm_iload_n dX11_worthOf_27 rfl rfl ?_
          refine mm_iald (i) dX11_worthOf_28 sh_169 rfl (by omega) ?_
          refine mm_goto 33 dX11_worthOf_29 (by decide) ?_
          refine mm_iadd dX11_worthOf_33 ?_
          refine mm_istore_n dX11_worthOf_34 rfl (by decide) rfl ?_
          refine mm_iinc dX11_worthOf_35 rfl rfl rfl ?_
          refine mm_goto 4 dX11_worthOf_38 (by decide) ?_
          exact mm_cast (by rw [nI_succ]; simp only [sp_worth]; first | (rw [bI_n0] at c_20; rw [c_20, omul]; rfl) | (rw [bI_e0] at c_20; rw [(sp_bit_01 set i).resolve_right c_20, zmul]; rfl)) rfl rfl ih
  refine mm_iconst (x := 0) dX11_worthOf_0 (by decide) ?_
  refine mm_istore_n dX11_worthOf_1 rfl (by decide) rfl ?_
  refine mm_iconst (x := 0) dX11_worthOf_2 (by decide) ?_
  refine mm_istore_n dX11_worthOf_3 rfl (by decide) rfl ?_
  exact K4 0 (Nat.zero_le _)
set_option maxRecDepth 100000 in
set_option maxHeartbeats 4000000 in
theorem mX11_heldBy (d : Nat) (h : mm_H) (n : Nat) (hn : h.1 166 0 = nI n) (h12 : n ≤ 12) (p : Int32) : mm_M d YX11_heldBy [.ref 165, .int p] h (some (.int (sp_held (h.1 180) p n))) h := by
  refine mm_M.of [some (.ref 165), some (.int p), none, none] rfl rfl (Nat.le_of_ble_eq_true rfl) ?_
  have K4 : ∀ i, i ≤ n → mm_R d YX11_heldBy 4 [some (.ref 165), some (.int p), some (.int (sp_held (h.1 180) p i)), some (.int (nI i))] [] h (some (.int (sp_held (h.1 180) p n))) h := by
    refine mm_down n ?_ (fun i hi ih => ?_)
    · refine mm_iload_n dX11_heldBy_4 rfl rfl ?_
      refine mm_aload_n dX11_heldBy_5 rfl rfl ?_
      refine mm_getS dX11_heldBy_6 fX11_9 sh_165 rfl gr_165_1 ?_
      refine mm_iconst (x := 0) dX11_heldBy_9 (by decide) ?_
      refine mm_iald (0) dX11_heldBy_10 sh_166 rfl (by decide) ?_
      refine mm_icmp_ge 40 dX11_heldBy_11 (by decide) (fun c_11 => ?_) (fun c_11 => ?_)
      · refine mm_iload_n dX11_heldBy_40 rfl rfl ?_
        exact mm_iretE dX11_heldBy_41 rfl rfl rfl
      · exact absurd (by rw [hn]; exact nI_le (Nat.le_refl _) (by omega)) c_11
    · refine mm_iload_n dX11_heldBy_4 rfl rfl ?_
      refine mm_aload_n dX11_heldBy_5 rfl rfl ?_
      refine mm_getS dX11_heldBy_6 fX11_9 sh_165 rfl gr_165_1 ?_
      refine mm_iconst (x := 0) dX11_heldBy_9 (by decide) ?_
      refine mm_iald (0) dX11_heldBy_10 sh_166 rfl (by decide) ?_
      refine mm_icmp_ge 40 dX11_heldBy_11 (by decide) (fun c_11 => ?_) (fun c_11 => ?_)
      · exact absurd (by rw [hn] at c_11; exact c_11) (nI_ge hi (by omega))
      · refine mm_iload_n dX11_heldBy_14 rfl rfl ?_
        refine mm_aload_n dX11_heldBy_15 rfl rfl ?_
        refine mm_getS dX11_heldBy_16 fX11_52 sh_165 rfl gr_165_15 ?_
        refine mm_iload_n dX11_heldBy_19 rfl rfl ?_
        refine mm_iald (i) dX11_heldBy_20 sh_180 rfl (by omega) ?_
        refine mm_iload_n dX11_heldBy_21 rfl rfl ?_
        refine mm_icmp_ne 31 dX11_heldBy_22 (by decide) (fun c_22 => ?_) (fun c_22 => ?_)
        · refine mm_iconst (x := 0) dX11_heldBy_31 (by decide) ?_
          refine mm_ior dX11_heldBy_32 ?_
          refine mm_istore_n dX11_heldBy_33 rfl (by decide) rfl ?_
          refine mm_iinc dX11_heldBy_34 rfl rfl rfl ?_
          refine mm_goto 4 dX11_heldBy_37 (by decide) ?_
          exact mm_cast (by rw [nI_succ]; simp only [sp_held]; first | (rw [if_pos c_22]; rfl) | (rw [if_neg c_22, or0]; rfl)) rfl rfl ih
        · refine mm_iconst (x := 1) dX11_heldBy_25 (by decide) ?_
          refine mm_iload_n dX11_heldBy_26 rfl rfl ?_
          refine mm_ishl dX11_heldBy_27 ?_
          refine mm_goto 32 dX11_heldBy_28 (by decide) ?_
          refine mm_ior dX11_heldBy_32 ?_
          refine mm_istore_n dX11_heldBy_33 rfl (by decide) rfl ?_
          refine mm_iinc dX11_heldBy_34 rfl rfl rfl ?_
          refine mm_goto 4 dX11_heldBy_37 (by decide) ?_
          exact mm_cast (by rw [nI_succ]; simp only [sp_held]; first | (rw [if_pos c_22]; rfl) | (rw [if_neg c_22, or0]; rfl)) rfl rfl ih
  refine mm_iconst (x := 0) dX11_heldBy_0 (by decide) ?_
  refine mm_istore_n dX11_heldBy_1 rfl (by decide) rfl ?_
  refine mm_iconst (x := 0) dX11_heldBy_2 (by decide) ?_
  refine mm_istore_n dX11_heldBy_3 rfl (by decide) rfl ?_
  exact K4 0 (Nat.zero_le _)
set_option maxRecDepth 100000 in
set_option maxHeartbeats 4000000 in
theorem mX11_cracks (d : Nat) (h : mm_H) (c : Nat) (hc : c < 12) (ht : ¬ h.1 170 c = 0) : mm_M d YX11_cracks [.ref 165, .int (nI c)] h (some (.int (h.1 181 c / h.1 170 c))) h := by
  refine mm_M.of [some (.ref 165), some (.int (nI c))] rfl rfl (Nat.le_of_ble_eq_true rfl) ?_
  refine mm_aload_n dX11_cracks_0 rfl rfl ?_
  refine mm_getS dX11_cracks_1 fX11_55 sh_165 rfl gr_165_16 ?_
  refine mm_iload_n dX11_cracks_4 rfl rfl ?_
  refine mm_iald (c) dX11_cracks_5 sh_181 rfl (by omega) ?_
  refine mm_aload_n dX11_cracks_6 rfl rfl ?_
  refine mm_getS dX11_cracks_7 fX11_22 sh_165 rfl gr_165_5 ?_
  refine mm_iload_n dX11_cracks_10 rfl rfl ?_
  refine mm_iald (c) dX11_cracks_11 sh_170 rfl (by omega) ?_
  refine mm_idiv dX11_cracks_12 ht ?_
  exact mm_iretE dX11_cracks_13 rfl rfl rfl
def sp_canI (f : Nat → Int32) (set : Int32) : Nat → Int32
  | 0 => 1
  | i + 1 => if sp_canI f set i = 0 then 0 else if sp_bit set i = 1 then (if f i = 9999 then 0 else 1) else 1
theorem sp_canI_nar (f : Nat → Int32) (set : Int32) (n : Nat) : narrow .boolean (.int (sp_canI f set n)) = .int (sp_canI f set n) := by
  cases n with
  | zero => simp only [sp_canI]; rfl
  | succ i => simp only [sp_canI]; split <;> (try split) <;> (try split) <;> rfl
theorem sp_canI_iff (f : Nat → Int32) (set : Int32) (n : Nat) : (sp_canI f set n = 0) ↔ ∃ j, j < n ∧ sp_bit set j = 1 ∧ f j = 9999 := by
  induction n with
  | zero => exact ⟨fun z => by simp only [sp_canI] at z; exact absurd z (by decide), fun ⟨j, hj, _⟩ => absurd hj (Nat.not_lt_zero j)⟩
  | succ i ih =>
    simp only [sp_canI]
    by_cases h0 : sp_canI f set i = 0
    · rw [if_pos h0]
      obtain ⟨j, h1, h2⟩ := ih.mp h0
      exact ⟨fun _ => ⟨j, by omega, h2⟩, fun _ => rfl⟩
    · rw [if_neg h0]
      have hno : ¬ ∃ j, j < i ∧ sp_bit set j = 1 ∧ f j = 9999 := fun z => h0 (ih.mpr z)
      by_cases hb : sp_bit set i = 1
      · rw [if_pos hb]
        by_cases hf : f i = 9999
        · rw [if_pos hf]
          exact ⟨fun _ => ⟨i, by omega, hb, hf⟩, fun _ => rfl⟩
        · rw [if_neg hf]
          refine ⟨fun z => absurd z (by decide), fun ⟨j, h1, h2, h3⟩ => ?_⟩
          rcases (show j < i ∨ j = i by omega) with z | z
          · exact absurd ⟨j, z, h2, h3⟩ hno
          · subst z; exact absurd h3 hf
      · rw [if_neg hb]
        refine ⟨fun z => absurd z (by decide), fun ⟨j, h1, h2, h3⟩ => ?_⟩
        rcases (show j < i ∨ j = i by omega) with z | z
        · exact absurd ⟨j, z, h2, h3⟩ hno
        · subst z; exact absurd h2 hb
set_option maxRecDepth 100000 in
set_option maxHeartbeats 4000000 in
theorem mX11_canFall (d : Nat) (h : mm_H) (n : Nat) (hn : h.1 166 0 = nI n) (h12 : n ≤ 12) (set : Int32) : mm_M (d + 1) YX11_canFall [.ref 165, .int set] h (some (.int (sp_canI (h.1 181) set n))) h := by
  refine mm_M.of [some (.ref 165), some (.int set), none, none] rfl rfl (Nat.le_of_ble_eq_true rfl) ?_
  have K4 : ∀ i, i ≤ n → mm_R (d + 1) YX11_canFall 4 [some (.ref 165), some (.int set), some (.int (sp_canI (h.1 181) set i)), some (.int (nI i))] [] h (some (.int (sp_canI (h.1 181) set n))) h := by
    refine mm_down n ?_ (fun i hi ih => ?_)
    · refine mm_iload_n dX11_canFall_4 rfl rfl ?_
      refine mm_aload_n dX11_canFall_5 rfl rfl ?_
      refine mm_getS dX11_canFall_6 fX11_9 sh_165 rfl gr_165_1 ?_
      refine mm_iconst (x := 0) dX11_canFall_9 (by decide) ?_
      refine mm_iald (0) dX11_canFall_10 sh_166 rfl (by decide) ?_
      refine mm_icmp_ge 50 dX11_canFall_11 (by decide) (fun c_11 => ?_) (fun c_11 => ?_)
      · refine mm_iload_n dX11_canFall_50 rfl rfl ?_
        exact mm_zretE dX11_canFall_51 rfl (sp_canI_nar _ _ _) rfl rfl
      · exact absurd (by rw [hn]; exact nI_le (Nat.le_refl _) (by omega)) c_11
    · refine mm_iload_n dX11_canFall_4 rfl rfl ?_
      refine mm_aload_n dX11_canFall_5 rfl rfl ?_
      refine mm_getS dX11_canFall_6 fX11_9 sh_165 rfl gr_165_1 ?_
      refine mm_iconst (x := 0) dX11_canFall_9 (by decide) ?_
      refine mm_iald (0) dX11_canFall_10 sh_166 rfl (by decide) ?_
      refine mm_icmp_ge 50 dX11_canFall_11 (by decide) (fun c_11 => ?_) (fun c_11 => ?_)
      · exact absurd (by rw [hn] at c_11; exact c_11) (nI_ge hi (by omega))
      · refine mm_iload_n dX11_canFall_14 rfl rfl ?_
        refine mm_if_eq 42 dX11_canFall_15 (by decide) (fun c_15 => ?_) (fun c_15 => ?_)
        · refine mm_iconst (x := 0) dX11_canFall_42 (by decide) ?_
          refine mm_istore_n dX11_canFall_43 rfl (by decide) rfl ?_
          refine mm_iinc dX11_canFall_44 rfl rfl rfl ?_
          refine mm_goto 4 dX11_canFall_47 (by decide) ?_
          exact mm_cast (by rw [nI_succ]; simp only [sp_canI]; first | (rw [if_pos c_15]; rfl) | (rw [bI_e0] at c_23; rw [if_neg c_15, if_neg c_23]; rfl) | (rw [bI_n0] at c_23; rw [if_neg c_15, if_pos c_23]; first | (rw [if_pos c_35]; rfl) | (rw [if_neg c_35]; rfl))) rfl rfl ih
        · refine mm_iload_n dX11_canFall_18 rfl rfl ?_
          refine mm_iload_n dX11_canFall_19 rfl rfl ?_
          refine mm_cS (Y1 := YX11_has) dX11_canFall_20 lX11_177 sX11_has (mX11_has d h set i) rfl rfl (by simp [Value.category]) ?_
          refine mm_if_eq 38 dX11_canFall_23 (by decide) (fun c_23 => ?_) (fun c_23 => ?_)
          · refine mm_iconst (x := 1) dX11_canFall_38 (by decide) ?_
            refine mm_goto 43 dX11_canFall_39 (by decide) ?_
            refine mm_istore_n dX11_canFall_43 rfl (by decide) rfl ?_
            refine mm_iinc dX11_canFall_44 rfl rfl rfl ?_
            refine mm_goto 4 dX11_canFall_47 (by decide) ?_
            exact mm_cast (by rw [nI_succ]; simp only [sp_canI]; first | (rw [if_pos c_15]; rfl) | (rw [bI_e0] at c_23; rw [if_neg c_15, if_neg c_23]; rfl) | (rw [bI_n0] at c_23; rw [if_neg c_15, if_pos c_23]; first | (rw [if_pos c_35]; rfl) | (rw [if_neg c_35]; rfl))) rfl rfl ih
          · refine mm_aload_n dX11_canFall_26 rfl rfl ?_
            refine mm_getS dX11_canFall_27 fX11_55 sh_165 rfl gr_165_16 ?_
            refine mm_iload_n dX11_canFall_30 rfl rfl ?_
            refine mm_iald (i) dX11_canFall_31 sh_181 rfl (by omega) ?_
            refine mm_sipush (x := 9999) dX11_canFall_32 (by decide) ?_
            refine mm_icmp_eq 42 dX11_canFall_35 (by decide) (fun c_35 => ?_) (fun c_35 => ?_)
            · refine mm_iconst (x := 0) dX11_canFall_42 (by decide) ?_
              refine mm_istore_n dX11_canFall_43 rfl (by decide) rfl ?_
              refine mm_iinc dX11_canFall_44 rfl rfl rfl ?_
              refine mm_goto 4 dX11_canFall_47 (by decide) ?_
              exact mm_cast (by rw [nI_succ]; simp only [sp_canI]; first | (rw [if_pos c_15]; rfl) | (rw [bI_e0] at c_23; rw [if_neg c_15, if_neg c_23]; rfl) | (rw [bI_n0] at c_23; rw [if_neg c_15, if_pos c_23]; first | (rw [if_pos c_35]; rfl) | (rw [if_neg c_35]; rfl))) rfl rfl ih
            · refine mm_iconst (x := 1) dX11_canFall_38 (by decide) ?_
              refine mm_goto 43 dX11_canFall_39 (by decide) ?_
              refine mm_istore_n dX11_canFall_43 rfl (by decide) rfl ?_
              refine mm_iinc dX11_canFall_44 rfl rfl rfl ?_
              refine mm_goto 4 dX11_canFall_47 (by decide) ?_
              exact mm_cast (by rw [nI_succ]; simp only [sp_canI]; first | (rw [if_pos c_15]; rfl) | (rw [bI_e0] at c_23; rw [if_neg c_15, if_neg c_23]; rfl) | (rw [bI_n0] at c_23; rw [if_neg c_15, if_pos c_23]; first | (rw [if_pos c_35]; rfl) | (rw [if_neg c_35]; rfl))) rfl rfl ih
  refine mm_iconst (x := 1) dX11_canFall_0 (by decide) ?_
  refine mm_istore_n dX11_canFall_1 rfl (by decide) rfl ?_
  refine mm_iconst (x := 0) dX11_canFall_2 (by decide) ?_
  refine mm_istore_n dX11_canFall_3 rfl (by decide) rfl ?_
  exact K4 0 (Nat.zero_le _)
set_option maxRecDepth 100000 in
set_option maxHeartbeats 4000000 in
theorem mX11_fallen (d : Nat) (h : mm_H) (n : Nat) (hn : h.1 166 0 = nI n) (h12 : n ≤ 12) (set : Int32) : mm_M (d + 1) YX11_fallen [.ref 165, .int set] h none (mm_row h.1 181 (sp_drop (h.1 181) set n), h.2.1, h.2.2) := by
  refine mm_M.of [some (.ref 165), some (.int set), none] rfl rfl (Nat.le_of_ble_eq_true rfl) ?_
  have K2 : ∀ i, i ≤ n → mm_R (d + 1) YX11_fallen 2 [some (.ref 165), some (.int set), some (.int (nI i))] [] (mm_row h.1 181 (sp_drop (h.1 181) set i), h.2.1, h.2.2) none (mm_row h.1 181 (sp_drop (h.1 181) set n), h.2.1, h.2.2) := by
    refine mm_down n ?_ (fun i hi ih => ?_)
    · refine mm_iload_n dX11_fallen_2 rfl rfl ?_
      refine mm_aload_n dX11_fallen_3 rfl rfl ?_
      refine mm_getS dX11_fallen_4 fX11_9 sh_165 rfl gr_165_1 ?_
      refine mm_iconst (x := 0) dX11_fallen_7 (by decide) ?_
      refine mm_iald (0) dX11_fallen_8 sh_166 rfl (by decide) ?_
      refine mm_icmp_ge 40 dX11_fallen_9 (by decide) (fun c_9 => ?_) (fun c_9 => ?_)
      · exact mm_retE dX11_fallen_40 rfl rfl
      · exact absurd (by dsimp only; rw [mm_row_n (show 166 ≠ 181 by decide), hn]; exact nI_le (Nat.le_refl _) (by omega)) c_9
    · refine mm_iload_n dX11_fallen_2 rfl rfl ?_
      refine mm_aload_n dX11_fallen_3 rfl rfl ?_
      refine mm_getS dX11_fallen_4 fX11_9 sh_165 rfl gr_165_1 ?_
      refine mm_iconst (x := 0) dX11_fallen_7 (by decide) ?_
      refine mm_iald (0) dX11_fallen_8 sh_166 rfl (by decide) ?_
      refine mm_icmp_ge 40 dX11_fallen_9 (by decide) (fun c_9 => ?_) (fun c_9 => ?_)
      · exact absurd (by dsimp only at c_9; rw [mm_row_n (show 166 ≠ 181 by decide), hn] at c_9; exact c_9) (nI_ge hi (by omega))
      · refine mm_aload_n dX11_fallen_12 rfl rfl ?_
        refine mm_getS dX11_fallen_13 fX11_55 sh_165 rfl gr_165_16 ?_
        refine mm_iload_n dX11_fallen_16 rfl rfl ?_
        refine mm_dup2 dX11_fallen_17 rfl rfl ?_
        refine mm_iald (i) dX11_fallen_18 sh_181 rfl (by omega) ?_
        refine mm_iload_n dX11_fallen_19 rfl rfl ?_
        refine mm_iload_n dX11_fallen_20 rfl rfl ?_
        refine mm_cS (Y1 := YX11_has) dX11_fallen_21 lX11_177 sX11_has (mX11_has d _ set i) rfl rfl (by simp [Value.category]) ?_
        refine mm_if_eq 31 dX11_fallen_24 (by decide) (fun c_24 => ?_) (fun c_24 => ?_)
        · refine mm_iconst (x := 0) dX11_fallen_31 (by decide) ?_
          refine mm_iadd dX11_fallen_32 ?_
          refine mm_iast (i) dX11_fallen_33 sh_181 rfl (by omega) ?_
          refine mm_iinc dX11_fallen_34 rfl rfl rfl ?_
          refine mm_goto 2 dX11_fallen_37 (by decide) ?_
          exact mm_cast (by rw [nI_succ]; rfl) rfl (by dsimp only; rw [mm_up_row, mm_row_s]; refine congrArg (fun f => (mm_row h.1 181 f, h.2.1, h.2.2)) (Eq.trans ?_ (sp_drop_s _ _ _)); first | (rw [bI_n0] at c_24; rw [c_24]) | (rw [bI_e0] at c_24; rw [(sp_bit_01 set i).resolve_right c_24])) ih
        · refine mm_iconst (x := 1) dX11_fallen_27 (by decide) ?_
          refine mm_goto 32 dX11_fallen_28 (by decide) ?_
          refine mm_iadd dX11_fallen_32 ?_
          refine mm_iast (i) dX11_fallen_33 sh_181 rfl (by omega) ?_
          refine mm_iinc dX11_fallen_34 rfl rfl rfl ?_
          refine mm_goto 2 dX11_fallen_37 (by decide) ?_
          exact mm_cast (by rw [nI_succ]; rfl) rfl (by dsimp only; rw [mm_up_row, mm_row_s]; refine congrArg (fun f => (mm_row h.1 181 f, h.2.1, h.2.2)) (Eq.trans ?_ (sp_drop_s _ _ _)); first | (rw [bI_n0] at c_24; rw [c_24]) | (rw [bI_e0] at c_24; rw [(sp_bit_01 set i).resolve_right c_24])) ih
  refine mm_iconst (x := 0) dX11_fallen_0 (by decide) ?_
  refine mm_istore_n dX11_fallen_1 rfl (by decide) rfl ?_
  exact mm_cast rfl rfl (by rw [sp_drop_0, mm_row_self]) (K2 0 (Nat.zero_le _))
def sp_lay (f g : Nat → Int32) (n : Nat) : Nat → Int32 := fun j => if j < n then f j else g j
theorem sp_lay_0 (f g : Nat → Int32) : sp_lay f g 0 = g := by funext j; simp [sp_lay]
theorem sp_lay_s (f g : Nat → Int32) (i : Nat) : upd (sp_lay f g i) i (f i) = sp_lay f g (i + 1) := by
  funext j
  by_cases e : j = i
  · subst e; simp [upd, sp_lay]
  · have : (j < i + 1) ↔ j < i := by omega
    simp [upd, sp_lay, e, this]
set_option maxRecDepth 100000 in
set_option maxHeartbeats 4000000 in
theorem mX11_lay (d : Nat) (h : mm_H) (a b n nb : Nat) (ha : mm_sh a = (1, n)) (hb : mm_sh b = (1, nb)) (hab : a ≠ b) (hnn : n ≤ nb) : mm_M d YX11_lay [.ref a, .ref b] h none (mm_row h.1 b (sp_lay (h.1 a) (h.1 b) n), h.2.1, h.2.2) := by
  refine mm_M.of [some (.ref a), some (.ref b), none] rfl rfl (Nat.le_of_ble_eq_true rfl) ?_
  have h31 : n < 2 ^ 31 := mm_len ha
  have K2 : ∀ i, i ≤ n → mm_R d YX11_lay 2 [some (.ref a), some (.ref b), some (.int (nI i))] [] (mm_row h.1 b (sp_lay (h.1 a) (h.1 b) i), h.2.1, h.2.2) none (mm_row h.1 b (sp_lay (h.1 a) (h.1 b) n), h.2.1, h.2.2) := by
    refine mm_down n ?_ (fun i hi ih => ?_)
    · refine mm_iload_n dX11_lay_2 rfl rfl ?_
      refine mm_aload_n dX11_lay_3 rfl rfl ?_
      refine mm_alen dX11_lay_4 (Or.inl rfl) ha ?_
      refine mm_icmp_ge 20 dX11_lay_5 (by decide) (fun c_5 => ?_) (fun c_5 => ?_)
      · exact mm_retE dX11_lay_20 rfl rfl
      · exact absurd (nI_le (Nat.le_refl _) h31) c_5
    · refine mm_iload_n dX11_lay_2 rfl rfl ?_
      refine mm_aload_n dX11_lay_3 rfl rfl ?_
      refine mm_alen dX11_lay_4 (Or.inl rfl) ha ?_
      refine mm_icmp_ge 20 dX11_lay_5 (by decide) (fun c_5 => ?_) (fun c_5 => ?_)
      · exact absurd c_5 (nI_ge hi h31)
      · refine mm_aload_n dX11_lay_8 rfl rfl ?_
        refine mm_iload_n dX11_lay_9 rfl rfl ?_
        refine mm_aload_n dX11_lay_10 rfl rfl ?_
        refine mm_iload_n dX11_lay_11 rfl rfl ?_
        refine mm_iald (i) dX11_lay_12 ha rfl (by omega) ?_
        refine mm_iast (i) dX11_lay_13 hb rfl (by omega) ?_
        refine mm_iinc dX11_lay_14 rfl rfl rfl ?_
        refine mm_goto 2 dX11_lay_17 (by decide) ?_
        exact mm_cast (by rw [nI_succ]; rfl) rfl (by dsimp only; rw [mm_up_row, mm_row_n hab]; exact congrArg (fun f => (mm_row h.1 b f, h.2.1, h.2.2)) (sp_lay_s _ _ _)) ih
  refine mm_iconst (x := 0) dX11_lay_0 (by decide) ?_
  refine mm_istore_n dX11_lay_1 rfl (by decide) rfl ?_
  exact mm_cast rfl rfl (by rw [sp_lay_0, mm_row_self]) (K2 0 (Nat.zero_le _))
