/-! RingingCoins$Mint: what its methods answer and write. -/
/-- one bit of a set, as the program asks it -/
def sp_bit (set : Int32) (i : Nat) : Int32 := set >>> (nI i &&& 31) &&& 1
def sp_worth (f : Nat → Int32) (set : Int32) : Nat → Int32
  | 0 => 0
  | i + 1 => sp_worth f set i + sp_bit set i * f i
def sp_held (f : Nat → Int32) (p : Int32) : Nat → Int32
  | 0 => 0
  | i + 1 => if f i = p then sp_held f p i ||| (1 <<< (nI i &&& 31)) else sp_held f p i
def sp_crack (falls tough : Nat → Int32) (i : Nat) : Int32 := if tough i ≤ 0 then 0 else falls i / tough i
def sp_cracks (falls tough : Nat → Int32) : Nat → Int32
  | 0 => 0
  | i + 1 => sp_cracks falls tough i + sp_crack falls tough i
def sp_wheld (worth holder : Nat → Int32) (n : Nat) (p : Int32) : Int32 := sp_worth worth (sp_held holder p n) n
def sp_rich (g : Int32 → Int32) : Nat → Int32
  | 0 => 0
  | i + 1 => if g (nI (i + 1)) ≤ g (sp_rich g i) then sp_rich g i else nI (i + 1)
def sp_drop (f : Nat → Int32) (set : Int32) (n : Nat) : Nat → Int32 := fun j => if j < n then f j + sp_bit set j else f j
def sp_hand (f : Nat → Int32) (set p : Int32) (n : Nat) : Nat → Int32 := fun j => if j < n ∧ sp_bit set j = 1 then p else f j
/-- no coin of the set has fallen so often already -/
def sp_can (f : Nat → Int32) (set : Int32) (n : Nat) : Prop := ∀ j, j < n → sp_bit set j = 1 → f j < 9999
theorem sp_drop_0 (f : Nat → Int32) (set : Int32) : sp_drop f set 0 = f := by funext j; simp [sp_drop]
theorem sp_hand_0 (f : Nat → Int32) (set p : Int32) : sp_hand f set p 0 = f := by funext j; simp [sp_hand]
theorem sp_drop_s (f : Nat → Int32) (set : Int32) (i : Nat) : upd (sp_drop f set i) i (sp_drop f set i i + sp_bit set i) = sp_drop f set (i + 1) := by
  funext j
  by_cases e : j = i
  · subst e; simp [upd, sp_drop]
  · have : (j < i + 1) ↔ j < i := by omega
    simp [upd, sp_drop, e, this]
theorem sp_hand_s (f : Nat → Int32) (set p : Int32) (i : Nat) (hb : sp_bit set i = 1) : upd (sp_hand f set p i) i p = sp_hand f set p (i + 1) := by
  funext j
  by_cases e : j = i
  · subst e; simp [upd, sp_hand, hb]
  · have : (j < i + 1) ↔ j < i := by omega
    simp [upd, sp_hand, e, this]
theorem sp_hand_n (f : Nat → Int32) (set p : Int32) (i : Nat) (hb : ¬ sp_bit set i = 1) : sp_hand f set p i = sp_hand f set p (i + 1) := by
  funext j
  by_cases e : j = i
  · subst e; simp [sp_hand, hb]
  · have : (j < i + 1) ↔ j < i := by omega
    simp [sp_hand, this]
theorem nI_inc (i : Nat) : nI i + Int32.ofInt 1 = nI (i + 1) := by rw [nI_succ]; rfl
set_option maxRecDepth 100000 in
set_option maxHeartbeats 4000000 in
theorem mX5_worthOf (d : Nat) (h : mm_H) (b : Nat) (hb : mm_mint b) (n : Nat) (hn : h.1 b 0 = nI n) (h12 : n ≤ 12) (set : Int32) : mm_M d YX5_worthOf [.ref b, .int set] h (some (.int (sp_worth (h.1 (b + 3)) set n))) h := by
  refine mm_M.of [some (.ref b), some (.int set), none, none] rfl rfl (Nat.le_of_ble_eq_true rfl) ?_
  have K4 : ∀ i, i ≤ n → mm_R d YX5_worthOf 4 [some (.ref b), some (.int set), some (.int (sp_worth (h.1 (b + 3)) set i)), some (.int (nI i))] [] h (some (.int (sp_worth (h.1 (b + 3)) set n))) h := by
    refine mm_down n ?_ (fun i hi ih => ?_)
    · refine mm_iload_n dX5_worthOf_4 rfl rfl ?_
      refine mm_aload_n dX5_worthOf_5 rfl rfl ?_
      refine mm_getI dX5_worthOf_6 fX5_36 hb.1 rfl ?_
      refine mm_icmp_ge 33 dX5_worthOf_9 (by decide) (fun c_9 => ?_) (fun c_9 => ?_)
      · refine mm_iload_n dX5_worthOf_33 rfl rfl ?_
        exact mm_iretE dX5_worthOf_34 rfl rfl rfl
      · exact absurd (by rw [hn]; exact nI_le (Nat.le_refl _) (by omega)) c_9
    · refine mm_iload_n dX5_worthOf_4 rfl rfl ?_
      refine mm_aload_n dX5_worthOf_5 rfl rfl ?_
      refine mm_getI dX5_worthOf_6 fX5_36 hb.1 rfl ?_
      refine mm_icmp_ge 33 dX5_worthOf_9 (by decide) (fun c_9 => ?_) (fun c_9 => ?_)
      · exact absurd (by rw [hn] at c_9; exact c_9) (nI_ge hi (by omega))
      · refine mm_iload_n dX5_worthOf_12 rfl rfl ?_
        refine mm_iload_n dX5_worthOf_13 rfl rfl ?_
        refine mm_iload_n dX5_worthOf_14 rfl rfl ?_
        refine mm_ishr dX5_worthOf_15 ?_
        refine mm_iconst (x := 1) dX5_worthOf_16 (by decide) ?_
        refine mm_iand dX5_worthOf_17 ?_
        refine mm_aload_n dX5_worthOf_18 rfl rfl ?_
        refine mm_getS dX5_worthOf_19 fX5_18 hb.1 rfl hb.2.2.2.2.1 ?_
        refine mm_iload_n dX5_worthOf_22 rfl rfl ?_
        refine mm_iald (i) dX5_worthOf_23 hb.2.1.2.2.1 rfl (by omega) ?_
        refine mm_imul dX5_worthOf_24 ?_
        refine mm_iadd dX5_worthOf_25 ?_
        refine mm_istore_n dX5_worthOf_26 rfl (by decide) rfl ?_
        refine mm_iinc dX5_worthOf_27 rfl rfl rfl ?_
        refine mm_goto 4 dX5_worthOf_30 (by decide) ?_
        exact mm_cast (by rw [nI_succ]; rfl) rfl rfl ih
  refine mm_iconst (x := 0) dX5_worthOf_0 (by decide) ?_
  refine mm_istore_n dX5_worthOf_1 rfl (by decide) rfl ?_
  refine mm_iconst (x := 0) dX5_worthOf_2 (by decide) ?_
  refine mm_istore_n dX5_worthOf_3 rfl (by decide) rfl ?_
  exact K4 0 (Nat.zero_le _)
set_option maxRecDepth 100000 in
set_option maxHeartbeats 4000000 in
theorem mX5_heldBy (d : Nat) (h : mm_H) (b : Nat) (hb : mm_mint b) (n : Nat) (hn : h.1 b 0 = nI n) (h12 : n ≤ 12) (p : Int32) : mm_M d YX5_heldBy [.ref b, .int p] h (some (.int (sp_held (h.1 (b + 5)) p n))) h := by
  refine mm_M.of [some (.ref b), some (.int p), none, none] rfl rfl (Nat.le_of_ble_eq_true rfl) ?_
  have K4 : ∀ i, i ≤ n → mm_R d YX5_heldBy 4 [some (.ref b), some (.int p), some (.int (sp_held (h.1 (b + 5)) p i)), some (.int (nI i))] [] h (some (.int (sp_held (h.1 (b + 5)) p n))) h := by
    refine mm_down n ?_ (fun i hi ih => ?_)
    · refine mm_iload_n dX5_heldBy_4 rfl rfl ?_
      refine mm_aload_n dX5_heldBy_5 rfl rfl ?_
      refine mm_getI dX5_heldBy_6 fX5_36 hb.1 rfl ?_
      refine mm_icmp_ge 34 dX5_heldBy_9 (by decide) (fun c_9 => ?_) (fun c_9 => ?_)
      · refine mm_iload_n dX5_heldBy_34 rfl rfl ?_
        exact mm_iretE dX5_heldBy_35 rfl rfl rfl
      · exact absurd (by rw [hn]; exact nI_le (Nat.le_refl _) (by omega)) c_9
    · refine mm_iload_n dX5_heldBy_4 rfl rfl ?_
      refine mm_aload_n dX5_heldBy_5 rfl rfl ?_
      refine mm_getI dX5_heldBy_6 fX5_36 hb.1 rfl ?_
      refine mm_icmp_ge 34 dX5_heldBy_9 (by decide) (fun c_9 => ?_) (fun c_9 => ?_)
      · exact absurd (by rw [hn] at c_9; exact c_9) (nI_ge hi (by omega))
      · refine mm_aload_n dX5_heldBy_12 rfl rfl ?_
        refine mm_getS dX5_heldBy_13 fX5_24 hb.1 rfl hb.2.2.2.2.2.2.1 ?_
        refine mm_iload_n dX5_heldBy_16 rfl rfl ?_
        refine mm_iald (i) dX5_heldBy_17 hb.2.1.2.2.2.2.1 rfl (by omega) ?_
        refine mm_iload_n dX5_heldBy_18 rfl rfl ?_
        refine mm_icmp_ne 28 dX5_heldBy_19 (by decide) (fun c_19 => ?_) (fun c_19 => ?_)
        · refine mm_iinc dX5_heldBy_28 rfl rfl rfl ?_
          refine mm_goto 4 dX5_heldBy_31 (by decide) ?_
          exact mm_cast (by rw [nI_succ]; simp only [sp_held]; first | rw [if_pos c_19]; rfl | rw [if_neg c_19]; rfl) rfl rfl ih
        · refine mm_iload_n dX5_heldBy_22 rfl rfl ?_
          refine mm_iconst (x := 1) dX5_heldBy_23 (by decide) ?_
          refine mm_iload_n dX5_heldBy_24 rfl rfl ?_
          refine mm_ishl dX5_heldBy_25 ?_
          refine mm_ior dX5_heldBy_26 ?_
          refine mm_istore_n dX5_heldBy_27 rfl (by decide) rfl ?_
          refine mm_iinc dX5_heldBy_28 rfl rfl rfl ?_
          refine mm_goto 4 dX5_heldBy_31 (by decide) ?_
          exact mm_cast (by rw [nI_succ]; simp only [sp_held]; first | rw [if_pos c_19]; rfl | rw [if_neg c_19]; rfl) rfl rfl ih
  refine mm_iconst (x := 0) dX5_heldBy_0 (by decide) ?_
  refine mm_istore_n dX5_heldBy_1 rfl (by decide) rfl ?_
  refine mm_iconst (x := 0) dX5_heldBy_2 (by decide) ?_
  refine mm_istore_n dX5_heldBy_3 rfl (by decide) rfl ?_
  exact K4 0 (Nat.zero_le _)
set_option maxRecDepth 100000 in
set_option maxHeartbeats 4000000 in
theorem mX5_cracks (d : Nat) (h : mm_H) (b : Nat) (hb : mm_mint b) (c : Nat) (hc : c < 12) : mm_M d YX5_cracks [.ref b, .int (nI c)] h (some (.int (sp_crack (h.1 (b + 6)) (h.1 (b + 4)) c))) h := by
  refine mm_M.of [some (.ref b), some (.int (nI c))] rfl rfl (Nat.le_of_ble_eq_true rfl) ?_
  refine mm_aload_n dX5_cracks_0 rfl rfl ?_
  refine mm_getS dX5_cracks_1 fX5_21 hb.1 rfl hb.2.2.2.2.2.1 ?_
  refine mm_iload_n dX5_cracks_4 rfl rfl ?_
  refine mm_iald (c) dX5_cracks_5 hb.2.1.2.2.2.1 rfl (by omega) ?_
  refine mm_if_le 25 dX5_cracks_6 (by decide) (fun c_6 => ?_) (fun c_6 => ?_)
  · refine mm_iconst (x := 0) dX5_cracks_25 (by decide) ?_
    exact mm_iretE dX5_cracks_26 rfl (by simp only [sp_crack]; first | rw [if_pos c_6] | rw [if_neg c_6]) rfl
  · refine mm_aload_n dX5_cracks_9 rfl rfl ?_
    refine mm_getS dX5_cracks_10 fX5_27 hb.1 rfl hb.2.2.2.2.2.2.2.1 ?_
    refine mm_iload_n dX5_cracks_13 rfl rfl ?_
    refine mm_iald (c) dX5_cracks_14 hb.2.1.2.2.2.2.2.1 rfl (by omega) ?_
    refine mm_aload_n dX5_cracks_15 rfl rfl ?_
    refine mm_getS dX5_cracks_16 fX5_21 hb.1 rfl hb.2.2.2.2.2.1 ?_
    refine mm_iload_n dX5_cracks_19 rfl rfl ?_
    refine mm_iald (c) dX5_cracks_20 hb.2.1.2.2.2.1 rfl (by omega) ?_
    refine mm_idiv dX5_cracks_21 (fun z => c_6 (by rw [z]; decide)) ?_
    refine mm_goto 26 dX5_cracks_22 (by decide) ?_
    exact mm_iretE dX5_cracks_26 rfl (by simp only [sp_crack]; first | rw [if_pos c_6] | rw [if_neg c_6]) rfl
set_option maxRecDepth 100000 in
set_option maxHeartbeats 4000000 in
theorem mX5_cracksOfAll (d : Nat) (h : mm_H) (b : Nat) (hb : mm_mint b) (n : Nat) (hn : h.1 b 0 = nI n) (h12 : n ≤ 12) : mm_M (d + 1) YX5_cracksOfAll [.ref b] h (some (.int (sp_cracks (h.1 (b + 6)) (h.1 (b + 4)) n))) h := by
  refine mm_M.of [some (.ref b), none, none] rfl rfl (Nat.le_of_ble_eq_true rfl) ?_
  have K4 : ∀ i, i ≤ n → mm_R (d + 1) YX5_cracksOfAll 4 [some (.ref b), some (.int (sp_cracks (h.1 (b + 6)) (h.1 (b + 4)) i)), some (.int (nI i))] [] h (some (.int (sp_cracks (h.1 (b + 6)) (h.1 (b + 4)) n))) h := by
    refine mm_down n ?_ (fun i hi ih => ?_)
    · refine mm_iload_n dX5_cracksOfAll_4 rfl rfl ?_
      refine mm_aload_n dX5_cracksOfAll_5 rfl rfl ?_
      refine mm_getI dX5_cracksOfAll_6 fX5_36 hb.1 rfl ?_
      refine mm_icmp_ge 26 dX5_cracksOfAll_9 (by decide) (fun c_9 => ?_) (fun c_9 => ?_)
      · refine mm_iload_n dX5_cracksOfAll_26 rfl rfl ?_
        exact mm_iretE dX5_cracksOfAll_27 rfl rfl rfl
      · exact absurd (by rw [hn]; exact nI_le (Nat.le_refl _) (by omega)) c_9
    · refine mm_iload_n dX5_cracksOfAll_4 rfl rfl ?_
      refine mm_aload_n dX5_cracksOfAll_5 rfl rfl ?_
      refine mm_getI dX5_cracksOfAll_6 fX5_36 hb.1 rfl ?_
      refine mm_icmp_ge 26 dX5_cracksOfAll_9 (by decide) (fun c_9 => ?_) (fun c_9 => ?_)
      · exact absurd (by rw [hn] at c_9; exact c_9) (nI_ge hi (by omega))
      · refine mm_iload_n dX5_cracksOfAll_12 rfl rfl ?_
        refine mm_aload_n dX5_cracksOfAll_13 rfl rfl ?_
        refine mm_iload_n dX5_cracksOfAll_14 rfl rfl ?_
        refine mm_cV (Y1 := YX5_cracks) dX5_cracksOfAll_15 lX5_55 vX5_cracks (mX5_cracks d h b hb i (by omega)) hb.1 rfl rfl (by simp [Value.category]) ?_
        refine mm_iadd dX5_cracksOfAll_18 ?_
        refine mm_istore_n dX5_cracksOfAll_19 rfl (by decide) rfl ?_
        refine mm_iinc dX5_cracksOfAll_20 rfl rfl rfl ?_
        refine mm_goto 4 dX5_cracksOfAll_23 (by decide) ?_
        exact mm_cast (by rw [nI_succ]; rfl) rfl rfl ih
  refine mm_iconst (x := 0) dX5_cracksOfAll_0 (by decide) ?_
  refine mm_istore_n dX5_cracksOfAll_1 rfl (by decide) rfl ?_
  refine mm_iconst (x := 0) dX5_cracksOfAll_2 (by decide) ?_
  refine mm_istore_n dX5_cracksOfAll_3 rfl (by decide) rfl ?_
  exact K4 0 (Nat.zero_le _)
set_option maxRecDepth 100000 in
set_option maxHeartbeats 4000000 in
theorem mX5_worthHeld (d : Nat) (h : mm_H) (b : Nat) (hb : mm_mint b) (n : Nat) (hn : h.1 b 0 = nI n) (h12 : n ≤ 12) (p : Int32) : mm_M (d + 1) YX5_worthHeld [.ref b, .int p] h (some (.int (sp_wheld (h.1 (b + 3)) (h.1 (b + 5)) n p))) h := by
  refine mm_M.of [some (.ref b), some (.int p)] rfl rfl (Nat.le_of_ble_eq_true rfl) ?_
  refine mm_aload_n dX5_worthHeld_0 rfl rfl ?_
  refine mm_aload_n dX5_worthHeld_1 rfl rfl ?_
  refine mm_iload_n dX5_worthHeld_2 rfl rfl ?_
  refine mm_cV (Y1 := YX5_heldBy) dX5_worthHeld_3 lX5_59 vX5_heldBy (mX5_heldBy d h b hb n hn h12 p) hb.1 rfl rfl (by simp [Value.category]) ?_
  refine mm_cV (Y1 := YX5_worthOf) dX5_worthHeld_6 lX5_62 vX5_worthOf (mX5_worthOf d h b hb n hn h12 _) hb.1 rfl rfl (by simp [Value.category]) ?_
  exact mm_iretE dX5_worthHeld_9 rfl rfl rfl
set_option maxRecDepth 100000 in
set_option maxHeartbeats 4000000 in
theorem mX5_richest (d : Nat) (h : mm_H) (b : Nat) (hb : mm_mint b) (n : Nat) (hn : h.1 b 0 = nI n) (h12 : n ≤ 12) : mm_M (d + 2) YX5_richest [.ref b] h (some (.int (sp_rich (sp_wheld (h.1 (b + 3)) (h.1 (b + 5)) n) 5))) h := by
  refine mm_M.of [some (.ref b), none, none] rfl rfl (Nat.le_of_ble_eq_true rfl) ?_
  have K4 : ∀ i, i ≤ 5 → mm_R (d + 2) YX5_richest 4 [some (.ref b), some (.int (sp_rich (sp_wheld (h.1 (b + 3)) (h.1 (b + 5)) n) i)), some (.int (nI (i + 1)))] [] h (some (.int (sp_rich (sp_wheld (h.1 (b + 3)) (h.1 (b + 5)) n) 5))) h := by
    refine mm_down 5 ?_ (fun i hi ih => ?_)
    · refine mm_iload_n dX5_richest_4 rfl rfl ?_
      refine mm_bipush (x := 6) dX5_richest_5 (by decide) ?_
      refine mm_icmp_ge 31 dX5_richest_7 (by decide) (fun c_7 => ?_) (fun c_7 => ?_)
      · refine mm_iload_n dX5_richest_31 rfl rfl ?_
        exact mm_iretE dX5_richest_32 rfl rfl rfl
      · exact absurd (by decide) c_7
    · refine mm_iload_n dX5_richest_4 rfl rfl ?_
      refine mm_bipush (x := 6) dX5_richest_5 (by decide) ?_
      refine mm_icmp_ge 31 dX5_richest_7 (by decide) (fun c_7 => ?_) (fun c_7 => ?_)
      · exact absurd c_7 (nI_ge (a := i + 1) (b := 6) (by omega) (by omega))
      · refine mm_aload_n dX5_richest_10 rfl rfl ?_
        refine mm_iload_n dX5_richest_11 rfl rfl ?_
        refine mm_cV (Y1 := YX5_worthHeld) dX5_richest_12 lX5_65 vX5_worthHeld (mX5_worthHeld d h b hb n hn h12 _) hb.1 rfl rfl (by simp [Value.category]) ?_
        refine mm_aload_n dX5_richest_15 rfl rfl ?_
        refine mm_iload_n dX5_richest_16 rfl rfl ?_
        refine mm_cV (Y1 := YX5_worthHeld) dX5_richest_17 lX5_65 vX5_worthHeld (mX5_worthHeld d h b hb n hn h12 _) hb.1 rfl rfl (by simp [Value.category]) ?_
        refine mm_icmp_le 25 dX5_richest_20 (by decide) (fun c_20 => ?_) (fun c_20 => ?_)
        · refine mm_iinc dX5_richest_25 rfl rfl rfl ?_
          refine mm_goto 4 dX5_richest_28 (by decide) ?_
          exact mm_cast (by rw [nI_succ (i + 1)]; simp only [sp_rich]; first | rw [if_pos c_20]; rfl | rw [if_neg c_20]; rfl) rfl rfl ih
        · refine mm_iload_n dX5_richest_23 rfl rfl ?_
          refine mm_istore_n dX5_richest_24 rfl (by decide) rfl ?_
          refine mm_iinc dX5_richest_25 rfl rfl rfl ?_
          refine mm_goto 4 dX5_richest_28 (by decide) ?_
          exact mm_cast (by rw [nI_succ (i + 1)]; simp only [sp_rich]; first | rw [if_pos c_20]; rfl | rw [if_neg c_20]; rfl) rfl rfl ih
  refine mm_iconst (x := 0) dX5_richest_0 (by decide) ?_
  refine mm_istore_n dX5_richest_1 rfl (by decide) rfl ?_
  refine mm_iconst (x := 1) dX5_richest_2 (by decide) ?_
  refine mm_istore_n dX5_richest_3 rfl (by decide) rfl ?_
  exact K4 0 (Nat.zero_le _)
set_option maxRecDepth 100000 in
set_option maxHeartbeats 4000000 in
theorem mX5_canDrop_t (d : Nat) (h : mm_H) (b : Nat) (hb : mm_mint b) (n : Nat) (hn : h.1 b 0 = nI n) (h12 : n ≤ 12) (set : Int32) (hc : sp_can (h.1 (b + 6)) set n) : mm_M d YX5_canDrop [.ref b, .int set] h (some (.int 1)) h := by
  refine mm_M.of [some (.ref b), some (.int set), none] rfl rfl (Nat.le_of_ble_eq_true rfl) ?_
  have K2 : ∀ i, i ≤ n → mm_R d YX5_canDrop 2 [some (.ref b), some (.int set), some (.int (nI i))] [] h (some (.int 1)) h := by
    refine mm_down n ?_ (fun i hi ih => ?_)
    · refine mm_iload_n dX5_canDrop_2 rfl rfl ?_
      refine mm_aload_n dX5_canDrop_3 rfl rfl ?_
      refine mm_getI dX5_canDrop_4 fX5_36 hb.1 rfl ?_
      refine mm_icmp_ge 39 dX5_canDrop_7 (by decide) (fun c_7 => ?_) (fun c_7 => ?_)
      · refine mm_iconst (x := 1) dX5_canDrop_39 (by decide) ?_
        exact mm_zretE dX5_canDrop_40 rfl rfl rfl rfl
      · exact absurd (by rw [hn]; exact nI_le (Nat.le_refl _) (by omega)) c_7
    · refine mm_iload_n dX5_canDrop_2 rfl rfl ?_
      refine mm_aload_n dX5_canDrop_3 rfl rfl ?_
      refine mm_getI dX5_canDrop_4 fX5_36 hb.1 rfl ?_
      refine mm_icmp_ge 39 dX5_canDrop_7 (by decide) (fun c_7 => ?_) (fun c_7 => ?_)
      · exact absurd (by rw [hn] at c_7; exact c_7) (nI_ge hi (by omega))
      · refine mm_iload_n dX5_canDrop_10 rfl rfl ?_
        refine mm_iload_n dX5_canDrop_11 rfl rfl ?_
        refine mm_ishr dX5_canDrop_12 ?_
        refine mm_iconst (x := 1) dX5_canDrop_13 (by decide) ?_
        refine mm_iand dX5_canDrop_14 ?_
        refine mm_iconst (x := 1) dX5_canDrop_15 (by decide) ?_
        refine mm_icmp_ne 33 dX5_canDrop_16 (by decide) (fun c_16 => ?_) (fun c_16 => ?_)
        · refine mm_iinc dX5_canDrop_33 rfl rfl rfl ?_
          refine mm_goto 2 dX5_canDrop_36 (by decide) ?_
          exact mm_cast (by rw [nI_succ]; rfl) rfl rfl ih
        · refine mm_aload_n dX5_canDrop_19 rfl rfl ?_
          refine mm_getS dX5_canDrop_20 fX5_27 hb.1 rfl hb.2.2.2.2.2.2.2.1 ?_
          refine mm_iload_n dX5_canDrop_23 rfl rfl ?_
          refine mm_iald (i) dX5_canDrop_24 hb.2.1.2.2.2.2.2.1 rfl (by omega) ?_
          refine mm_sipush (x := 9999) dX5_canDrop_25 (by decide) ?_
          refine mm_icmp_lt 33 dX5_canDrop_28 (by decide) (fun c_28 => ?_) (fun c_28 => ?_)
          · refine mm_iinc dX5_canDrop_33 rfl rfl rfl ?_
            refine mm_goto 2 dX5_canDrop_36 (by decide) ?_
            exact mm_cast (by rw [nI_succ]; rfl) rfl rfl ih
          · exact absurd (hc i hi c_16) c_28
  refine mm_iconst (x := 0) dX5_canDrop_0 (by decide) ?_
  refine mm_istore_n dX5_canDrop_1 rfl (by decide) rfl ?_
  exact K2 0 (Nat.zero_le _)
set_option maxRecDepth 100000 in
set_option maxHeartbeats 4000000 in
theorem mX5_canDrop_f (d : Nat) (h : mm_H) (b : Nat) (hb : mm_mint b) (n : Nat) (hn : h.1 b 0 = nI n) (h12 : n ≤ 12) (set : Int32) (hc : ¬ sp_can (h.1 (b + 6)) set n) : mm_M d YX5_canDrop [.ref b, .int set] h (some (.int 0)) h := by
  refine mm_M.of [some (.ref b), some (.int set), none] rfl rfl (Nat.le_of_ble_eq_true rfl) ?_
  have K2 : ∀ i, i ≤ n → ((∀ j, j < i → sp_bit set j = 1 → h.1 (b + 6) j < 9999) → mm_R d YX5_canDrop 2 [some (.ref b), some (.int set), some (.int (nI i))] [] h (some (.int 0)) h) := by
    refine mm_down n (fun q => absurd q hc) (fun i hi ih q => ?_)
    refine mm_iload_n dX5_canDrop_2 rfl rfl ?_
    refine mm_aload_n dX5_canDrop_3 rfl rfl ?_
    refine mm_getI dX5_canDrop_4 fX5_36 hb.1 rfl ?_
    refine mm_icmp_ge 39 dX5_canDrop_7 (by decide) (fun c_7 => ?_) (fun c_7 => ?_)
    · exact absurd (by rw [hn] at c_7; exact c_7) (nI_ge hi (by omega))
    · refine mm_iload_n dX5_canDrop_10 rfl rfl ?_
      refine mm_iload_n dX5_canDrop_11 rfl rfl ?_
      refine mm_ishr dX5_canDrop_12 ?_
      refine mm_iconst (x := 1) dX5_canDrop_13 (by decide) ?_
      refine mm_iand dX5_canDrop_14 ?_
      refine mm_iconst (x := 1) dX5_canDrop_15 (by decide) ?_
      refine mm_icmp_ne 33 dX5_canDrop_16 (by decide) (fun c_16 => ?_) (fun c_16 => ?_)
      · refine mm_iinc dX5_canDrop_33 rfl rfl rfl ?_
        refine mm_goto 2 dX5_canDrop_36 (by decide) ?_
        exact mm_cast (by rw [nI_succ]; rfl) rfl rfl (ih (fun j hj hb1 => by rcases (show j < i ∨ j = i by omega) with z | z; exact q j z hb1; subst z; first | exact absurd hb1 c_16 | exact c_28))
      · refine mm_aload_n dX5_canDrop_19 rfl rfl ?_
        refine mm_getS dX5_canDrop_20 fX5_27 hb.1 rfl hb.2.2.2.2.2.2.2.1 ?_
        refine mm_iload_n dX5_canDrop_23 rfl rfl ?_
        refine mm_iald (i) dX5_canDrop_24 hb.2.1.2.2.2.2.2.1 rfl (by omega) ?_
        refine mm_sipush (x := 9999) dX5_canDrop_25 (by decide) ?_
        refine mm_icmp_lt 33 dX5_canDrop_28 (by decide) (fun c_28 => ?_) (fun c_28 => ?_)
        · refine mm_iinc dX5_canDrop_33 rfl rfl rfl ?_
          refine mm_goto 2 dX5_canDrop_36 (by decide) ?_
          exact mm_cast (by rw [nI_succ]; rfl) rfl rfl (ih (fun j hj hb1 => by rcases (show j < i ∨ j = i by omega) with z | z; exact q j z hb1; subst z; first | exact absurd hb1 c_16 | exact c_28))
        · refine mm_iconst (x := 0) dX5_canDrop_31 (by decide) ?_
          exact mm_zretE dX5_canDrop_32 rfl rfl rfl rfl
  refine mm_iconst (x := 0) dX5_canDrop_0 (by decide) ?_
  refine mm_istore_n dX5_canDrop_1 rfl (by decide) rfl ?_
  exact K2 0 (Nat.zero_le _) (fun j hj => absurd hj (Nat.not_lt_zero j))
set_option maxRecDepth 100000 in
set_option maxHeartbeats 4000000 in
theorem mX5_drop (d : Nat) (h : mm_H) (b : Nat) (hb : mm_mint b) (n : Nat) (hn : h.1 b 0 = nI n) (h12 : n ≤ 12) (set : Int32) : mm_M d YX5_drop [.ref b, .int set] h none (mm_row h.1 (b + 6) (sp_drop (h.1 (b + 6)) set n), h.2.1, h.2.2) := by
  refine mm_M.of [some (.ref b), some (.int set), none] rfl rfl (Nat.le_of_ble_eq_true rfl) ?_
  have K2 : ∀ i, i ≤ n → mm_R d YX5_drop 2 [some (.ref b), some (.int set), some (.int (nI i))] [] (mm_row h.1 (b + 6) (sp_drop (h.1 (b + 6)) set i), h.2.1, h.2.2) none (mm_row h.1 (b + 6) (sp_drop (h.1 (b + 6)) set n), h.2.1, h.2.2) := by
    refine mm_down n ?_ (fun i hi ih => ?_)
    · refine mm_iload_n dX5_drop_2 rfl rfl ?_
      refine mm_aload_n dX5_drop_3 rfl rfl ?_
      refine mm_getI dX5_drop_4 fX5_36 hb.1 rfl ?_
      refine mm_icmp_ge 30 dX5_drop_7 (by decide) (fun c_7 => ?_) (fun c_7 => ?_)
      · exact mm_retE dX5_drop_30 rfl rfl
      · exact absurd (by dsimp only; rw [mm_row_n (show b ≠ b + 6 by omega), hn]; exact nI_le (Nat.le_refl _) (by omega)) c_7
    · refine mm_iload_n dX5_drop_2 rfl rfl ?_
      refine mm_aload_n dX5_drop_3 rfl rfl ?_
      refine mm_getI dX5_drop_4 fX5_36 hb.1 rfl ?_
      refine mm_icmp_ge 30 dX5_drop_7 (by decide) (fun c_7 => ?_) (fun c_7 => ?_)
      · exact absurd (by dsimp only at c_7; rw [mm_row_n (show b ≠ b + 6 by omega), hn] at c_7; exact c_7) (nI_ge hi (by omega))
      · refine mm_aload_n dX5_drop_10 rfl rfl ?_
        refine mm_getS dX5_drop_11 fX5_27 hb.1 rfl hb.2.2.2.2.2.2.2.1 ?_
        refine mm_iload_n dX5_drop_14 rfl rfl ?_
        refine mm_dup2 dX5_drop_15 rfl rfl ?_
        refine mm_iald (i) dX5_drop_16 hb.2.1.2.2.2.2.2.1 rfl (by omega) ?_
        refine mm_iload_n dX5_drop_17 rfl rfl ?_
        refine mm_iload_n dX5_drop_18 rfl rfl ?_
        refine mm_ishr dX5_drop_19 ?_
        refine mm_iconst (x := 1) dX5_drop_20 (by decide) ?_
        refine mm_iand dX5_drop_21 ?_
        refine mm_iadd dX5_drop_22 ?_
        refine mm_iast (i) dX5_drop_23 hb.2.1.2.2.2.2.2.1 rfl (by omega) ?_
        refine mm_iinc dX5_drop_24 rfl rfl rfl ?_
        refine mm_goto 2 dX5_drop_27 (by decide) ?_
        exact mm_cast (by rw [nI_succ]; rfl) rfl (by dsimp only; rw [mm_up_row, mm_row_s]; exact congrArg (fun f => (mm_row h.1 (b + 6) f, h.2.1, h.2.2)) (sp_drop_s _ _ _)) ih
  refine mm_iconst (x := 0) dX5_drop_0 (by decide) ?_
  refine mm_istore_n dX5_drop_1 rfl (by decide) rfl ?_
  exact mm_cast rfl rfl (by rw [sp_drop_0, mm_row_self]) (K2 0 (Nat.zero_le _))
set_option maxRecDepth 100000 in
set_option maxHeartbeats 4000000 in
theorem mX5_hand (d : Nat) (h : mm_H) (b : Nat) (hb : mm_mint b) (n : Nat) (hn : h.1 b 0 = nI n) (h12 : n ≤ 12) (set p : Int32) : mm_M d YX5_hand [.ref b, .int set, .int p] h none (mm_row h.1 (b + 5) (sp_hand (h.1 (b + 5)) set p n), h.2.1, h.2.2) := by
  refine mm_M.of [some (.ref b), some (.int set), some (.int p), none] rfl rfl (Nat.le_of_ble_eq_true rfl) ?_
  have K2 : ∀ i, i ≤ n → mm_R d YX5_hand 2 [some (.ref b), some (.int set), some (.int p), some (.int (nI i))] [] (mm_row h.1 (b + 5) (sp_hand (h.1 (b + 5)) set p i), h.2.1, h.2.2) none (mm_row h.1 (b + 5) (sp_hand (h.1 (b + 5)) set p n), h.2.1, h.2.2) := by
    refine mm_down n ?_ (fun i hi ih => ?_)
    · refine mm_iload_n dX5_hand_2 rfl rfl ?_
      refine mm_aload_n dX5_hand_3 rfl rfl ?_
      refine mm_getI dX5_hand_4 fX5_36 hb.1 rfl ?_
      refine mm_icmp_ge 32 dX5_hand_7 (by decide) (fun c_7 => ?_) (fun c_7 => ?_)
      · exact mm_retE dX5_hand_32 rfl rfl
      · exact absurd (by dsimp only; rw [mm_row_n (show b ≠ b + 5 by omega), hn]; exact nI_le (Nat.le_refl _) (by omega)) c_7
    · refine mm_iload_n dX5_hand_2 rfl rfl ?_
      refine mm_aload_n dX5_hand_3 rfl rfl ?_
      refine mm_getI dX5_hand_4 fX5_36 hb.1 rfl ?_
      refine mm_icmp_ge 32 dX5_hand_7 (by decide) (fun c_7 => ?_) (fun c_7 => ?_)
      · exact absurd (by dsimp only at c_7; rw [mm_row_n (show b ≠ b + 5 by omega), hn] at c_7; exact c_7) (nI_ge hi (by omega))
      · refine mm_iload_n dX5_hand_10 rfl rfl ?_
        refine mm_iload_n dX5_hand_11 rfl rfl ?_
        refine mm_ishr dX5_hand_12 ?_
        refine mm_iconst (x := 1) dX5_hand_13 (by decide) ?_
        refine mm_iand dX5_hand_14 ?_
        refine mm_iconst (x := 1) dX5_hand_15 (by decide) ?_
        refine mm_icmp_ne 26 dX5_hand_16 (by decide) (fun c_16 => ?_) (fun c_16 => ?_)
        · refine mm_iinc dX5_hand_26 rfl rfl rfl ?_
          refine mm_goto 2 dX5_hand_29 (by decide) ?_
          exact mm_cast (by rw [nI_succ]; rfl) rfl (by first | (dsimp only; rw [mm_up_row]; exact congrArg (fun f => (mm_row h.1 (b + 5) f, h.2.1, h.2.2)) (sp_hand_s _ _ _ _ c_16)) | exact congrArg (fun f => (mm_row h.1 (b + 5) f, h.2.1, h.2.2)) (sp_hand_n _ _ _ _ c_16)) ih
        · refine mm_aload_n dX5_hand_19 rfl rfl ?_
          refine mm_getS dX5_hand_20 fX5_24 hb.1 rfl hb.2.2.2.2.2.2.1 ?_
          refine mm_iload_n dX5_hand_23 rfl rfl ?_
          refine mm_iload_n dX5_hand_24 rfl rfl ?_
          refine mm_iast (i) dX5_hand_25 hb.2.1.2.2.2.2.1 rfl (by omega) ?_
          refine mm_iinc dX5_hand_26 rfl rfl rfl ?_
          refine mm_goto 2 dX5_hand_29 (by decide) ?_
          exact mm_cast (by rw [nI_succ]; rfl) rfl (by first | (dsimp only; rw [mm_up_row]; exact congrArg (fun f => (mm_row h.1 (b + 5) f, h.2.1, h.2.2)) (sp_hand_s _ _ _ _ c_16)) | exact congrArg (fun f => (mm_row h.1 (b + 5) f, h.2.1, h.2.2)) (sp_hand_n _ _ _ _ c_16)) ih
  refine mm_iconst (x := 0) dX5_hand_0 (by decide) ?_
  refine mm_istore_n dX5_hand_1 rfl (by decide) rfl ?_
  exact mm_cast rfl rfl (by rw [sp_hand_0, mm_row_self]) (K2 0 (Nat.zero_le _))
set_option maxRecDepth 100000 in
set_option maxHeartbeats 4000000 in
theorem mX5_clear (d : Nat) (h : mm_H) (b : Nat) (hb : mm_mint b) : mm_M d YX5_clear [.ref b] h none (mm_up (mm_up (mm_up (mm_up h.1 b 0 0) b 7 0) b 10 0) b 11 0, h.2.1, h.2.2) := by
  refine mm_M.of [some (.ref b)] rfl rfl (Nat.le_of_ble_eq_true rfl) ?_
  refine mm_aload_n dX5_clear_0 rfl rfl ?_
  refine mm_iconst (x := 0) dX5_clear_1 (by decide) ?_
  refine mm_putI dX5_clear_2 fX5_36 hb.1 rfl rfl rfl ?_
  refine mm_aload_n dX5_clear_5 rfl rfl ?_
  refine mm_iconst (x := 0) dX5_clear_6 (by decide) ?_
  refine mm_putI dX5_clear_7 fX5_40 hb.1 rfl rfl rfl ?_
  refine mm_aload_n dX5_clear_10 rfl rfl ?_
  refine mm_iconst (x := 0) dX5_clear_11 (by decide) ?_
  refine mm_putI dX5_clear_12 fX5_43 hb.1 rfl rfl rfl ?_
  refine mm_aload_n dX5_clear_15 rfl rfl ?_
  refine mm_iconst (x := 0) dX5_clear_16 (by decide) ?_
  refine mm_putI dX5_clear_17 fX5_46 hb.1 rfl rfl rfl ?_
  exact mm_retE dX5_clear_20 rfl rfl
