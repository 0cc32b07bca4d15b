/-! RingingCoins$Mint: what its methods answer and write. -/
/-- one bit of a set, as the program asks it -/
def sp_bit (set : Int32) (i : Nat) : Int32 := set >>> (nI i &&& 31) &&& 1
def sp_worth (f : Nat → Int32) (set : Int32) : Nat → Int32
  | 0 => 0
  | i + 1 => sp_worth f set i + sp_bit set i * f i
def sp_held (f : Nat → Int32) (p : Int32) : Nat → Int32
  | 0 => 0
  | i + 1 => if f i = p then sp_held f p i ||| (1 <<< (nI i &&& 31)) else sp_held f p i
theorem nI_inc (i : Nat) : nI i + Int32.ofInt 1 = nI (i + 1) := by rw [nI_succ]; rfl
set_option maxRecDepth 100000 in
set_option maxHeartbeats 4000000 in
theorem mX5_worthOf (d : Nat) (h : mm_H) (b : Nat) (hb : mm_mint b) (n : Nat) (hn : h.1 b 0 = nI n) (h12 : n ≤ 12) (set : Int32) : mm_M d YX5_worthOf [.ref b, .int set] h (some (.int (sp_worth (h.1 (b + 3)) set n))) h := by
  refine mm_M.of [some (.ref b), some (.int set), none, none] rfl rfl (Nat.le_of_ble_eq_true rfl) ?_
  have K4 : ∀ i, i ≤ n → mm_R d YX5_worthOf 4 [some (.ref b), some (.int set), some (.int (sp_worth (h.1 (b + 3)) set i)), some (.int (nI i))] [] h (some (.int (sp_worth (h.1 (b + 3)) set n))) h := by
    refine mm_down n ?_ (fun i hi ih => ?_)
    · refine mm_iload_n dX5_worthOf_4 rfl rfl ?_
      refine mm_aload_n dX5_worthOf_5 rfl rfl ?_
      refine mm_getI dX5_worthOf_6 fX5_36 hb.1 rfl ?_
      refine mm_icmp_ge 33 dX5_worthOf_9 (by decide) (fun c_9 => ?_) (fun c_9 => ?_)
      · refine mm_iload_n dX5_worthOf_33 rfl rfl ?_
        exact mm_iretE dX5_worthOf_34 rfl rfl rfl
      · exact absurd (by rw [hn]; exact nI_le (Nat.le_refl _) (by omega)) c_9
    · refine mm_iload_n dX5_worthOf_4 rfl rfl ?_
      refine mm_aload_n dX5_worthOf_5 rfl rfl ?_
      refine mm_getI dX5_worthOf_6 fX5_36 hb.1 rfl ?_
      refine mm_icmp_ge 33 dX5_worthOf_9 (by decide) (fun c_9 => ?_) (fun c_9 => ?_)
      · exact absurd (by rw [hn] at c_9; exact c_9) (nI_ge hi (by omega))
      · refine mm_iload_n dX5_worthOf_12 rfl rfl ?_
        refine mm_iload_n dX5_worthOf_13 rfl rfl ?_
        refine mm_iload_n dX5_worthOf_14 rfl rfl ?_
        refine mm_ishr dX5_worthOf_15 ?_
        refine mm_iconst (x := 1) dX5_worthOf_16 (by decide) ?_
        refine mm_iand dX5_worthOf_17 ?_
        refine mm_aload_n dX5_worthOf_18 rfl rfl ?_
        refine mm_getS dX5_worthOf_19 fX5_18 hb.1 rfl hb.2.2.2.2.1 ?_
        refine mm_iload_n dX5_worthOf_22 rfl rfl ?_
        refine mm_iald (i) dX5_worthOf_23 hb.2.1.2.2.1 rfl (by omega) ?_
        refine mm_imul dX5_worthOf_24 ?_
        refine mm_iadd dX5_worthOf_25 ?_
        refine mm_istore_n dX5_worthOf_26 rfl (by decide) rfl ?_
        refine mm_iinc dX5_worthOf_27 rfl rfl rfl ?_
        refine mm_goto 4 dX5_worthOf_30 (by decide) ?_
        exact mm_cast (by rw [nI_succ]; rfl) rfl rfl ih
  refine mm_iconst (x := 0) dX5_worthOf_0 (by decide) ?_
  refine mm_istore_n dX5_worthOf_1 rfl (by decide) rfl ?_
  refine mm_iconst (x := 0) dX5_worthOf_2 (by decide) ?_
  refine mm_istore_n dX5_worthOf_3 rfl (by decide) rfl ?_
  exact K4 0 (Nat.zero_le _)
