/-! feed, payment, hear, of the class and of the reference. -/
/-- one byte behind the tape (row ct; its length at (tc, tk)) -/
def sp_b1 (ct tc tk : Nat) (h : mm_H) (t : Nat) (z : Int32) : mm_H := (mm_up (mm_up h.1 ct t z.toInt8.toInt32) tc tk (nI t + 1), h.2.1, h.2.2)
theorem sp_b1_len {ct tc tk : Nat} {h : mm_H} {t : Nat} {z : Int32} : (sp_b1 ct tc tk h t z).1 tc tk = nI (t + 1) := by
  show mm_up _ tc tk (nI t + 1) tc tk = _
  rw [mm_up_e, nI_succ]
def sp_b4 (ct tc tk : Nat) (h : mm_H) (t : Nat) (y : Nat → Int32) : mm_H := sp_b1 ct tc tk (sp_b1 ct tc tk (sp_b1 ct tc tk (sp_b1 ct tc tk h t (y 0)) (t + 1) (y 1)) (t + 2) (y 2)) (t + 3) (y 3)
theorem sp_b4_len {ct tc tk : Nat} {h : mm_H} {t : Nat} {y : Nat → Int32} : (sp_b4 ct tc tk h t y).1 tc tk = nI (t + 4) := sp_b1_len
/-- the four bytes of a number, the highest first -/
def sp_by (x : Int32) (k : Nat) : Int32 := match k with
  | 0 => sp_us x 24
  | 1 => sp_us x 16
  | 2 => sp_us x 8
  | _ => sp_us x 0
def sp_byM (x : Int32) (k : Nat) : Int32 := match k with
  | 0 => x >>> ((24 : Int32) &&& 31)
  | 1 => x >>> ((16 : Int32) &&& 31)
  | 2 => x >>> ((8 : Int32) &&& 31)
  | _ => x >>> ((0 : Int32) &&& 31)
set_option maxRecDepth 100000 in
set_option maxHeartbeats 4000000 in
theorem itX10_appendBytes (d : Nat) (h : mm_H) (t : Nat) (ht : h.1 0 1 = nI t) (h4 : t < 400) (x k k1 : Int32) (hk : ¬ k < 0) (hk1 : k + Int32.ofInt (-8) = k1) (v : Option Value) (h' : mm_H) (K : mm_R d YX10_appendBytes 3 [some (.ref 0), some (.int x), some (.int k1)] [] (sp_b1 1 0 1 h t (sp_us x k)) v h') : mm_R d YX10_appendBytes 3 [some (.ref 0), some (.int x), some (.int k)] [] h v h' := by
  refine mm_iload_n dX10_appendBytes_3 rfl rfl ?_
  refine mm_if_lt 46 dX10_appendBytes_4 (by decide) (fun c_4 => ?_) (fun c_4 => ?_)
  · exact absurd c_4 hk
  · refine mm_aload_n dX10_appendBytes_7 rfl rfl ?_
    refine mm_getI dX10_appendBytes_8 fX10_91 sh_0 rfl ?_
    refine mm_sipush (x := 400) dX10_appendBytes_11 (by decide) ?_
    refine mm_icmp_ge 46 dX10_appendBytes_14 (by decide) (fun c_14 => ?_) (fun c_14 => ?_)
    · exact absurd (by rw [ht] at c_14; exact c_14) (nI_ge (b := 400) h4 (by decide))
    · refine mm_aload_n dX10_appendBytes_17 rfl rfl ?_
      refine mm_getS dX10_appendBytes_18 fX10_9 sh_0 rfl gr_0_0 ?_
      refine mm_aload_n dX10_appendBytes_21 rfl rfl ?_
      refine mm_getI dX10_appendBytes_22 fX10_91 sh_0 rfl ?_
      refine mm_iload_n dX10_appendBytes_25 rfl rfl ?_
      refine mm_iload_n dX10_appendBytes_26 rfl rfl ?_
      refine mm_iushr dX10_appendBytes_27 rfl ?_
      refine mm_i2b dX10_appendBytes_28 rfl ?_
      refine mm_bast (t) dX10_appendBytes_29 sh_1 ht h4 (pk_vb _) ?_
      refine mm_aload_n dX10_appendBytes_30 rfl rfl ?_
      refine mm_dup dX10_appendBytes_31 rfl ?_
      refine mm_getI dX10_appendBytes_32 fX10_91 sh_0 rfl ?_
      refine mm_iconst (x := 1) dX10_appendBytes_35 (by decide) ?_
      refine mm_iadd dX10_appendBytes_36 ?_
      refine mm_putI dX10_appendBytes_37 fX10_91 sh_0 rfl rfl rfl ?_
      refine mm_iinc dX10_appendBytes_40 rfl rfl rfl ?_
      refine mm_goto 3 dX10_appendBytes_43 (by decide) ?_
      refine mm_cast (ls' := [some (.ref 0), some (.int x), some (.int k1)]) (by rw [← hk1]; rfl) rfl ?_ K
      dsimp only
      rw [mm_up_n (show 0 ≠ 1 by decide), ht]
      rfl
set_option maxRecDepth 100000 in
set_option maxHeartbeats 4000000 in
theorem itX11_put (d : Nat) (h : mm_H) (t : Nat) (ht : h.1 165 20 = nI t) (h4 : t < 400) (x k k1 : Int32) (hk : ¬ k < 0) (hk1 : k + Int32.ofInt (-8) = k1) (v : Option Value) (h' : mm_H) (K : mm_R d YX11_put 3 [some (.ref 165), some (.int x), some (.int k1)] [] (sp_b1 185 165 20 h t (x >>> (k &&& 31))) v h') : mm_R d YX11_put 3 [some (.ref 165), some (.int x), some (.int k)] [] h v h' := by
  refine mm_iload_n dX11_put_3 rfl rfl ?_
  refine mm_if_lt 36 dX11_put_4 (by decide) (fun c_4 => ?_) (fun c_4 => ?_)
  · exact absurd c_4 hk
  · refine mm_aload_n dX11_put_7 rfl rfl ?_
    refine mm_getS dX11_put_8 fX11_71 sh_165 rfl gr_165_32 ?_
    refine mm_aload_n dX11_put_11 rfl rfl ?_
    refine mm_getI dX11_put_12 fX11_181 sh_165 rfl ?_
    refine mm_iload_n dX11_put_15 rfl rfl ?_
    refine mm_iload_n dX11_put_16 rfl rfl ?_
    refine mm_ishr dX11_put_17 ?_
    refine mm_i2b dX11_put_18 rfl ?_
    refine mm_bast (t) dX11_put_19 sh_185 ht h4 (pk_vb _) ?_
    refine mm_aload_n dX11_put_20 rfl rfl ?_
    refine mm_dup dX11_put_21 rfl ?_
    refine mm_getI dX11_put_22 fX11_181 sh_165 rfl ?_
    refine mm_iconst (x := 1) dX11_put_25 (by decide) ?_
    refine mm_iadd dX11_put_26 ?_
    refine mm_putI dX11_put_27 fX11_181 sh_165 rfl rfl rfl ?_
    refine mm_iinc dX11_put_30 rfl rfl rfl ?_
    refine mm_goto 3 dX11_put_33 (by decide) ?_
    refine mm_cast (ls' := [some (.ref 165), some (.int x), some (.int k1)]) (by rw [← hk1]; rfl) rfl ?_ K
    dsimp only
    rw [mm_up_n (show 165 ≠ 185 by decide), ht]
    rfl
set_option maxRecDepth 100000 in
set_option maxHeartbeats 4000000 in
theorem mX10_appendBytes (d : Nat) (h : mm_H) (t : Nat) (ht : h.1 0 1 = nI t) (h4 : t + 4 ≤ 400) (x : Int32) : mm_M d YX10_appendBytes [.ref 0, .int x] h none (sp_b4 1 0 1 h t (sp_by x)) := by
  refine mm_M.of [some (.ref 0), some (.int x), none] rfl rfl (Nat.le_of_ble_eq_true rfl) ?_
  refine mm_bipush (x := 24) dX10_appendBytes_0 (by decide) ?_
  refine mm_istore_n dX10_appendBytes_2 rfl (by decide) rfl ?_
  refine itX10_appendBytes d _ t ht (by omega) x 24 16 (by decide) (by decide) _ _ ?_
  refine itX10_appendBytes d _ (t + 1) sp_b1_len (by omega) x 16 8 (by decide) (by decide) _ _ ?_
  refine itX10_appendBytes d _ (t + 2) sp_b1_len (by omega) x 8 0 (by decide) (by decide) _ _ ?_
  refine itX10_appendBytes d _ (t + 3) sp_b1_len (by omega) x 0 (-8) (by decide) (by decide) _ _ ?_
  refine mm_iload_n dX10_appendBytes_3 rfl rfl ?_
  refine mm_if_lt 46 dX10_appendBytes_4 (by decide) (fun c_4 => ?_) (fun c_4 => ?_)
  · exact mm_retE dX10_appendBytes_46 rfl rfl
  · exact absurd (by decide) c_4
set_option maxRecDepth 100000 in
set_option maxHeartbeats 4000000 in
theorem mX11_put (d : Nat) (h : mm_H) (t : Nat) (ht : h.1 165 20 = nI t) (h4 : t + 4 ≤ 400) (x : Int32) : mm_M d YX11_put [.ref 165, .int x] h none (sp_b4 185 165 20 h t (sp_byM x)) := by
  refine mm_M.of [some (.ref 165), some (.int x), none] rfl rfl (Nat.le_of_ble_eq_true rfl) ?_
  refine mm_bipush (x := 24) dX11_put_0 (by decide) ?_
  refine mm_istore_n dX11_put_2 rfl (by decide) rfl ?_
  refine itX11_put d _ t ht (by omega) x 24 16 (by decide) (by decide) _ _ ?_
  refine itX11_put d _ (t + 1) sp_b1_len (by omega) x 16 8 (by decide) (by decide) _ _ ?_
  refine itX11_put d _ (t + 2) sp_b1_len (by omega) x 8 0 (by decide) (by decide) _ _ ?_
  refine itX11_put d _ (t + 3) sp_b1_len (by omega) x 0 (-8) (by decide) (by decide) _ _ ?_
  refine mm_iload_n dX11_put_3 rfl rfl ?_
  refine mm_if_lt 36 dX11_put_4 (by decide) (fun c_4 => ?_) (fun c_4 => ?_)
  · exact mm_retE dX11_put_36 rfl rfl
  · exact absurd (by decide) c_4
def sp_b20 (ct tc tk : Nat) (by_ : Int32 → Nat → Int32) (h : mm_H) (t : Nat) (a b c e g : Int32) : mm_H := sp_b4 ct tc tk (sp_b4 ct tc tk (sp_b4 ct tc tk (sp_b4 ct tc tk (sp_b4 ct tc tk h t (by_ a)) (t + 4) (by_ b)) (t + 8) (by_ c)) (t + 12) (by_ e)) (t + 16) (by_ g)
theorem ad20 {t : Nat} (h4 : t ≤ 400) : (nI t + 20).toInt = (t : Int) + 20 := by
  have e : nI t + 20 = nI (t + 20) := nI_add t 20
  rw [e, nI_toInt (by omega)]
  omega
set_option maxRecDepth 100000 in
set_option maxHeartbeats 4000000 in
theorem mX10_feed_t (d : Nat) (h : mm_H) (t : Nat) (ht : h.1 0 1 = nI t) (h4 : t ≤ 400) (hc : t + 20 ≤ 400) (a b c e g : Int32) : mm_M (d + 1) YX10_feed [.ref 0, .int a, .int b, .int c, .int e, .int g] h (some (.int (nI (t + 20)))) (sp_b20 1 0 1 sp_by h t a b c e g) := by
  refine mm_M.of [some (.ref 0), some (.int a), some (.int b), some (.int c), some (.int e), some (.int g)] rfl rfl (Nat.le_of_ble_eq_true rfl) ?_
  refine mm_aload_n dX10_feed_0 rfl rfl ?_
  refine mm_getI dX10_feed_1 fX10_91 sh_0 rfl ?_
  refine mm_bipush (x := 20) dX10_feed_4 (by decide) ?_
  refine mm_iadd dX10_feed_6 ?_
  refine mm_sipush (x := 400) dX10_feed_7 (by decide) ?_
  refine mm_icmp_le 15 dX10_feed_10 (by decide) (fun c_10 => ?_) (fun c_10 => ?_)
  · refine mm_aload_n dX10_feed_15 rfl rfl ?_
    refine mm_iload_n dX10_feed_16 rfl rfl ?_
    refine mm_cV (Y1 := YX10_appendBytes) dX10_feed_17 lX10_95 vX10_appendBytes (mX10_appendBytes d h t ht (by omega) a) sh_0 rfl rfl (by simp [Value.category]) ?_
    refine mm_aload_n dX10_feed_20 rfl rfl ?_
    refine mm_iload_n dX10_feed_21 rfl rfl ?_
    refine mm_cV (Y1 := YX10_appendBytes) dX10_feed_22 lX10_95 vX10_appendBytes (mX10_appendBytes d _ (t + 4) sp_b4_len (by omega) b) sh_0 rfl rfl (by simp [Value.category]) ?_
    refine mm_aload_n dX10_feed_25 rfl rfl ?_
    refine mm_iload_n dX10_feed_26 rfl rfl ?_
    refine mm_cV (Y1 := YX10_appendBytes) dX10_feed_27 lX10_95 vX10_appendBytes (mX10_appendBytes d _ (t + 8) sp_b4_len (by omega) c) sh_0 rfl rfl (by simp [Value.category]) ?_
    refine mm_aload_n dX10_feed_30 rfl rfl ?_
    refine mm_iload dX10_feed_31 rfl ?_
    refine mm_cV (Y1 := YX10_appendBytes) dX10_feed_33 lX10_95 vX10_appendBytes (mX10_appendBytes d _ (t + 12) sp_b4_len (by omega) e) sh_0 rfl rfl (by simp [Value.category]) ?_
    refine mm_aload_n dX10_feed_36 rfl rfl ?_
    refine mm_iload dX10_feed_37 rfl ?_
    refine mm_cV (Y1 := YX10_appendBytes) dX10_feed_39 lX10_95 vX10_appendBytes (mX10_appendBytes d _ (t + 16) sp_b4_len (by omega) g) sh_0 rfl rfl (by simp [Value.category]) ?_
    refine mm_aload_n dX10_feed_42 rfl rfl ?_
    refine mm_getI dX10_feed_43 fX10_91 sh_0 rfl ?_
    exact mm_iretE dX10_feed_46 rfl sp_b4_len rfl
  · exfalso; (try simp only [lg_lt, lg_ge, lg_gt, lg_le] at *); simp only [ht, ad20 h4, Int32.lt_iff_toInt_lt, Int32.le_iff_toInt_le, Int64.lt_iff_toInt_lt, Int64.le_iff_toInt_le, ti_0, ti_1, ti_2, ti_3, ti_4, ti_5, ti_6, ti_10, ti_12, ti_200, ti_400, ti_500, ti_999, ti_2400, ti_9999, ti_m9999, ti_m20000, ti_m1, i64_toInt, li_0, li_1, li_2, li_3, li_4, li_5, li_10, li_12, li_15, li_48, li_57, li_200, li_500, li_999, li_2400, li_9999, li_m9999, li_11999] at *; omega
set_option maxRecDepth 100000 in
set_option maxHeartbeats 4000000 in
theorem mX10_feed_f (d : Nat) (h : mm_H) (t : Nat) (ht : h.1 0 1 = nI t) (h4 : t ≤ 400) (hc : ¬ t + 20 ≤ 400) (a b c e g : Int32) : mm_M (d + 1) YX10_feed [.ref 0, .int a, .int b, .int c, .int e, .int g] h (some (.int (-1))) h := by
  refine mm_M.of [some (.ref 0), some (.int a), some (.int b), some (.int c), some (.int e), some (.int g)] rfl rfl (Nat.le_of_ble_eq_true rfl) ?_
  refine mm_aload_n dX10_feed_0 rfl rfl ?_
  refine mm_getI dX10_feed_1 fX10_91 sh_0 rfl ?_
  refine mm_bipush (x := 20) dX10_feed_4 (by decide) ?_
  refine mm_iadd dX10_feed_6 ?_
  refine mm_sipush (x := 400) dX10_feed_7 (by decide) ?_
  refine mm_icmp_le 15 dX10_feed_10 (by decide) (fun c_10 => ?_) (fun c_10 => ?_)
  · exfalso; (try simp only [lg_lt, lg_ge, lg_gt, lg_le] at *); simp only [ht, ad20 h4, Int32.lt_iff_toInt_lt, Int32.le_iff_toInt_le, Int64.lt_iff_toInt_lt, Int64.le_iff_toInt_le, ti_0, ti_1, ti_2, ti_3, ti_4, ti_5, ti_6, ti_10, ti_12, ti_200, ti_400, ti_500, ti_999, ti_2400, ti_9999, ti_m9999, ti_m20000, ti_m1, i64_toInt, li_0, li_1, li_2, li_3, li_4, li_5, li_10, li_12, li_15, li_48, li_57, li_200, li_500, li_999, li_2400, li_9999, li_m9999, li_11999] at *; omega
  · refine mm_iconst (x := (-1)) dX10_feed_13 (by decide) ?_
    exact mm_iretE dX10_feed_14 rfl rfl rfl
set_option maxRecDepth 100000 in
set_option maxHeartbeats 4000000 in
theorem mX11_feed_t (d : Nat) (h : mm_H) (t : Nat) (ht : h.1 165 20 = nI t) (h4 : t ≤ 400) (hc : t + 20 ≤ 400) (a b c e g : Int32) : mm_M (d + 1) YX11_feed [.ref 165, .int a, .int b, .int c, .int e, .int g] h (some (.int (nI (t + 20)))) (sp_b20 185 165 20 sp_byM h t a b c e g) := by
  refine mm_M.of [some (.ref 165), some (.int a), some (.int b), some (.int c), some (.int e), some (.int g)] rfl rfl (Nat.le_of_ble_eq_true rfl) ?_
  refine mm_aload_n dX11_feed_0 rfl rfl ?_
  refine mm_getI dX11_feed_1 fX11_181 sh_165 rfl ?_
  refine mm_bipush (x := 20) dX11_feed_4 (by decide) ?_
  refine mm_iadd dX11_feed_6 ?_
  refine mm_sipush (x := 400) dX11_feed_7 (by decide) ?_
  refine mm_icmp_le 15 dX11_feed_10 (by decide) (fun c_10 => ?_) (fun c_10 => ?_)
  · refine mm_aload_n dX11_feed_15 rfl rfl ?_
    refine mm_iload_n dX11_feed_16 rfl rfl ?_
    refine mm_cV (Y1 := YX11_put) dX11_feed_17 lX11_184 vX11_put (mX11_put d h t ht (by omega) a) sh_165 rfl rfl (by simp [Value.category]) ?_
    refine mm_aload_n dX11_feed_20 rfl rfl ?_
    refine mm_iload_n dX11_feed_21 rfl rfl ?_
    refine mm_cV (Y1 := YX11_put) dX11_feed_22 lX11_184 vX11_put (mX11_put d _ (t + 4) sp_b4_len (by omega) b) sh_165 rfl rfl (by simp [Value.category]) ?_
    refine mm_aload_n dX11_feed_25 rfl rfl ?_
    refine mm_iload_n dX11_feed_26 rfl rfl ?_
    refine mm_cV (Y1 := YX11_put) dX11_feed_27 lX11_184 vX11_put (mX11_put d _ (t + 8) sp_b4_len (by omega) c) sh_165 rfl rfl (by simp [Value.category]) ?_
    refine mm_aload_n dX11_feed_30 rfl rfl ?_
    refine mm_iload dX11_feed_31 rfl ?_
    refine mm_cV (Y1 := YX11_put) dX11_feed_33 lX11_184 vX11_put (mX11_put d _ (t + 12) sp_b4_len (by omega) e) sh_165 rfl rfl (by simp [Value.category]) ?_
    refine mm_aload_n dX11_feed_36 rfl rfl ?_
    refine mm_iload dX11_feed_37 rfl ?_
    refine mm_cV (Y1 := YX11_put) dX11_feed_39 lX11_184 vX11_put (mX11_put d _ (t + 16) sp_b4_len (by omega) g) sh_165 rfl rfl (by simp [Value.category]) ?_
    refine mm_aload_n dX11_feed_42 rfl rfl ?_
    refine mm_getI dX11_feed_43 fX11_181 sh_165 rfl ?_
    exact mm_iretE dX11_feed_46 rfl sp_b4_len rfl
  · exfalso; (try simp only [lg_lt, lg_ge, lg_gt, lg_le] at *); simp only [ht, ad20 h4, Int32.lt_iff_toInt_lt, Int32.le_iff_toInt_le, Int64.lt_iff_toInt_lt, Int64.le_iff_toInt_le, ti_0, ti_1, ti_2, ti_3, ti_4, ti_5, ti_6, ti_10, ti_12, ti_200, ti_400, ti_500, ti_999, ti_2400, ti_9999, ti_m9999, ti_m20000, ti_m1, i64_toInt, li_0, li_1, li_2, li_3, li_4, li_5, li_10, li_12, li_15, li_48, li_57, li_200, li_500, li_999, li_2400, li_9999, li_m9999, li_11999] at *; omega
set_option maxRecDepth 100000 in
set_option maxHeartbeats 4000000 in
theorem mX11_feed_f (d : Nat) (h : mm_H) (t : Nat) (ht : h.1 165 20 = nI t) (h4 : t ≤ 400) (hc : ¬ t + 20 ≤ 400) (a b c e g : Int32) : mm_M (d + 1) YX11_feed [.ref 165, .int a, .int b, .int c, .int e, .int g] h (some (.int (-1))) h := by
  refine mm_M.of [some (.ref 165), some (.int a), some (.int b), some (.int c), some (.int e), some (.int g)] rfl rfl (Nat.le_of_ble_eq_true rfl) ?_
  refine mm_aload_n dX11_feed_0 rfl rfl ?_
  refine mm_getI dX11_feed_1 fX11_181 sh_165 rfl ?_
  refine mm_bipush (x := 20) dX11_feed_4 (by decide) ?_
  refine mm_iadd dX11_feed_6 ?_
  refine mm_sipush (x := 400) dX11_feed_7 (by decide) ?_
  refine mm_icmp_le 15 dX11_feed_10 (by decide) (fun c_10 => ?_) (fun c_10 => ?_)
  · exfalso; (try simp only [lg_lt, lg_ge, lg_gt, lg_le] at *); simp only [ht, ad20 h4, Int32.lt_iff_toInt_lt, Int32.le_iff_toInt_le, Int64.lt_iff_toInt_lt, Int64.le_iff_toInt_le, ti_0, ti_1, ti_2, ti_3, ti_4, ti_5, ti_6, ti_10, ti_12, ti_200, ti_400, ti_500, ti_999, ti_2400, ti_9999, ti_m9999, ti_m20000, ti_m1, i64_toInt, li_0, li_1, li_2, li_3, li_4, li_5, li_10, li_12, li_15, li_48, li_57, li_200, li_500, li_999, li_2400, li_9999, li_m9999, li_11999] at *; omega
  · refine mm_iconst (x := (-1)) dX11_feed_13 (by decide) ?_
    exact mm_iretE dX11_feed_14 rfl rfl rfl
set_option maxRecDepth 100000 in
set_option maxHeartbeats 4000000 in
theorem mX10_payment_0 (d : Nat) (h : mm_H) (s : Int32) : mm_M (d + 1) YX10_payment [.ref 0, .int (-1), .int s] h (some (.int 0)) (mm_up h.1 61 5 0, h.2.1, h.2.2) := by
  refine mm_M.of [some (.ref 0), some (.int (-1)), some (.int s)] rfl rfl (Nat.le_of_ble_eq_true rfl) ?_
  refine mm_iload_n dX10_payment_0 rfl rfl ?_
  refine mm_iconst (x := (-1)) dX10_payment_1 (by decide) ?_
  refine mm_icmp_ne 15 dX10_payment_2 (by decide) (fun c_2 => ?_) (fun c_2 => ?_)
  · exact absurd rfl c_2
  · refine mm_aload_n dX10_payment_5 rfl rfl ?_
    refine mm_getS dX10_payment_6 fX10_45 sh_0 rfl gr_0_7 ?_
    refine mm_iconst (x := 0) dX10_payment_9 (by decide) ?_
    refine mm_putI dX10_payment_10 fX10_265 sh_61 rfl rfl rfl ?_
    refine mm_iconst (x := 0) dX10_payment_13 (by decide) ?_
    exact mm_iretE dX10_payment_14 rfl rfl rfl
set_option maxRecDepth 100000 in
set_option maxHeartbeats 4000000 in
theorem mX10_payment_f (d : Nat) (h : mm_H) (n m q : Nat) (hn : h.1 65 0 = nI n) (h12 : n ≤ 12) (hm : h.1 65 7 = nI m) (h4 : m ≤ 4) (hq : h.1 61 5 = nI q) (h10 : q ≤ 10) (c s : Int32) (h1 : ¬ c = -1) (hc : ¬ ((0 ≤ c.toInt ∧ c.toInt < m) ∧ (0 < m ∧ 0 ≤ s.toInt ∧ s.toInt < (2 ^ n : Nat)) ∧ ¬ s = 0 ∧ q < 10)) : mm_M (d + 1) YX10_payment [.ref 0, .int c, .int s] h (some (.int (-2))) h := by
  refine mm_M.of [some (.ref 0), some (.int c), some (.int s)] rfl rfl (Nat.le_of_ble_eq_true rfl) ?_
  refine mm_iload_n dX10_payment_0 rfl rfl ?_
  refine mm_iconst (x := (-1)) dX10_payment_1 (by decide) ?_
  refine mm_icmp_ne 15 dX10_payment_2 (by decide) (fun c_2 => ?_) (fun c_2 => ?_)
  · refine mm_aload_n dX10_payment_15 rfl rfl ?_
    refine mm_iload_n dX10_payment_16 rfl rfl ?_
    refine mm_cV (Y1 := YX10_isCounter) dX10_payment_17 lX10_153 vX10_isCounter (mX10_isCounter d h m hm h4 c) sh_0 rfl rfl (by simp [Value.category]) ?_
    refine mm_if_eq 47 dX10_payment_20 (by decide) (fun c_20 => ?_) (fun c_20 => ?_)
    · refine mm_bipush (x := (-2)) dX10_payment_47 (by decide) ?_
      exact mm_iretE dX10_payment_49 rfl rfl rfl
    · refine mm_aload_n dX10_payment_23 rfl rfl ?_
      refine mm_iload_n dX10_payment_24 rfl rfl ?_
      refine mm_cV (Y1 := YX10_isSet) dX10_payment_25 lX10_165 vX10_isSet (mX10_isSet d h n m hn h12 hm h4 s) sh_0 rfl rfl (by simp [Value.category]) ?_
      refine mm_if_eq 47 dX10_payment_28 (by decide) (fun c_28 => ?_) (fun c_28 => ?_)
      · refine mm_bipush (x := (-2)) dX10_payment_47 (by decide) ?_
        exact mm_iretE dX10_payment_49 rfl rfl rfl
      · refine mm_iload_n dX10_payment_31 rfl rfl ?_
        refine mm_if_eq 47 dX10_payment_32 (by decide) (fun c_32 => ?_) (fun c_32 => ?_)
        · refine mm_bipush (x := (-2)) dX10_payment_47 (by decide) ?_
          exact mm_iretE dX10_payment_49 rfl rfl rfl
        · refine mm_aload_n dX10_payment_35 rfl rfl ?_
          refine mm_getS dX10_payment_36 fX10_45 sh_0 rfl gr_0_7 ?_
          refine mm_getI dX10_payment_39 fX10_265 sh_61 rfl ?_
          refine mm_bipush (x := 10) dX10_payment_42 (by decide) ?_
          refine mm_icmp_lt 50 dX10_payment_44 (by decide) (fun c_44 => ?_) (fun c_44 => ?_)
          · exact absurd ⟨bI_n0.mp c_20, bI_n0.mp c_28, c_32, by (try simp only [lg_lt, lg_ge, lg_gt, lg_le] at *); simp only [hq, nI_toInt (show q < 2 ^ 31 by omega), Int32.lt_iff_toInt_lt, Int32.le_iff_toInt_le, Int64.lt_iff_toInt_lt, Int64.le_iff_toInt_le, ti_0, ti_1, ti_2, ti_3, ti_4, ti_5, ti_6, ti_10, ti_12, ti_200, ti_400, ti_500, ti_999, ti_2400, ti_9999, ti_m9999, ti_m20000, ti_m1, i64_toInt, li_0, li_1, li_2, li_3, li_4, li_5, li_10, li_12, li_15, li_48, li_57, li_200, li_500, li_999, li_2400, li_9999, li_m9999, li_11999] at *; omega⟩ hc
          · refine mm_bipush (x := (-2)) dX10_payment_47 (by decide) ?_
            exact mm_iretE dX10_payment_49 rfl rfl rfl
  · exact absurd c_2 h1
set_option maxRecDepth 100000 in
set_option maxHeartbeats 4000000 in
theorem mX10_payment_t (d : Nat) (h : mm_H) (n m q : Nat) (hn : h.1 65 0 = nI n) (h12 : n ≤ 12) (hm : h.1 65 7 = nI m) (h4 : m ≤ 4) (hq : h.1 61 5 = nI q) (h10 : q ≤ 10) (c s : Int32) (h1 : ¬ c = -1) (hc : ((0 ≤ c.toInt ∧ c.toInt < m) ∧ (0 < m ∧ 0 ≤ s.toInt ∧ s.toInt < (2 ^ n : Nat)) ∧ ¬ s = 0 ∧ q < 10)) : mm_M (d + 1) YX10_payment [.ref 0, .int c, .int s] h (some (.int (nI (q + 1)))) (mm_up (mm_up (mm_up h.1 63 q c) 64 q s) 61 5 (nI (q + 1)), h.2.1, h.2.2) := by
  refine mm_M.of [some (.ref 0), some (.int c), some (.int s)] rfl rfl (Nat.le_of_ble_eq_true rfl) ?_
  refine mm_iload_n dX10_payment_0 rfl rfl ?_
  refine mm_iconst (x := (-1)) dX10_payment_1 (by decide) ?_
  refine mm_icmp_ne 15 dX10_payment_2 (by decide) (fun c_2 => ?_) (fun c_2 => ?_)
  · refine mm_aload_n dX10_payment_15 rfl rfl ?_
    refine mm_iload_n dX10_payment_16 rfl rfl ?_
    refine mm_cV (Y1 := YX10_isCounter) dX10_payment_17 lX10_153 vX10_isCounter (mX10_isCounter d h m hm h4 c) sh_0 rfl rfl (by simp [Value.category]) ?_
    refine mm_if_eq 47 dX10_payment_20 (by decide) (fun c_20 => ?_) (fun c_20 => ?_)
    · exact absurd hc.1 (bI_e0.mp c_20)
    · refine mm_aload_n dX10_payment_23 rfl rfl ?_
      refine mm_iload_n dX10_payment_24 rfl rfl ?_
      refine mm_cV (Y1 := YX10_isSet) dX10_payment_25 lX10_165 vX10_isSet (mX10_isSet d h n m hn h12 hm h4 s) sh_0 rfl rfl (by simp [Value.category]) ?_
      refine mm_if_eq 47 dX10_payment_28 (by decide) (fun c_28 => ?_) (fun c_28 => ?_)
      · exact absurd hc.2.1 (bI_e0.mp c_28)
      · refine mm_iload_n dX10_payment_31 rfl rfl ?_
        refine mm_if_eq 47 dX10_payment_32 (by decide) (fun c_32 => ?_) (fun c_32 => ?_)
        · exact absurd c_32 hc.2.2.1
        · refine mm_aload_n dX10_payment_35 rfl rfl ?_
          refine mm_getS dX10_payment_36 fX10_45 sh_0 rfl gr_0_7 ?_
          refine mm_getI dX10_payment_39 fX10_265 sh_61 rfl ?_
          refine mm_bipush (x := 10) dX10_payment_42 (by decide) ?_
          refine mm_icmp_lt 50 dX10_payment_44 (by decide) (fun c_44 => ?_) (fun c_44 => ?_)
          · refine mm_aload_n dX10_payment_50 rfl rfl ?_
            refine mm_getS dX10_payment_51 fX10_45 sh_0 rfl gr_0_7 ?_
            refine mm_getS dX10_payment_54 fX10_268 sh_61 rfl gr_61_3 ?_
            refine mm_aload_n dX10_payment_57 rfl rfl ?_
            refine mm_getS dX10_payment_58 fX10_45 sh_0 rfl gr_0_7 ?_
            refine mm_getI dX10_payment_61 fX10_265 sh_61 rfl ?_
            refine mm_iload_n dX10_payment_64 rfl rfl ?_
            refine mm_iast (q) dX10_payment_65 sh_63 hq hc.2.2.2 ?_
            refine mm_aload_n dX10_payment_66 rfl rfl ?_
            refine mm_getS dX10_payment_67 fX10_45 sh_0 rfl gr_0_7 ?_
            refine mm_getS dX10_payment_70 fX10_271 sh_61 rfl gr_61_4 ?_
            refine mm_aload_n dX10_payment_73 rfl rfl ?_
            refine mm_getS dX10_payment_74 fX10_45 sh_0 rfl gr_0_7 ?_
            refine mm_getI dX10_payment_77 fX10_265 sh_61 rfl ?_
            refine mm_iload_n dX10_payment_80 rfl rfl ?_
            refine mm_iast (q) dX10_payment_81 sh_64 (by dsimp only; rw [mm_up_n (by decide)]; exact hq) hc.2.2.2 ?_
            refine mm_aload_n dX10_payment_82 rfl rfl ?_
            refine mm_getS dX10_payment_83 fX10_45 sh_0 rfl gr_0_7 ?_
            refine mm_dup dX10_payment_86 rfl ?_
            refine mm_getI dX10_payment_87 fX10_265 sh_61 rfl ?_
            refine mm_iconst (x := 1) dX10_payment_90 (by decide) ?_
            refine mm_iadd dX10_payment_91 ?_
            refine mm_putI dX10_payment_92 fX10_265 sh_61 rfl rfl rfl ?_
            refine mm_aload_n dX10_payment_95 rfl rfl ?_
            refine mm_getS dX10_payment_96 fX10_45 sh_0 rfl gr_0_7 ?_
            refine mm_getI dX10_payment_99 fX10_265 sh_61 rfl ?_
            exact mm_iretE dX10_payment_102 rfl (by dsimp only; rw [mm_up_e]; show mm_up (mm_up h.1 63 q c) 64 q s 61 5 + 1 = _; rw [mm_up_n (by decide), mm_up_n (by decide), hq, nI_succ]) (by dsimp only; rw [show mm_up (mm_up h.1 63 q c) 64 q s 61 5 + 1 = nI (q + 1) by rw [mm_up_n (by decide), mm_up_n (by decide), hq, nI_succ]])
          · have z := hc.2.2.2
            exfalso; (try simp only [lg_lt, lg_ge, lg_gt, lg_le] at *); simp only [hq, nI_toInt (show q < 2 ^ 31 by omega), Int32.lt_iff_toInt_lt, Int32.le_iff_toInt_le, Int64.lt_iff_toInt_lt, Int64.le_iff_toInt_le, ti_0, ti_1, ti_2, ti_3, ti_4, ti_5, ti_6, ti_10, ti_12, ti_200, ti_400, ti_500, ti_999, ti_2400, ti_9999, ti_m9999, ti_m20000, ti_m1, i64_toInt, li_0, li_1, li_2, li_3, li_4, li_5, li_10, li_12, li_15, li_48, li_57, li_200, li_500, li_999, li_2400, li_9999, li_m9999, li_11999] at *; omega
  · exact absurd c_2 h1
set_option maxRecDepth 100000 in
set_option maxHeartbeats 4000000 in
theorem mX11_payment_0 (d : Nat) (h : mm_H) (s : Int32) : mm_M (d + 2) YX11_payment [.ref 165, .int (-1), .int s] h (some (.int 0)) (mm_up h.1 166 5 0, h.2.1, h.2.2) := by
  refine mm_M.of [some (.ref 165), some (.int (-1)), some (.int s), none] rfl rfl (Nat.le_of_ble_eq_true rfl) ?_
  refine mm_iload_n dX11_payment_0 rfl rfl ?_
  refine mm_iconst (x := (-1)) dX11_payment_1 (by decide) ?_
  refine mm_icmp_ne 14 dX11_payment_2 (by decide) (fun c_2 => ?_) (fun c_2 => ?_)
  · exact absurd rfl c_2
  · refine mm_aload_n dX11_payment_5 rfl rfl ?_
    refine mm_getS dX11_payment_6 fX11_9 sh_165 rfl gr_165_1 ?_
    refine mm_iconst (x := 5) dX11_payment_9 (by decide) ?_
    refine mm_iconst (x := 0) dX11_payment_10 (by decide) ?_
    refine mm_iast (5) dX11_payment_11 sh_166 rfl (by decide) ?_
    refine mm_iconst (x := 0) dX11_payment_12 (by decide) ?_
    exact mm_iretE dX11_payment_13 rfl rfl rfl
set_option maxRecDepth 100000 in
set_option maxHeartbeats 4000000 in
theorem mX11_payment_f (d : Nat) (h : mm_H) (n m q : Nat) (hn : h.1 166 0 = nI n) (h12 : n ≤ 12) (hm : h.1 166 1 = nI m) (h4 : m ≤ 4) (hq : h.1 166 5 = nI q) (h10 : q ≤ 10) (c s : Int32) (h1 : ¬ c = -1) (hc : ¬ ((0 ≤ c.toInt ∧ c.toInt < m) ∧ (0 < m ∧ 0 ≤ s.toInt ∧ s.toInt < (2 ^ n : Nat)) ∧ ¬ s = 0 ∧ q < 10)) : mm_M (d + 2) YX11_payment [.ref 165, .int c, .int s] h (some (.int (-2))) h := by
  refine mm_M.of [some (.ref 165), some (.int c), some (.int s), none] rfl rfl (Nat.le_of_ble_eq_true rfl) ?_
  refine mm_iload_n dX11_payment_0 rfl rfl ?_
  refine mm_iconst (x := (-1)) dX11_payment_1 (by decide) ?_
  refine mm_icmp_ne 14 dX11_payment_2 (by decide) (fun c_2 => ?_) (fun c_2 => ?_)
  · refine mm_aload_n dX11_payment_14 rfl rfl ?_
    refine mm_getS dX11_payment_15 fX11_9 sh_165 rfl gr_165_1 ?_
    refine mm_iconst (x := 5) dX11_payment_18 (by decide) ?_
    refine mm_iald (5) dX11_payment_19 sh_166 rfl (by decide) ?_
    refine mm_istore_n dX11_payment_20 rfl (by decide) rfl ?_
    refine mm_iload_n dX11_payment_21 rfl rfl ?_
    refine mm_bipush (x := 10) dX11_payment_22 (by decide) ?_
    refine mm_icmp_eq 47 dX11_payment_24 (by decide) (fun c_24 => ?_) (fun c_24 => ?_)
    · refine mm_bipush (x := (-2)) dX11_payment_47 (by decide) ?_
      exact mm_iretE dX11_payment_49 rfl rfl rfl
    · refine mm_aload_n dX11_payment_27 rfl rfl ?_
      refine mm_iload_n dX11_payment_28 rfl rfl ?_
      refine mm_cV (Y1 := YX11_isCounter) dX11_payment_29 lX11_388 vX11_isCounter (mX11_isCounter d h m hm (by omega) c) sh_165 rfl rfl (by simp [Value.category]) ?_
      refine mm_if_eq 47 dX11_payment_32 (by decide) (fun c_32 => ?_) (fun c_32 => ?_)
      · refine mm_bipush (x := (-2)) dX11_payment_47 (by decide) ?_
        exact mm_iretE dX11_payment_49 rfl rfl rfl
      · refine mm_aload_n dX11_payment_35 rfl rfl ?_
        refine mm_iload_n dX11_payment_36 rfl rfl ?_
        refine mm_cV (Y1 := YX11_isSet) dX11_payment_37 lX11_396 vX11_isSet (mX11_isSet d h n m hn h12 hm h4 s) sh_165 rfl rfl (by simp [Value.category]) ?_
        refine mm_if_eq 47 dX11_payment_40 (by decide) (fun c_40 => ?_) (fun c_40 => ?_)
        · refine mm_bipush (x := (-2)) dX11_payment_47 (by decide) ?_
          exact mm_iretE dX11_payment_49 rfl rfl rfl
        · refine mm_iload_n dX11_payment_43 rfl rfl ?_
          refine mm_if_ne 50 dX11_payment_44 (by decide) (fun c_44 => ?_) (fun c_44 => ?_)
          · exact absurd ⟨bI_n0.mp c_32, bI_n0.mp c_40, c_44, by rcases (show q < 10 ∨ q = 10 by omega) with z | z; exact z; subst z; exact absurd hq c_24⟩ hc
          · refine mm_bipush (x := (-2)) dX11_payment_47 (by decide) ?_
            exact mm_iretE dX11_payment_49 rfl rfl rfl
  · exact absurd c_2 h1
set_option maxRecDepth 100000 in
set_option maxHeartbeats 4000000 in
theorem mX11_payment_t (d : Nat) (h : mm_H) (n m q : Nat) (hn : h.1 166 0 = nI n) (h12 : n ≤ 12) (hm : h.1 166 1 = nI m) (h4 : m ≤ 4) (hq : h.1 166 5 = nI q) (h10 : q ≤ 10) (c s : Int32) (h1 : ¬ c = -1) (hc : ((0 ≤ c.toInt ∧ c.toInt < m) ∧ (0 < m ∧ 0 ≤ s.toInt ∧ s.toInt < (2 ^ n : Nat)) ∧ ¬ s = 0 ∧ q < 10)) : mm_M (d + 2) YX11_payment [.ref 165, .int c, .int s] h (some (.int (nI (q + 1)))) (mm_up (mm_up (mm_up h.1 183 q c) 184 q s) 166 5 (nI (q + 1)), h.2.1, h.2.2) := by
  refine mm_M.of [some (.ref 165), some (.int c), some (.int s), none] rfl rfl (Nat.le_of_ble_eq_true rfl) ?_
  refine mm_iload_n dX11_payment_0 rfl rfl ?_
  refine mm_iconst (x := (-1)) dX11_payment_1 (by decide) ?_
  refine mm_icmp_ne 14 dX11_payment_2 (by decide) (fun c_2 => ?_) (fun c_2 => ?_)
  · refine mm_aload_n dX11_payment_14 rfl rfl ?_
    refine mm_getS dX11_payment_15 fX11_9 sh_165 rfl gr_165_1 ?_
    refine mm_iconst (x := 5) dX11_payment_18 (by decide) ?_
    refine mm_iald (5) dX11_payment_19 sh_166 rfl (by decide) ?_
    refine mm_istore_n dX11_payment_20 rfl (by decide) rfl ?_
    refine mm_iload_n dX11_payment_21 rfl rfl ?_
    refine mm_bipush (x := 10) dX11_payment_22 (by decide) ?_
    refine mm_icmp_eq 47 dX11_payment_24 (by decide) (fun c_24 => ?_) (fun c_24 => ?_)
    · have z := hc.2.2.2
      exact absurd (nI_inj (a := q) (b := 10) (by omega) (by decide) (hq.symm.trans c_24)) (by omega)
    · refine mm_aload_n dX11_payment_27 rfl rfl ?_
      refine mm_iload_n dX11_payment_28 rfl rfl ?_
      refine mm_cV (Y1 := YX11_isCounter) dX11_payment_29 lX11_388 vX11_isCounter (mX11_isCounter d h m hm (by omega) c) sh_165 rfl rfl (by simp [Value.category]) ?_
      refine mm_if_eq 47 dX11_payment_32 (by decide) (fun c_32 => ?_) (fun c_32 => ?_)
      · exact absurd hc.1 (bI_e0.mp c_32)
      · refine mm_aload_n dX11_payment_35 rfl rfl ?_
        refine mm_iload_n dX11_payment_36 rfl rfl ?_
        refine mm_cV (Y1 := YX11_isSet) dX11_payment_37 lX11_396 vX11_isSet (mX11_isSet d h n m hn h12 hm h4 s) sh_165 rfl rfl (by simp [Value.category]) ?_
        refine mm_if_eq 47 dX11_payment_40 (by decide) (fun c_40 => ?_) (fun c_40 => ?_)
        · exact absurd hc.2.1 (bI_e0.mp c_40)
        · refine mm_iload_n dX11_payment_43 rfl rfl ?_
          refine mm_if_ne 50 dX11_payment_44 (by decide) (fun c_44 => ?_) (fun c_44 => ?_)
          · refine mm_aload_n dX11_payment_50 rfl rfl ?_
            refine mm_getS dX11_payment_51 fX11_61 sh_165 rfl gr_165_18 ?_
            refine mm_iload_n dX11_payment_54 rfl rfl ?_
            refine mm_iload_n dX11_payment_55 rfl rfl ?_
            refine mm_iast (q) dX11_payment_56 sh_183 hq hc.2.2.2 ?_
            refine mm_aload_n dX11_payment_57 rfl rfl ?_
            refine mm_getS dX11_payment_58 fX11_64 sh_165 rfl gr_165_19 ?_
            refine mm_iload_n dX11_payment_61 rfl rfl ?_
            refine mm_iload_n dX11_payment_62 rfl rfl ?_
            refine mm_iast (q) dX11_payment_63 sh_184 hq hc.2.2.2 ?_
            refine mm_aload_n dX11_payment_64 rfl rfl ?_
            refine mm_getS dX11_payment_65 fX11_9 sh_165 rfl gr_165_1 ?_
            refine mm_iconst (x := 5) dX11_payment_68 (by decide) ?_
            refine mm_dup2 dX11_payment_69 rfl rfl ?_
            refine mm_iald (5) dX11_payment_70 sh_166 rfl (by decide) ?_
            refine mm_iconst (x := 1) dX11_payment_71 (by decide) ?_
            refine mm_iadd dX11_payment_72 ?_
            refine mm_iast (5) dX11_payment_73 sh_166 rfl (by decide) ?_
            refine mm_iload_n dX11_payment_74 rfl rfl ?_
            refine mm_iconst (x := 1) dX11_payment_75 (by decide) ?_
            refine mm_iadd dX11_payment_76 ?_
            exact mm_iretE dX11_payment_77 rfl (by rw [hq, nI_succ]) (by dsimp only; rw [show mm_up (mm_up h.1 183 q c) 184 q s 166 5 + 1 = nI (q + 1) by rw [mm_up_n (by decide), mm_up_n (by decide), hq, nI_succ]])
          · exact absurd c_44 hc.2.2.1
  · exact absurd c_2 h1
