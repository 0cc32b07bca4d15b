/-! sounds, tone, tones, alike of the reference. -/
theorem in01 {w : Int32} (h0 : ¬ w = 0) (h1 : ¬ w = 1) : ¬ ((0 : Int64).toInt ≤ w.toInt64.toInt ∧ w.toInt64.toInt ≤ (1 : Int64).toInt) := by
  have a := ti_ne0 h0
  have b := ti_ne1 h1
  rw [i64_toInt, li_0, li_1]
  omega
theorem in02 {w : Int32} (h0 : ¬ w = 0) (h1 : ¬ w = 1) (h2 : ¬ w = 2) : ¬ ((0 : Int64).toInt ≤ w.toInt64.toInt ∧ w.toInt64.toInt ≤ (2 : Int64).toInt) := by
  have a := ti_ne0 h0
  have b := ti_ne1 h1
  have c := ti_ne2 h2
  rw [i64_toInt, li_0, li_2]
  omega
set_option maxRecDepth 100000 in
set_option maxHeartbeats 4000000 in
theorem mX11_sounds_n (d : Nat) (h : mm_H) (A : MD) (LQ : Nat → LD) (nl : Nat) (S : stM A LQ nl h) (r k s c w : Int32) (hb : ¬ (askP A nl r k s ∧ (0 ≤ c.toInt ∧ c.toInt < mn A) ∧ ¬ (s >>> (c &&& 31)) &&& 1 = 0)) : mm_M (d + 3) YX11_sounds [.ref 165, .int r, .int k, .int s, .int c, .int w] h (some (.int (-20000))) h := by
  have N1 := mX11_isAsked d h nl (mn A) (mk A) S.2.2.1 S.2.2.2.1 S.2.1.1 S.1.1 S.2.1.2.1 S.1.2.1 r k s
  have N2 := mX11_isCoin (d + 1) h (mn A) S.2.1.1 S.1.1 c
  refine mm_M.of [some (.ref 165), some (.int r), some (.int k), some (.int s), some (.int c), some (.int w)] rfl rfl (Nat.le_of_ble_eq_true rfl) ?_
  by_cases hc : 0 ≤ c.toInt ∧ c.toInt < mn A
  · obtain ⟨j, hj, rfl⟩ := nI_ex hc
    refine mm_aload_n dX11_sounds_0 rfl rfl ?_
    refine mm_iload_n dX11_sounds_1 rfl rfl ?_
    refine mm_iload_n dX11_sounds_2 rfl rfl ?_
    refine mm_iload_n dX11_sounds_3 rfl rfl ?_
    refine mm_cV (Y1 := YX11_isAsked) dX11_sounds_4 lX11_408 vX11_isAsked (N1) sh_165 rfl rfl (by simp [Value.category]) ?_
    refine mm_if_eq 39 dX11_sounds_7 (by decide) (fun c_7 => ?_) (fun c_7 => ?_)
    · refine mm_sipush (x := (-20000)) dX11_sounds_39 (by decide) ?_
      exact mm_iretE dX11_sounds_42 rfl rfl rfl
    · refine mm_aload_n dX11_sounds_10 rfl rfl ?_
      refine mm_iload dX11_sounds_11 rfl ?_
      refine mm_cV (Y1 := YX11_isCoin) dX11_sounds_13 lX11_384 vX11_isCoin (N2) sh_165 rfl rfl (by simp [Value.category]) ?_
      refine mm_if_eq 39 dX11_sounds_16 (by decide) (fun c_16 => ?_) (fun c_16 => ?_)
      · refine mm_sipush (x := (-20000)) dX11_sounds_39 (by decide) ?_
        exact mm_iretE dX11_sounds_42 rfl rfl rfl
      · refine mm_iload_n dX11_sounds_19 rfl rfl ?_
        refine mm_iload dX11_sounds_20 rfl ?_
        refine mm_cS (Y1 := YX11_has) dX11_sounds_22 lX11_177 sX11_has (mX11_has (d + 2) h s j) rfl rfl (by simp [Value.category]) ?_
        refine mm_if_eq 39 dX11_sounds_25 (by decide) (fun c_25 => ?_) (fun c_25 => ?_)
        · refine mm_sipush (x := (-20000)) dX11_sounds_39 (by decide) ?_
          exact mm_iretE dX11_sounds_42 rfl rfl rfl
        · refine mm_iload dX11_sounds_28 rfl ?_
          refine mm_i2l dX11_sounds_30 rfl ?_
          refine mm_lconst (x := 0) dX11_sounds_31 (by decide) ?_
          refine mm_lconst (x := 1) dX11_sounds_32 (by decide) ?_
          refine mm_cS (Y1 := YX11_in) dX11_sounds_33 lX11_171 sX11_in (mX11_in (d + 2) h _ _ _) rfl rfl (by simp [Value.category]) ?_
          refine mm_if_ne 43 dX11_sounds_36 (by decide) (fun c_36 => ?_) (fun c_36 => ?_)
          · exact absurd ⟨bI_n0.mp c_7, bI_n0.mp c_16, fun z => absurd ((bI_n0.mp c_25).symm.trans z) (by decide)⟩ hb
          · refine mm_sipush (x := (-20000)) dX11_sounds_39 (by decide) ?_
            exact mm_iretE dX11_sounds_42 rfl rfl rfl
  · skip
    refine mm_aload_n dX11_sounds_0 rfl rfl ?_
    refine mm_iload_n dX11_sounds_1 rfl rfl ?_
    refine mm_iload_n dX11_sounds_2 rfl rfl ?_
    refine mm_iload_n dX11_sounds_3 rfl rfl ?_
    refine mm_cV (Y1 := YX11_isAsked) dX11_sounds_4 lX11_408 vX11_isAsked (N1) sh_165 rfl rfl (by simp [Value.category]) ?_
    refine mm_if_eq 39 dX11_sounds_7 (by decide) (fun c_7 => ?_) (fun c_7 => ?_)
    · refine mm_sipush (x := (-20000)) dX11_sounds_39 (by decide) ?_
      exact mm_iretE dX11_sounds_42 rfl rfl rfl
    · refine mm_aload_n dX11_sounds_10 rfl rfl ?_
      refine mm_iload dX11_sounds_11 rfl ?_
      refine mm_cV (Y1 := YX11_isCoin) dX11_sounds_13 lX11_384 vX11_isCoin (N2) sh_165 rfl rfl (by simp [Value.category]) ?_
      refine mm_if_eq 39 dX11_sounds_16 (by decide) (fun c_16 => ?_) (fun c_16 => ?_)
      · refine mm_sipush (x := (-20000)) dX11_sounds_39 (by decide) ?_
        exact mm_iretE dX11_sounds_42 rfl rfl rfl
      · exact absurd (bI_n0.mp c_16) hc
set_option maxRecDepth 100000 in
set_option maxHeartbeats 4000000 in
theorem mX11_sounds_y (d : Nat) (h : mm_H) (A : MD) (LQ : Nat → LD) (nl : Nat) (S : stM A LQ nl h) (r k a : Nat) (hr : r < nl) (hk : k < mk A) (ha : a < 2 ^ mn A) (c : Nat) (hc : c < mn A) (hb : sp_bit (nI a) c = 1) (w : Int32) : ∃ g, mm_M (d + 5) YX11_sounds [.ref 165, .int (nI r), .int (nI k), .int (nI a), .int (nI c), .int w] h (some (.int (if w = 0 then kN A (LQ r) k a c else if w = 1 then kS A (LQ r) k a c else -20000))) g ∧ mfr h g := by
  have N1 := mX11_isAsked (d + 2) h nl (mn A) (mk A) S.2.2.1 S.2.2.2.1 S.2.1.1 S.1.1 S.2.1.2.1 S.1.2.1 (nI r) (nI k) (nI a)
  have N2 := mX11_isCoin (d + 3) h (mn A) S.2.1.1 S.1.1 (nI c)
  obtain ⟨hA, hV, h6, hn6, hL⟩ := S
  have h12 := hA.1
  have h4 := hA.2.1
  have hp := p2_lt h12
  obtain ⟨w1, M1, W1⟩ := mX11_asks (d + 2) h (mn A) hV.1 h12 k a c (by omega) (by omega) (by omega) (by rw [(hV.2.2.2.2.1 c hc).2.2.2.1]; exact le_pos (hA.2.2 c hc).2.1)
  rw [asks_w hV hk hc] at W1
  obtain ⟨w2, M2⟩ := mX11_noteNow d (h.1, mm_rowL h.2.1 194 w1, h.2.2) (LQ r) r (by omega) (hL r hr).1 (hL r hr).2
  obtain ⟨w3, M3⟩ := mX11_strengthNow d (h.1, mm_rowL h.2.1 194 w1, h.2.2) (LQ r) r (by omega) (hL r hr).1 (hL r hr).2
  have q2 : snd_ (LQ r) (mm_rowL h.2.1 194 w1 194) 0 = kN A (LQ r) k a c := by rw [mm_rowL_s]; exact snd_wat W1
  have q3 : snd_ (LQ r) (mm_rowL h.2.1 194 w1 194) 1 = kS A (LQ r) k a c := by rw [mm_rowL_s]; exact snd_wat W1
  dsimp only at M2 M3
  rw [q2] at M2
  rw [q3] at M3
  have fr : ∀ w4, mfr h (h.1, mm_rowL (mm_rowL h.2.1 194 w1) 195 w4, h.2.2) := fun w4 => ⟨((frm.refl _ h).rowL (c := 194) rfl).rowL (c := 195) rfl, fun _ _ => rfl⟩
  have L0 : mm_lo [Value.ref 165, .int (nI r), .int (nI k), .int (nI a), .int (nI c), .int w] ++ List.replicate 0 none = [some (.ref 165), some (.int (nI r)), some (.int (nI k)), some (.int (nI a)), some (.int (nI c)), some (.int w)] := rfl
  by_cases w0 : w = 0
  · refine ⟨_, ?_, fr w2⟩
    rw [if_pos w0]
    refine mm_M.of [some (.ref 165), some (.int (nI r)), some (.int (nI k)), some (.int (nI a)), some (.int (nI c)), some (.int w)] rfl rfl (Nat.le_of_ble_eq_true rfl) ?_
    refine mm_aload_n dX11_sounds_0 rfl rfl ?_
    refine mm_iload_n dX11_sounds_1 rfl rfl ?_
    refine mm_iload_n dX11_sounds_2 rfl rfl ?_
    refine mm_iload_n dX11_sounds_3 rfl rfl ?_
    refine mm_cV (Y1 := YX11_isAsked) dX11_sounds_4 lX11_408 vX11_isAsked (N1) sh_165 rfl rfl (by simp [Value.category]) ?_
    refine mm_if_eq 39 dX11_sounds_7 (by decide) (fun c_7 => ?_) (fun c_7 => ?_)
    · exact absurd (ask_of hn6 hA hr hk ha) (bI_e0.mp c_7)
    · refine mm_aload_n dX11_sounds_10 rfl rfl ?_
      refine mm_iload dX11_sounds_11 rfl ?_
      refine mm_cV (Y1 := YX11_isCoin) dX11_sounds_13 lX11_384 vX11_isCoin (N2) sh_165 rfl rfl (by simp [Value.category]) ?_
      refine mm_if_eq 39 dX11_sounds_16 (by decide) (fun c_16 => ?_) (fun c_16 => ?_)
      · exact absurd (by rw [nI_toInt (by omega)]; omega) (bI_e0.mp c_16)
      · refine mm_iload_n dX11_sounds_19 rfl rfl ?_
        refine mm_iload dX11_sounds_20 rfl ?_
        refine mm_cS (Y1 := YX11_has) dX11_sounds_22 lX11_177 sX11_has (mX11_has (d + 4) h (nI a) c) rfl rfl (by simp [Value.category]) ?_
        refine mm_if_eq 39 dX11_sounds_25 (by decide) (fun c_25 => ?_) (fun c_25 => ?_)
        · exact absurd hb (bI_e0.mp c_25)
        · refine mm_iload dX11_sounds_28 rfl ?_
          refine mm_i2l dX11_sounds_30 rfl ?_
          refine mm_lconst (x := 0) dX11_sounds_31 (by decide) ?_
          refine mm_lconst (x := 1) dX11_sounds_32 (by decide) ?_
          refine mm_cS (Y1 := YX11_in) dX11_sounds_33 lX11_171 sX11_in (mX11_in (d + 4) h _ _ _) rfl rfl (by simp [Value.category]) ?_
          refine mm_if_ne 43 dX11_sounds_36 (by decide) (fun c_36 => ?_) (fun c_36 => ?_)
          · refine mm_aload_n dX11_sounds_43 rfl rfl ?_
            refine mm_iload_n dX11_sounds_44 rfl rfl ?_
            refine mm_iload_n dX11_sounds_45 rfl rfl ?_
            refine mm_iload dX11_sounds_46 rfl ?_
            refine mm_cV (Y1 := YX11_asks) dX11_sounds_48 lX11_412 vX11_asks (M1) sh_165 rfl rfl (by simp [Value.category]) ?_
            refine mm_iload dX11_sounds_51 rfl ?_
            refine mm_if_ne 64 dX11_sounds_53 (by decide) (fun c_53 => ?_) (fun c_53 => ?_)
            · exact absurd w0 c_53
            · refine mm_aload_n dX11_sounds_56 rfl rfl ?_
              refine mm_iload_n dX11_sounds_57 rfl rfl ?_
              refine mm_cV (Y1 := YX11_noteNow) dX11_sounds_58 lX11_416 vX11_noteNow (M2) sh_165 rfl rfl (by simp [Value.category]) ?_
              refine mm_goto 69 dX11_sounds_61 (by decide) ?_
              exact mm_iretE dX11_sounds_69 rfl rfl rfl
          · exact absurd (by rw [w0]; decide) (bI_e0.mp c_36)
  by_cases w1 : w = 1
  · refine ⟨_, ?_, fr w3⟩
    rw [if_neg w0, if_pos w1]
    refine mm_M.of [some (.ref 165), some (.int (nI r)), some (.int (nI k)), some (.int (nI a)), some (.int (nI c)), some (.int w)] rfl rfl (Nat.le_of_ble_eq_true rfl) ?_
    refine mm_aload_n dX11_sounds_0 rfl rfl ?_
    refine mm_iload_n dX11_sounds_1 rfl rfl ?_
    refine mm_iload_n dX11_sounds_2 rfl rfl ?_
    refine mm_iload_n dX11_sounds_3 rfl rfl ?_
    refine mm_cV (Y1 := YX11_isAsked) dX11_sounds_4 lX11_408 vX11_isAsked (N1) sh_165 rfl rfl (by simp [Value.category]) ?_
    refine mm_if_eq 39 dX11_sounds_7 (by decide) (fun c_7 => ?_) (fun c_7 => ?_)
    · exact absurd (ask_of hn6 hA hr hk ha) (bI_e0.mp c_7)
    · refine mm_aload_n dX11_sounds_10 rfl rfl ?_
      refine mm_iload dX11_sounds_11 rfl ?_
      refine mm_cV (Y1 := YX11_isCoin) dX11_sounds_13 lX11_384 vX11_isCoin (N2) sh_165 rfl rfl (by simp [Value.category]) ?_
      refine mm_if_eq 39 dX11_sounds_16 (by decide) (fun c_16 => ?_) (fun c_16 => ?_)
      · exact absurd (by rw [nI_toInt (by omega)]; omega) (bI_e0.mp c_16)
      · refine mm_iload_n dX11_sounds_19 rfl rfl ?_
        refine mm_iload dX11_sounds_20 rfl ?_
        refine mm_cS (Y1 := YX11_has) dX11_sounds_22 lX11_177 sX11_has (mX11_has (d + 4) h (nI a) c) rfl rfl (by simp [Value.category]) ?_
        refine mm_if_eq 39 dX11_sounds_25 (by decide) (fun c_25 => ?_) (fun c_25 => ?_)
        · exact absurd hb (bI_e0.mp c_25)
        · refine mm_iload dX11_sounds_28 rfl ?_
          refine mm_i2l dX11_sounds_30 rfl ?_
          refine mm_lconst (x := 0) dX11_sounds_31 (by decide) ?_
          refine mm_lconst (x := 1) dX11_sounds_32 (by decide) ?_
          refine mm_cS (Y1 := YX11_in) dX11_sounds_33 lX11_171 sX11_in (mX11_in (d + 4) h _ _ _) rfl rfl (by simp [Value.category]) ?_
          refine mm_if_ne 43 dX11_sounds_36 (by decide) (fun c_36 => ?_) (fun c_36 => ?_)
          · refine mm_aload_n dX11_sounds_43 rfl rfl ?_
            refine mm_iload_n dX11_sounds_44 rfl rfl ?_
            refine mm_iload_n dX11_sounds_45 rfl rfl ?_
            refine mm_iload dX11_sounds_46 rfl ?_
            refine mm_cV (Y1 := YX11_asks) dX11_sounds_48 lX11_412 vX11_asks (M1) sh_165 rfl rfl (by simp [Value.category]) ?_
            refine mm_iload dX11_sounds_51 rfl ?_
            refine mm_if_ne 64 dX11_sounds_53 (by decide) (fun c_53 => ?_) (fun c_53 => ?_)
            · refine mm_aload_n dX11_sounds_64 rfl rfl ?_
              refine mm_iload_n dX11_sounds_65 rfl rfl ?_
              refine mm_cV (Y1 := YX11_strengthNow) dX11_sounds_66 lX11_419 vX11_strengthNow (M3) sh_165 rfl rfl (by simp [Value.category]) ?_
              exact mm_iretE dX11_sounds_69 rfl rfl rfl
            · exact absurd c_53 w0
          · exact absurd (by rw [w1]; decide) (bI_e0.mp c_36)
  · refine ⟨h, ?_, mfr.refl h⟩
    rw [if_neg w0, if_neg w1]
    refine mm_M.of [some (.ref 165), some (.int (nI r)), some (.int (nI k)), some (.int (nI a)), some (.int (nI c)), some (.int w)] rfl rfl (Nat.le_of_ble_eq_true rfl) ?_
    refine mm_aload_n dX11_sounds_0 rfl rfl ?_
    refine mm_iload_n dX11_sounds_1 rfl rfl ?_
    refine mm_iload_n dX11_sounds_2 rfl rfl ?_
    refine mm_iload_n dX11_sounds_3 rfl rfl ?_
    refine mm_cV (Y1 := YX11_isAsked) dX11_sounds_4 lX11_408 vX11_isAsked (N1) sh_165 rfl rfl (by simp [Value.category]) ?_
    refine mm_if_eq 39 dX11_sounds_7 (by decide) (fun c_7 => ?_) (fun c_7 => ?_)
    · exact absurd (ask_of hn6 hA hr hk ha) (bI_e0.mp c_7)
    · refine mm_aload_n dX11_sounds_10 rfl rfl ?_
      refine mm_iload dX11_sounds_11 rfl ?_
      refine mm_cV (Y1 := YX11_isCoin) dX11_sounds_13 lX11_384 vX11_isCoin (N2) sh_165 rfl rfl (by simp [Value.category]) ?_
      refine mm_if_eq 39 dX11_sounds_16 (by decide) (fun c_16 => ?_) (fun c_16 => ?_)
      · exact absurd (by rw [nI_toInt (by omega)]; omega) (bI_e0.mp c_16)
      · refine mm_iload_n dX11_sounds_19 rfl rfl ?_
        refine mm_iload dX11_sounds_20 rfl ?_
        refine mm_cS (Y1 := YX11_has) dX11_sounds_22 lX11_177 sX11_has (mX11_has (d + 4) h (nI a) c) rfl rfl (by simp [Value.category]) ?_
        refine mm_if_eq 39 dX11_sounds_25 (by decide) (fun c_25 => ?_) (fun c_25 => ?_)
        · exact absurd hb (bI_e0.mp c_25)
        · refine mm_iload dX11_sounds_28 rfl ?_
          refine mm_i2l dX11_sounds_30 rfl ?_
          refine mm_lconst (x := 0) dX11_sounds_31 (by decide) ?_
          refine mm_lconst (x := 1) dX11_sounds_32 (by decide) ?_
          refine mm_cS (Y1 := YX11_in) dX11_sounds_33 lX11_171 sX11_in (mX11_in (d + 4) h _ _ _) rfl rfl (by simp [Value.category]) ?_
          refine mm_if_ne 43 dX11_sounds_36 (by decide) (fun c_36 => ?_) (fun c_36 => ?_)
          · exact absurd (bI_n0.mp c_36) (in01 w0 w1)
          · refine mm_sipush (x := (-20000)) dX11_sounds_39 (by decide) ?_
            exact mm_iretE dX11_sounds_42 rfl rfl rfl
set_option maxRecDepth 100000 in
set_option maxHeartbeats 4000000 in
theorem mX11_tone_n (d : Nat) (h : mm_H) (A : MD) (LQ : Nat → LD) (nl : Nat) (S : stM A LQ nl h) (r k s c w : Int32) (hb : ¬ askP A nl r k s) : mm_M (d + 3) YX11_tone [.ref 165, .int r, .int k, .int s, .int c, .int w] h (some (.int (-20000))) h := by
  refine mm_M.of [some (.ref 165), some (.int r), some (.int k), some (.int s), some (.int c), some (.int w)] rfl rfl (Nat.le_of_ble_eq_true rfl) ?_
  refine mm_aload_n dX11_tone_0 rfl rfl ?_
  refine mm_iload_n dX11_tone_1 rfl rfl ?_
  refine mm_iload_n dX11_tone_2 rfl rfl ?_
  refine mm_iload_n dX11_tone_3 rfl rfl ?_
  refine mm_cV (Y1 := YX11_isAsked) dX11_tone_4 lX11_408 vX11_isAsked (mX11_isAsked d h nl (mn A) (mk A) S.2.2.1 S.2.2.2.1 S.2.1.1 S.1.1 S.2.1.2.1 S.1.2.1 r k s) sh_165 rfl rfl (by simp [Value.category]) ?_
  refine mm_if_eq 28 dX11_tone_7 (by decide) (fun c_7 => ?_) (fun c_7 => ?_)
  · refine mm_sipush (x := (-20000)) dX11_tone_28 (by decide) ?_
    exact mm_iretE dX11_tone_31 rfl rfl rfl
  · exact absurd (bI_n0.mp c_7) hb
set_option maxRecDepth 100000 in
set_option maxHeartbeats 4000000 in
theorem mX11_tone_y (d : Nat) (h : mm_H) (A : MD) (LQ : Nat → LD) (nl : Nat) (S : stM A LQ nl h) (r k a : Nat) (hr : r < nl) (hk : k < mk A) (ha : a < 2 ^ mn A) (c w : Int32) : ∃ g, mm_M (d + 7) YX11_tone [.ref 165, .int (nI r), .int (nI k), .int (nI a), .int c, .int w] h (some (.int (if 0 ≤ c.toInt ∧ c.toInt < (tL A (LQ r) k a).length then tv A (LQ r) k a c.toNatClampNeg w else -20000))) g ∧ mfr h g := by
  have N1 := mX11_isAsked (d + 4) h nl (mn A) (mk A) S.2.2.1 S.2.2.2.1 S.2.1.1 S.1.1 S.2.1.2.1 S.1.2.1 (nI r) (nI k) (nI a)
  obtain ⟨hA, hV, h6, hn6, hL⟩ := S
  have h12 := hA.1
  have h4 := hA.2.1
  have hp := p2_lt h12
  obtain ⟨g, M, sg⟩ := mX11_sings d h A hA hV (LQ r) r (by omega) (hL r hr).1 (hL r hr).2 k hk a (by omega)
  have htl := tL_len h12 (LQ r) k a
  have b4 := sg.2.2.1
  have b5 := sg.2.2.2
  by_cases wx : ¬ w = 0 ∧ ¬ w = 1 ∧ ¬ w = 2
  · refine ⟨h, ?_, mfr.refl h⟩
    have ev : (if 0 ≤ c.toInt ∧ c.toInt < (tL A (LQ r) k a).length then tv A (LQ r) k a c.toNatClampNeg w else -20000) = -20000 := by
      unfold tv
      rw [if_neg wx.1, if_neg wx.2.1, if_neg wx.2.2]
      split <;> rfl
    rw [ev]
    refine mm_M.of [some (.ref 165), some (.int (nI r)), some (.int (nI k)), some (.int (nI a)), some (.int c), some (.int w)] rfl rfl (Nat.le_of_ble_eq_true rfl) ?_
    refine mm_aload_n dX11_tone_0 rfl rfl ?_
    refine mm_iload_n dX11_tone_1 rfl rfl ?_
    refine mm_iload_n dX11_tone_2 rfl rfl ?_
    refine mm_iload_n dX11_tone_3 rfl rfl ?_
    refine mm_cV (Y1 := YX11_isAsked) dX11_tone_4 lX11_408 vX11_isAsked (N1) sh_165 rfl rfl (by simp [Value.category]) ?_
    refine mm_if_eq 28 dX11_tone_7 (by decide) (fun c_7 => ?_) (fun c_7 => ?_)
    · exact absurd (ask_of hn6 hA hr hk ha) (bI_e0.mp c_7)
    · refine mm_iload dX11_tone_10 rfl ?_
      refine mm_if_lt 28 dX11_tone_12 (by decide) (fun c_12 => ?_) (fun c_12 => ?_)
      · refine mm_sipush (x := (-20000)) dX11_tone_28 (by decide) ?_
        exact mm_iretE dX11_tone_31 rfl rfl rfl
      · refine mm_iload dX11_tone_15 rfl ?_
        refine mm_i2l dX11_tone_17 rfl ?_
        refine mm_lconst (x := 0) dX11_tone_18 (by decide) ?_
        refine mm_ldc2 dX11_tone_19 kX11_428 ?_
        refine mm_cS (Y1 := YX11_in) dX11_tone_22 lX11_171 sX11_in (mX11_in (d + 6) h _ _ _) rfl rfl (by simp [Value.category]) ?_
        refine mm_if_ne 32 dX11_tone_25 (by decide) (fun c_25 => ?_) (fun c_25 => ?_)
        · exact absurd (bI_n0.mp c_25) (in02 wx.1 wx.2.1 wx.2.2)
        · refine mm_sipush (x := (-20000)) dX11_tone_28 (by decide) ?_
          exact mm_iretE dX11_tone_31 rfl rfl rfl
  have hw : ((0 : Int64).toInt ≤ w.toInt64.toInt ∧ w.toInt64.toInt ≤ (2 : Int64).toInt) := by
    rw [i64_toInt, li_0, li_2]
    by_cases w0 : w = 0
    · rw [w0, ti_0]; omega
    by_cases w1 : w = 1
    · rw [w1, ti_1]; omega
    by_cases w2 : w = 2
    · rw [w2, ti_2]; omega
    · exact absurd ⟨w0, w1, w2⟩ wx
  by_cases hc : 0 ≤ c.toInt ∧ c.toInt < (tL A (LQ r) k a).length
  · refine ⟨g, ?_, sg.mfr⟩
    obtain ⟨j, hj, rfl⟩ := nI_ex hc
    obtain ⟨t1, t2, t3⟩ := b5 j hj
    rw [if_pos hc, nI_clamp (by omega)]
    refine mm_M.of [some (.ref 165), some (.int (nI r)), some (.int (nI k)), some (.int (nI a)), some (.int (nI j)), some (.int w)] rfl rfl (Nat.le_of_ble_eq_true rfl) ?_
    refine mm_aload_n dX11_tone_0 rfl rfl ?_
    refine mm_iload_n dX11_tone_1 rfl rfl ?_
    refine mm_iload_n dX11_tone_2 rfl rfl ?_
    refine mm_iload_n dX11_tone_3 rfl rfl ?_
    refine mm_cV (Y1 := YX11_isAsked) dX11_tone_4 lX11_408 vX11_isAsked (N1) sh_165 rfl rfl (by simp [Value.category]) ?_
    refine mm_if_eq 28 dX11_tone_7 (by decide) (fun c_7 => ?_) (fun c_7 => ?_)
    · exact absurd (ask_of hn6 hA hr hk ha) (bI_e0.mp c_7)
    · refine mm_iload dX11_tone_10 rfl ?_
      refine mm_if_lt 28 dX11_tone_12 (by decide) (fun c_12 => ?_) (fun c_12 => ?_)
      · exact absurd c_12 (nI_pos (by omega))
      · refine mm_iload dX11_tone_15 rfl ?_
        refine mm_i2l dX11_tone_17 rfl ?_
        refine mm_lconst (x := 0) dX11_tone_18 (by decide) ?_
        refine mm_ldc2 dX11_tone_19 kX11_428 ?_
        refine mm_cS (Y1 := YX11_in) dX11_tone_22 lX11_171 sX11_in (mX11_in (d + 6) h _ _ _) rfl rfl (by simp [Value.category]) ?_
        refine mm_if_ne 32 dX11_tone_25 (by decide) (fun c_25 => ?_) (fun c_25 => ?_)
        · refine mm_aload_n dX11_tone_32 rfl rfl ?_
          refine mm_iload_n dX11_tone_33 rfl rfl ?_
          refine mm_iload_n dX11_tone_34 rfl rfl ?_
          refine mm_iload_n dX11_tone_35 rfl rfl ?_
          refine mm_cV (Y1 := YX11_sings) dX11_tone_36 lX11_430 vX11_sings (M) sh_165 rfl rfl (by simp [Value.category]) ?_
          refine mm_iload dX11_tone_39 rfl ?_
          refine mm_aload_n dX11_tone_41 rfl rfl ?_
          refine mm_getI dX11_tone_42 fX11_422 sh_165 rfl ?_
          refine mm_icmp_lt 52 dX11_tone_45 (by decide) (fun c_45 => ?_) (fun c_45 => ?_)
          · refine mm_iload dX11_tone_52 rfl ?_
            refine mm_if_ne 67 dX11_tone_54 (by decide) (fun c_54 => ?_) (fun c_54 => ?_)
            · refine mm_iload dX11_tone_67 rfl ?_
              refine mm_iconst (x := 1) dX11_tone_69 (by decide) ?_
              refine mm_icmp_ne 83 dX11_tone_70 (by decide) (fun c_70 => ?_) (fun c_70 => ?_)
              · refine mm_aload_n dX11_tone_83 rfl rfl ?_
                refine mm_getS dX11_tone_84 fX11_121 sh_165 rfl gr_165_48 ?_
                refine mm_iload dX11_tone_87 rfl ?_
                refine mm_iald (j) dX11_tone_89 sh_201 rfl (by omega) ?_
                exact mm_iretE dX11_tone_90 rfl (by unfold tv; first | (rw [if_pos c_54]; exact t1) | (rw [if_neg c_54, if_pos c_70]; exact t2) | (rw [if_neg c_54, if_neg c_70, if_pos (Classical.byContradiction (fun z => wx ⟨c_54, c_70, z⟩))]; exact t3)) rfl
              · refine mm_aload_n dX11_tone_73 rfl rfl ?_
                refine mm_getS dX11_tone_74 fX11_118 sh_165 rfl gr_165_47 ?_
                refine mm_iload dX11_tone_77 rfl ?_
                refine mm_iald (j) dX11_tone_79 sh_200 rfl (by omega) ?_
                refine mm_goto 90 dX11_tone_80 (by decide) ?_
                exact mm_iretE dX11_tone_90 rfl (by unfold tv; first | (rw [if_pos c_54]; exact t1) | (rw [if_neg c_54, if_pos c_70]; exact t2) | (rw [if_neg c_54, if_neg c_70, if_pos (Classical.byContradiction (fun z => wx ⟨c_54, c_70, z⟩))]; exact t3)) rfl
            · refine mm_aload_n dX11_tone_57 rfl rfl ?_
              refine mm_getS dX11_tone_58 fX11_115 sh_165 rfl gr_165_46 ?_
              refine mm_iload dX11_tone_61 rfl ?_
              refine mm_iald (j) dX11_tone_63 sh_199 rfl (by omega) ?_
              refine mm_goto 90 dX11_tone_64 (by decide) ?_
              exact mm_iretE dX11_tone_90 rfl (by unfold tv; first | (rw [if_pos c_54]; exact t1) | (rw [if_neg c_54, if_pos c_70]; exact t2) | (rw [if_neg c_54, if_neg c_70, if_pos (Classical.byContradiction (fun z => wx ⟨c_54, c_70, z⟩))]; exact t3)) rfl
          · exact absurd (by rw [b4]; exact nI_lt hj (by omega)) c_45
        · exact absurd hw (bI_e0.mp c_25)
  · rw [if_neg hc]
    by_cases hc0 : c < 0
    · refine ⟨h, ?_, mfr.refl h⟩
      refine mm_M.of [some (.ref 165), some (.int (nI r)), some (.int (nI k)), some (.int (nI a)), some (.int c), some (.int w)] rfl rfl (Nat.le_of_ble_eq_true rfl) ?_
      refine mm_aload_n dX11_tone_0 rfl rfl ?_
      refine mm_iload_n dX11_tone_1 rfl rfl ?_
      refine mm_iload_n dX11_tone_2 rfl rfl ?_
      refine mm_iload_n dX11_tone_3 rfl rfl ?_
      refine mm_cV (Y1 := YX11_isAsked) dX11_tone_4 lX11_408 vX11_isAsked (N1) sh_165 rfl rfl (by simp [Value.category]) ?_
      refine mm_if_eq 28 dX11_tone_7 (by decide) (fun c_7 => ?_) (fun c_7 => ?_)
      · exact absurd (ask_of hn6 hA hr hk ha) (bI_e0.mp c_7)
      · refine mm_iload dX11_tone_10 rfl ?_
        refine mm_if_lt 28 dX11_tone_12 (by decide) (fun c_12 => ?_) (fun c_12 => ?_)
        · refine mm_sipush (x := (-20000)) dX11_tone_28 (by decide) ?_
          exact mm_iretE dX11_tone_31 rfl rfl rfl
        · exact absurd hc0 c_12
    · refine ⟨g, ?_, sg.mfr⟩
      refine mm_M.of [some (.ref 165), some (.int (nI r)), some (.int (nI k)), some (.int (nI a)), some (.int c), some (.int w)] rfl rfl (Nat.le_of_ble_eq_true rfl) ?_
      refine mm_aload_n dX11_tone_0 rfl rfl ?_
      refine mm_iload_n dX11_tone_1 rfl rfl ?_
      refine mm_iload_n dX11_tone_2 rfl rfl ?_
      refine mm_iload_n dX11_tone_3 rfl rfl ?_
      refine mm_cV (Y1 := YX11_isAsked) dX11_tone_4 lX11_408 vX11_isAsked (N1) sh_165 rfl rfl (by simp [Value.category]) ?_
      refine mm_if_eq 28 dX11_tone_7 (by decide) (fun c_7 => ?_) (fun c_7 => ?_)
      · exact absurd (ask_of hn6 hA hr hk ha) (bI_e0.mp c_7)
      · refine mm_iload dX11_tone_10 rfl ?_
        refine mm_if_lt 28 dX11_tone_12 (by decide) (fun c_12 => ?_) (fun c_12 => ?_)
        · exact absurd c_12 hc0
        · refine mm_iload dX11_tone_15 rfl ?_
          refine mm_i2l dX11_tone_17 rfl ?_
          refine mm_lconst (x := 0) dX11_tone_18 (by decide) ?_
          refine mm_ldc2 dX11_tone_19 kX11_428 ?_
          refine mm_cS (Y1 := YX11_in) dX11_tone_22 lX11_171 sX11_in (mX11_in (d + 6) h _ _ _) rfl rfl (by simp [Value.category]) ?_
          refine mm_if_ne 32 dX11_tone_25 (by decide) (fun c_25 => ?_) (fun c_25 => ?_)
          · refine mm_aload_n dX11_tone_32 rfl rfl ?_
            refine mm_iload_n dX11_tone_33 rfl rfl ?_
            refine mm_iload_n dX11_tone_34 rfl rfl ?_
            refine mm_iload_n dX11_tone_35 rfl rfl ?_
            refine mm_cV (Y1 := YX11_sings) dX11_tone_36 lX11_430 vX11_sings (M) sh_165 rfl rfl (by simp [Value.category]) ?_
            refine mm_iload dX11_tone_39 rfl ?_
            refine mm_aload_n dX11_tone_41 rfl rfl ?_
            refine mm_getI dX11_tone_42 fX11_422 sh_165 rfl ?_
            refine mm_icmp_lt 52 dX11_tone_45 (by decide) (fun c_45 => ?_) (fun c_45 => ?_)
            · exact absurd ⟨by rw [Int32.lt_iff_toInt_lt, ti_0] at hc0; omega, by rw [b4, Int32.lt_iff_toInt_lt, nI_toInt (by omega)] at c_45; exact c_45⟩ hc
            · refine mm_sipush (x := (-20000)) dX11_tone_48 (by decide) ?_
              exact mm_iretE dX11_tone_51 rfl rfl rfl
          · exact absurd hw (bI_e0.mp c_25)
set_option maxRecDepth 100000 in
set_option maxHeartbeats 4000000 in
theorem mX11_tones_n (d : Nat) (h : mm_H) (A : MD) (LQ : Nat → LD) (nl : Nat) (S : stM A LQ nl h) (r k s : Int32) (hb : ¬ askP A nl r k s) : mm_M (d + 3) YX11_tones [.ref 165, .int r, .int k, .int s] h (some (.int (-1))) h := by
  refine mm_M.of [some (.ref 165), some (.int r), some (.int k), some (.int s)] rfl rfl (Nat.le_of_ble_eq_true rfl) ?_
  refine mm_aload_n dX11_tones_0 rfl rfl ?_
  refine mm_iload_n dX11_tones_1 rfl rfl ?_
  refine mm_iload_n dX11_tones_2 rfl rfl ?_
  refine mm_iload_n dX11_tones_3 rfl rfl ?_
  refine mm_cV (Y1 := YX11_isAsked) dX11_tones_4 lX11_408 vX11_isAsked (mX11_isAsked d h nl (mn A) (mk A) S.2.2.1 S.2.2.2.1 S.2.1.1 S.1.1 S.2.1.2.1 S.1.2.1 r k s) sh_165 rfl rfl (by simp [Value.category]) ?_
  refine mm_if_ne 12 dX11_tones_7 (by decide) (fun c_7 => ?_) (fun c_7 => ?_)
  · exact absurd (bI_n0.mp c_7) hb
  · refine mm_iconst (x := (-1)) dX11_tones_10 (by decide) ?_
    exact mm_iretE dX11_tones_11 rfl rfl rfl
set_option maxRecDepth 100000 in
set_option maxHeartbeats 4000000 in
theorem mX11_tones_y (d : Nat) (h : mm_H) (A : MD) (LQ : Nat → LD) (nl : Nat) (S : stM A LQ nl h) (r k a : Nat) (hr : r < nl) (hk : k < mk A) (ha : a < 2 ^ mn A) : ∃ g, mm_M (d + 7) YX11_tones [.ref 165, .int (nI r), .int (nI k), .int (nI a)] h (some (.int (nI (tL A (LQ r) k a).length))) g ∧ mfr h g := by
  have N1 := mX11_isAsked (d + 4) h nl (mn A) (mk A) S.2.2.1 S.2.2.2.1 S.2.1.1 S.1.1 S.2.1.2.1 S.1.2.1 (nI r) (nI k) (nI a)
  obtain ⟨hA, hV, h6, hn6, hL⟩ := S
  have h12 := hA.1
  have h4 := hA.2.1
  have hp := p2_lt h12
  obtain ⟨g, M, sg⟩ := mX11_sings d h A hA hV (LQ r) r (by omega) (hL r hr).1 (hL r hr).2 k hk a (by omega)
  have b4 := sg.2.2.1
  refine ⟨g, ?_, sg.mfr⟩
  refine mm_M.of [some (.ref 165), some (.int (nI r)), some (.int (nI k)), some (.int (nI a))] rfl rfl (Nat.le_of_ble_eq_true rfl) ?_
  refine mm_aload_n dX11_tones_0 rfl rfl ?_
  refine mm_iload_n dX11_tones_1 rfl rfl ?_
  refine mm_iload_n dX11_tones_2 rfl rfl ?_
  refine mm_iload_n dX11_tones_3 rfl rfl ?_
  refine mm_cV (Y1 := YX11_isAsked) dX11_tones_4 lX11_408 vX11_isAsked (N1) sh_165 rfl rfl (by simp [Value.category]) ?_
  refine mm_if_ne 12 dX11_tones_7 (by decide) (fun c_7 => ?_) (fun c_7 => ?_)
  · refine mm_aload_n dX11_tones_12 rfl rfl ?_
    refine mm_iload_n dX11_tones_13 rfl rfl ?_
    refine mm_iload_n dX11_tones_14 rfl rfl ?_
    refine mm_iload_n dX11_tones_15 rfl rfl ?_
    refine mm_cV (Y1 := YX11_sings) dX11_tones_16 lX11_430 vX11_sings (M) sh_165 rfl rfl (by simp [Value.category]) ?_
    refine mm_aload_n dX11_tones_19 rfl rfl ?_
    refine mm_getI dX11_tones_20 fX11_422 sh_165 rfl ?_
    exact mm_iretE dX11_tones_23 rfl b4 rfl
  · exact absurd (ask_of hn6 hA hr hk ha) (bI_e0.mp c_7)
set_option maxRecDepth 100000 in
set_option maxHeartbeats 4000000 in
theorem mX11_alike_n (d : Nat) (h : mm_H) (A : MD) (LQ : Nat → LD) (nl : Nat) (S : stM A LQ nl h) (r k s t : Int32) (hb : ¬ (askP A nl r k s ∧ (0 < mk A ∧ 0 ≤ t.toInt ∧ t.toInt < (2 ^ mn A : Nat)))) : mm_M (d + 3) YX11_alike [.ref 165, .int r, .int k, .int s, .int t] h (some (.int (-1))) h := by
  refine mm_M.of [some (.ref 165), some (.int r), some (.int k), some (.int s), some (.int t)] rfl rfl (Nat.le_of_ble_eq_true rfl) ?_
  refine mm_aload_n dX11_alike_0 rfl rfl ?_
  refine mm_iload_n dX11_alike_1 rfl rfl ?_
  refine mm_iload_n dX11_alike_2 rfl rfl ?_
  refine mm_iload_n dX11_alike_3 rfl rfl ?_
  refine mm_cV (Y1 := YX11_isAsked) dX11_alike_4 lX11_408 vX11_isAsked (mX11_isAsked d h nl (mn A) (mk A) S.2.2.1 S.2.2.2.1 S.2.1.1 S.1.1 S.2.1.2.1 S.1.2.1 r k s) sh_165 rfl rfl (by simp [Value.category]) ?_
  refine mm_if_eq 19 dX11_alike_7 (by decide) (fun c_7 => ?_) (fun c_7 => ?_)
  · refine mm_iconst (x := (-1)) dX11_alike_19 (by decide) ?_
    exact mm_iretE dX11_alike_20 rfl rfl rfl
  · refine mm_aload_n dX11_alike_10 rfl rfl ?_
    refine mm_iload dX11_alike_11 rfl ?_
    refine mm_cV (Y1 := YX11_isSet) dX11_alike_13 lX11_396 vX11_isSet (mX11_isSet (d + 1) h (mn A) (mk A) S.2.1.1 S.1.1 S.2.1.2.1 S.1.2.1 t) sh_165 rfl rfl (by simp [Value.category]) ?_
    refine mm_if_ne 21 dX11_alike_16 (by decide) (fun c_16 => ?_) (fun c_16 => ?_)
    · exact absurd ⟨bI_n0.mp c_7, bI_n0.mp c_16⟩ hb
    · refine mm_iconst (x := (-1)) dX11_alike_19 (by decide) ?_
      exact mm_iretE dX11_alike_20 rfl rfl rfl
set_option maxRecDepth 100000 in
set_option maxHeartbeats 4000000 in
theorem mX11_alike_y (d : Nat) (h : mm_H) (A : MD) (LQ : Nat → LD) (nl : Nat) (S : stM A LQ nl h) (r k a : Nat) (hr : r < nl) (hk : k < mk A) (ha : a < 2 ^ mn A) (b : Nat) (hb : b < 2 ^ mn A) : ∃ g, mm_M (d + 8) YX11_alike [.ref 165, .int (nI r), .int (nI k), .int (nI a), .int (nI b)] h (some (.int (bI (chd A (LQ r) k a = chd A (LQ r) k b)))) g ∧ mfr h g := by
  have N1 := mX11_isAsked (d + 5) h nl (mn A) (mk A) S.2.2.1 S.2.2.2.1 S.2.1.1 S.1.1 S.2.1.2.1 S.1.2.1 (nI r) (nI k) (nI a)
  have N2 := mX11_isSet (d + 6) h (mn A) (mk A) S.2.1.1 S.1.1 S.2.1.2.1 S.1.2.1 (nI b)
  obtain ⟨hA, hV, h6, hn6, hL⟩ := S
  have h12 := hA.1
  have h4 := hA.2.1
  have hp := p2_lt h12
  obtain ⟨g1, M1, f1, p1, p2⟩ := mX11_keepsChord d h A hA hV (LQ r) r (by omega) (hL r hr).1 (hL r hr).2 k hk a (by omega)
  have hV1 := viewM_f hV f1.1 (fun c hc => pKp_f (by omega) (by omega))
  obtain ⟨g2, M2, f2, q1, q2⟩ := mX11_keepsChord d g1 A hA hV1 (LQ r) r (by omega) (hL r hr).1 (lawM_f (hL r hr).2 f1.1 (fun c h1 h2 => pKp_f (by omega) (by omega))) k hk b (by omega)
  have la : (chd A (LQ r) k a).length ≤ 12 := Nat.le_trans (chd_pc h12 (LQ r) k (by omega)) (pc_le (by omega))
  have lb : (chd A (LQ r) k b).length ≤ 12 := Nat.le_trans (chd_pc h12 (LQ r) k (by omega)) (pc_le (by omega))
  have ka : kept (chd A (LQ r) k a) g2 a := by
    by_cases z : a = b
    · rw [z]; exact q1
    · exact p1.oth q2 (by omega) z la
  have M3 := mX11_areAlike (d + 7) g2 (chd A (LQ r) k a) (chd A (LQ r) k b) a b (by omega) (by omega) ka q1 la lb
  refine ⟨g2, ?_, (f1.trans f2).mfr⟩
  refine mm_M.of [some (.ref 165), some (.int (nI r)), some (.int (nI k)), some (.int (nI a)), some (.int (nI b))] rfl rfl (Nat.le_of_ble_eq_true rfl) ?_
  refine mm_aload_n dX11_alike_0 rfl rfl ?_
  refine mm_iload_n dX11_alike_1 rfl rfl ?_
  refine mm_iload_n dX11_alike_2 rfl rfl ?_
  refine mm_iload_n dX11_alike_3 rfl rfl ?_
  refine mm_cV (Y1 := YX11_isAsked) dX11_alike_4 lX11_408 vX11_isAsked (N1) sh_165 rfl rfl (by simp [Value.category]) ?_
  refine mm_if_eq 19 dX11_alike_7 (by decide) (fun c_7 => ?_) (fun c_7 => ?_)
  · exact absurd (ask_of hn6 hA hr hk ha) (bI_e0.mp c_7)
  · refine mm_aload_n dX11_alike_10 rfl rfl ?_
    refine mm_iload dX11_alike_11 rfl ?_
    refine mm_cV (Y1 := YX11_isSet) dX11_alike_13 lX11_396 vX11_isSet (N2) sh_165 rfl rfl (by simp [Value.category]) ?_
    refine mm_if_ne 21 dX11_alike_16 (by decide) (fun c_16 => ?_) (fun c_16 => ?_)
    · refine mm_aload_n dX11_alike_21 rfl rfl ?_
      refine mm_iload_n dX11_alike_22 rfl rfl ?_
      refine mm_iload_n dX11_alike_23 rfl rfl ?_
      refine mm_iload_n dX11_alike_24 rfl rfl ?_
      refine mm_cV (Y1 := YX11_keepsChord) dX11_alike_25 lX11_435 vX11_keepsChord (M1) sh_165 rfl rfl (by simp [Value.category]) ?_
      refine mm_aload_n dX11_alike_28 rfl rfl ?_
      refine mm_iload_n dX11_alike_29 rfl rfl ?_
      refine mm_iload_n dX11_alike_30 rfl rfl ?_
      refine mm_iload dX11_alike_31 rfl ?_
      refine mm_cV (Y1 := YX11_keepsChord) dX11_alike_33 lX11_435 vX11_keepsChord (M2) sh_165 rfl rfl (by simp [Value.category]) ?_
      refine mm_aload_n dX11_alike_36 rfl rfl ?_
      refine mm_iload_n dX11_alike_37 rfl rfl ?_
      refine mm_iload dX11_alike_38 rfl ?_
      refine mm_cV (Y1 := YX11_areAlike) dX11_alike_40 lX11_438 vX11_areAlike (M3) sh_165 rfl rfl (by simp [Value.category]) ?_
      refine mm_if_eq 50 dX11_alike_43 (by decide) (fun c_43 => ?_) (fun c_43 => ?_)
      · refine mm_iconst (x := 0) dX11_alike_50 (by decide) ?_
        exact mm_iretE dX11_alike_51 rfl (by first | exact (bI_1 (bI_n0.mp c_43)).symm | exact (bI_0 (bI_e0.mp c_43)).symm) rfl
      · refine mm_iconst (x := 1) dX11_alike_46 (by decide) ?_
        refine mm_goto 51 dX11_alike_47 (by decide) ?_
        exact mm_iretE dX11_alike_51 rfl (by first | exact (bI_1 (bI_n0.mp c_43)).symm | exact (bI_0 (bI_e0.mp c_43)).symm) rfl
    · exact absurd (ask_of hn6 hA hr hk hb).2.2 (bI_e0.mp c_16)
