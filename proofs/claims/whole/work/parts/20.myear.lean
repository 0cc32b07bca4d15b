/-! year of the reference. -/
theorem mm_castA {d : Nat} {Y : mm_Y} {av av' : List Value} {h : mm_H} {v : Option Value} {h' : mm_H} (ha : av = av') (k : mm_M d Y av' h v h') : mm_M d Y av h v h' := by subst ha; exact k
set_option maxRecDepth 100000 in
set_option maxHeartbeats 4000000 in
theorem mX11_draws (d : Nat) (h : mm_H) (x n : Nat) (hx : h.1 166 6 = nI x) (hx31 : x < 2 ^ 31) (hn : 0 < n) (hn31 : n < 2 ^ 31) : mm_M d YX11_draws [.ref 165, .int (nI n)] h (some (.int (nI (drN x / 65536 % n)))) (mm_up h.1 166 6 (nI (drN x)), h.2.1, h.2.2) := by
  refine mm_M.of [some (.ref 165), some (.int (nI n))] rfl rfl (Nat.le_of_ble_eq_true rfl) ?_
  refine mm_aload_n dX11_draws_0 rfl rfl ?_
  refine mm_getS dX11_draws_1 fX11_9 sh_165 rfl gr_165_1 ?_
  refine mm_bipush (x := 6) dX11_draws_4 (by decide) ?_
  refine mm_aload_n dX11_draws_6 rfl rfl ?_
  refine mm_getS dX11_draws_7 fX11_9 sh_165 rfl gr_165_1 ?_
  refine mm_bipush (x := 6) dX11_draws_10 (by decide) ?_
  refine mm_iald (6) dX11_draws_12 sh_166 rfl (by decide) ?_
  refine mm_i2l dX11_draws_13 rfl ?_
  refine mm_ldc2 dX11_draws_14 kX11_500 ?_
  refine mm_lmul dX11_draws_17 ?_
  refine mm_ldc2 dX11_draws_18 kX11_502 ?_
  refine mm_ladd dX11_draws_21 ?_
  refine mm_ldc2 dX11_draws_22 kX11_504 ?_
  refine mm_lrem dX11_draws_25 (by decide) ?_
  refine mm_l2i dX11_draws_26 rfl ?_
  refine mm_iast (6) dX11_draws_27 sh_166 rfl (by decide) ?_
  refine mm_aload_n dX11_draws_28 rfl rfl ?_
  refine mm_getS dX11_draws_29 fX11_9 sh_165 rfl gr_165_1 ?_
  refine mm_bipush (x := 6) dX11_draws_32 (by decide) ?_
  refine mm_iald (6) dX11_draws_34 sh_166 rfl (by decide) ?_
  refine mm_ldcw dX11_draws_35 kX11_506 ?_
  refine mm_idiv dX11_draws_38 (by decide) ?_
  refine mm_iload_n dX11_draws_39 rfl rfl ?_
  refine mm_irem dX11_draws_40 (fun z => by have := nI_inj (a := n) (b := 0) hn31 (by decide) z; omega) ?_
  exact mm_iretE dX11_draws_41 rfl (by dsimp only; rw [mm_up_e, hx, drN_l hx31]; exact dv (drN_lt x) hn hn31) (by rw [hx, drN_l hx31])
set_option maxRecDepth 100000 in
set_option maxHeartbeats 4000000 in
theorem mX11_year_f (d : Nat) (h : mm_H) (n : Nat) (hn : h.1 166 0 = nI n) (h12 : n ≤ 12) (m w : Int32) (hc : ¬ ((0 < n) ∧ (1 ≤ m.toInt ∧ m.toInt ≤ 500) ∧ (0 ≤ w.toInt ∧ w.toInt ≤ 2))) : mm_M (d + 3) YX11_year [.ref 165, .int m, .int w] h (some (.int (-1))) h := by
  refine mm_M.of [some (.ref 165), some (.int m), some (.int w), none, none, none, none, none] rfl rfl (Nat.le_of_ble_eq_true rfl) ?_
  refine mm_aload_n dX11_year_0 rfl rfl ?_
  refine mm_getS dX11_year_1 fX11_9 sh_165 rfl gr_165_1 ?_
  refine mm_iconst (x := 0) dX11_year_4 (by decide) ?_
  refine mm_iald (0) dX11_year_5 sh_166 rfl (by decide) ?_
  refine mm_if_eq 33 dX11_year_6 (by decide) (fun c_6 => ?_) (fun c_6 => ?_)
  · refine mm_iconst (x := (-1)) dX11_year_33 (by decide) ?_
    exact mm_iretE dX11_year_34 rfl rfl rfl
  · refine mm_iload_n dX11_year_9 rfl rfl ?_
    refine mm_i2l dX11_year_10 rfl ?_
    refine mm_lconst (x := 1) dX11_year_11 (by decide) ?_
    refine mm_ldc2 dX11_year_12 kX11_507 ?_
    refine mm_cS (Y1 := YX11_in) dX11_year_15 lX11_171 sX11_in (mX11_in (d + 2) h _ _ _) rfl rfl (by simp [Value.category]) ?_
    refine mm_if_eq 33 dX11_year_18 (by decide) (fun c_18 => ?_) (fun c_18 => ?_)
    · refine mm_iconst (x := (-1)) dX11_year_33 (by decide) ?_
      exact mm_iretE dX11_year_34 rfl rfl rfl
    · refine mm_iload_n dX11_year_21 rfl rfl ?_
      refine mm_i2l dX11_year_22 rfl ?_
      refine mm_lconst (x := 0) dX11_year_23 (by decide) ?_
      refine mm_ldc2 dX11_year_24 kX11_428 ?_
      refine mm_cS (Y1 := YX11_in) dX11_year_27 lX11_171 sX11_in (mX11_in (d + 2) h _ _ _) rfl rfl (by simp [Value.category]) ?_
      refine mm_if_ne 35 dX11_year_30 (by decide) (fun c_30 => ?_) (fun c_30 => ?_)
      · have q1 := bI_n0.mp c_18
        have q2 := bI_n0.mp c_30
        have q3 : 0 < n := by
          rcases Nat.eq_zero_or_pos n with z | z
          · subst z; exact absurd hn c_6
          · exact z
        exfalso; (try simp only [lg_lt, lg_ge, lg_gt, lg_le] at *); simp only [Int32.lt_iff_toInt_lt, Int32.le_iff_toInt_le, Int64.lt_iff_toInt_lt, Int64.le_iff_toInt_le, ti_0, ti_1, ti_2, ti_3, ti_4, ti_5, ti_6, ti_10, ti_12, ti_200, ti_400, ti_500, ti_999, ti_2400, ti_9999, ti_m9999, ti_m20000, ti_m1, i64_toInt, li_0, li_1, li_2, li_3, li_4, li_5, li_10, li_12, li_15, li_48, li_57, li_200, li_500, li_999, li_2400, li_9999, li_m9999, li_11999] at *; omega
      · refine mm_iconst (x := (-1)) dX11_year_33 (by decide) ?_
        exact mm_iretE dX11_year_34 rfl rfl rfl
set_option maxRecDepth 100000 in
set_option maxHeartbeats 4000000 in
theorem mX11_year_0 (d : Nat) (h : mm_H) (n x m : Nat) (hn : h.1 166 0 = nI n) (h12 : n ≤ 12) (hn0 : 0 < n) (hx : h.1 166 6 = nI x) (hx31 : x < 2 ^ 31) (hm : 1 ≤ m ∧ m ≤ 500) (ht : ∀ j, j < n → ¬ h.1 170 j ≤ 0) : ∃ g : mm_H, mm_M (d + 3) YX11_year [.ref 165, .int (nI m), .int 0] h (some (.int (yr0 (h.1 169) (h.1 180) n x m))) g ∧ g.2 = h.2 ∧ (∀ j, j < 12 → g.1 180 j = h.1 180 j) ∧ (∀ j, j < 12 → g.1 181 j = h.1 181 j) ∧ g.1 166 = h.1 166 ∧ (∀ a, a ≠ 180 → a ≠ 181 → a ≠ 212 → a ≠ 213 → a ≠ 166 → g.1 a = h.1 a) := by
  obtain ⟨J1, eJ1⟩ : ∃ J : Nat → Nat → Int32, J = mm_row h.1 212 (sp_lay (h.1 180) (h.1 212) 12) := ⟨_, rfl⟩
  obtain ⟨J2, eJ2⟩ : ∃ J : Nat → Nat → Int32, J = mm_row J1 213 (sp_lay (J1 181) (J1 213) 12) := ⟨_, rfl⟩
  obtain ⟨F, eF⟩ : ∃ F : Nat → Nat → Nat → Int32, F = fun i => mm_row (mm_row (mm_up J2 166 6 (nI (yx x i))) 181 (yf n (h.1 181) x i)) 180 (yh n (h.1 180) x i) := ⟨_, rfl⟩
  obtain ⟨J4, eJ4⟩ : ∃ J : Nat → Nat → Int32, J = mm_row (F m) 180 (sp_lay (F m 212) (F m 180) 12) := ⟨_, rfl⟩
  obtain ⟨J5, eJ5⟩ : ∃ J : Nat → Nat → Int32, J = mm_row J4 181 (sp_lay (J4 213) (J4 181) 12) := ⟨_, rfl⟩
  obtain ⟨J6, eJ6⟩ : ∃ J : Nat → Nat → Int32, J = mm_up J5 166 6 (nI x) := ⟨_, rfl⟩
  have s2 : ∀ c, c ≠ 212 → c ≠ 213 → J2 c = h.1 c := fun c h1 h2 => by rw [eJ2, mm_row_n h2, eJ1, mm_row_n h1]
  have F166 : ∀ i, F i 166 = upd (h.1 166) 6 (nI (yx x i)) := fun i => by rw [eF]; dsimp only; rw [mm_row_n (by decide), mm_row_n (by decide), mm_up_s, s2 166 (by decide) (by decide)]
  have F181 : ∀ i, F i 181 = yf n (h.1 181) x i := fun i => by rw [eF]; dsimp only; rw [mm_row_n (by decide), mm_row_s]
  have F180 : ∀ i, F i 180 = yh n (h.1 180) x i := fun i => by rw [eF]; dsimp only; rw [mm_row_s]
  have Fo : ∀ i c, c ≠ 166 → c ≠ 180 → c ≠ 181 → F i c = J2 c := fun i c h1 h2 h3 => by rw [eF]; dsimp only; rw [mm_row_n h2, mm_row_n h3, mm_up_n h1]
  have Fn : ∀ i, F i 166 0 = nI n := fun i => by rw [F166]; simp only [upd]; exact hn
  have Fx : ∀ i, F i 166 6 = nI (yx x i) := fun i => by rw [F166]; simp [upd]
  refine ⟨(J6, h.2.1, h.2.2), ?_, rfl, fun j hj => ?_, fun j hj => ?_, ?_, fun a h1 h2 h3 h4 h5 => ?_⟩
  · refine mm_M.of [some (.ref 165), some (.int (nI m)), some (.int 0), none, none, none, none, none] rfl rfl (Nat.le_of_ble_eq_true rfl) ?_
    have K213 : mm_R (d + 3) YX11_year 213 [some (.ref 165), some (.int (nI m)), some (.int 0), some (.int (nI x)), some (.int (sp_rich (sp_wheld (h.1 169) (yh n (h.1 180) x m) n) 5)), some (.int (sp_cracks (yf n (h.1 181) x m) (h.1 170) n)), some (.int ((sp_wheld (h.1 169) (yh n (h.1 180) x m) n) (sp_rich (sp_wheld (h.1 169) (yh n (h.1 180) x m) n) 5))), none] [] (F m, h.2.1, h.2.2) (some (.int (yr0 (h.1 169) (h.1 180) n x m))) (J6, h.2.1, h.2.2) := by
      refine mm_aload_n dX11_year_213 rfl rfl ?_
      refine mm_getS dX11_year_214 fX11_156 sh_165 rfl gr_165_62 ?_
      refine mm_aload_n dX11_year_217 rfl rfl ?_
      refine mm_getS dX11_year_218 fX11_52 sh_165 rfl gr_165_15 ?_
      refine mm_cS (Y1 := YX11_lay) dX11_year_221 lX11_335 sX11_lay (mX11_lay (d + 2) (F m, h.2.1, h.2.2) 212 180 12 12 sh_212 sh_180 (by decide) (Nat.le_refl _)) rfl rfl (by simp [Value.category]) ?_
      refine mm_aload_n dX11_year_224 rfl rfl ?_
      refine mm_getS dX11_year_225 fX11_159 sh_165 rfl gr_165_63 ?_
      refine mm_aload_n dX11_year_228 rfl rfl ?_
      refine mm_getS dX11_year_229 fX11_55 sh_165 rfl gr_165_16 ?_
      refine mm_cS (Y1 := YX11_lay) dX11_year_232 lX11_335 sX11_lay (mX11_lay (d + 2) _ 213 181 12 12 sh_213 sh_181 (by decide) (Nat.le_refl _)) rfl rfl (by simp [Value.category]) ?_
      refine mm_aload_n dX11_year_235 rfl rfl ?_
      refine mm_getS dX11_year_236 fX11_9 sh_165 rfl gr_165_1 ?_
      refine mm_bipush (x := 6) dX11_year_239 (by decide) ?_
      refine mm_iload_n dX11_year_241 rfl rfl ?_
      refine mm_iast (6) dX11_year_242 sh_166 rfl (by decide) ?_
      refine mm_iload_n dX11_year_243 rfl rfl ?_
      refine mm_if_ne 252 dX11_year_244 (by decide) (fun c_244 => ?_) (fun c_244 => ?_)
      · exact absurd rfl c_244
      · refine mm_iload dX11_year_247 rfl ?_
        refine mm_goto 264 dX11_year_249 (by decide) ?_
        exact mm_iretE dX11_year_264 rfl rfl (by rw [eJ6, eJ5, eJ4])
    have K185 : ∀ i, i ≤ n → mm_R (d + 3) YX11_year 185 [some (.ref 165), some (.int (nI m)), some (.int 0), some (.int (nI x)), some (.int (sp_rich (sp_wheld (h.1 169) (yh n (h.1 180) x m) n) 5)), some (.int (sp_cracks (yf n (h.1 181) x m) (h.1 170) i)), some (.int ((sp_wheld (h.1 169) (yh n (h.1 180) x m) n) (sp_rich (sp_wheld (h.1 169) (yh n (h.1 180) x m) n) 5))), some (.int (nI i))] [] (F m, h.2.1, h.2.2) (some (.int (yr0 (h.1 169) (h.1 180) n x m))) (J6, h.2.1, h.2.2) := by
      refine mm_down n ?_ (fun i hi ih => ?_)
      · refine mm_iload dX11_year_185 rfl ?_
        refine mm_aload_n dX11_year_187 rfl rfl ?_
        refine mm_getS dX11_year_188 fX11_9 sh_165 rfl gr_165_1 ?_
        refine mm_iconst (x := 0) dX11_year_191 (by decide) ?_
        refine mm_iald (0) dX11_year_192 sh_166 rfl (by decide) ?_
        refine mm_icmp_ge 213 dX11_year_193 (by decide) (fun c_193 => ?_) (fun c_193 => ?_)
        · refine mm_lessE ?_ K213
          exact ⟨rfl, rfl, rfl, rfl, rfl, rfl, rfl, trivial⟩
        · exact absurd (by dsimp only; rw [Fn]; exact nI_le (Nat.le_refl _) (by omega)) c_193
      · have t0 : F m 170 i = h.1 170 i := by rw [Fo m 170 (by decide) (by decide) (by decide), s2 170 (by decide) (by decide)]
        refine mm_iload dX11_year_185 rfl ?_
        refine mm_aload_n dX11_year_187 rfl rfl ?_
        refine mm_getS dX11_year_188 fX11_9 sh_165 rfl gr_165_1 ?_
        refine mm_iconst (x := 0) dX11_year_191 (by decide) ?_
        refine mm_iald (0) dX11_year_192 sh_166 rfl (by decide) ?_
        refine mm_icmp_ge 213 dX11_year_193 (by decide) (fun c_193 => ?_) (fun c_193 => ?_)
        · exact absurd (by dsimp only at c_193; rw [Fn] at c_193; exact c_193) (nI_ge hi (by omega))
        · refine mm_iload dX11_year_196 rfl ?_
          refine mm_aload_n dX11_year_198 rfl rfl ?_
          refine mm_iload dX11_year_199 rfl ?_
          refine mm_cV (Y1 := YX11_cracks) dX11_year_201 lX11_361 vX11_cracks (mX11_cracks (d + 2) (F m, h.2.1, h.2.2) i (by omega) (by dsimp only; rw [t0]; exact fun z => ht i hi (by rw [z]; decide))) sh_165 rfl rfl (by simp [Value.category]) ?_
          refine mm_iadd dX11_year_204 ?_
          refine mm_istore dX11_year_205 (by decide) rfl ?_
          refine mm_iinc dX11_year_207 rfl rfl rfl ?_
          refine mm_goto 185 dX11_year_210 (by decide) ?_
          exact mm_cast (by rw [nI_succ]; simp only [sp_cracks, sp_crack]; rw [if_neg (ht i hi), F181, t0]; rfl) rfl rfl ih
    have ew : ∀ p, sp_worth (F m 169) (sp_held (F m 180) p n) n = (sp_wheld (h.1 169) (yh n (h.1 180) x m) n) p := fun p => by rw [F180, Fo m 169 (by decide) (by decide) (by decide), s2 169 (by decide) (by decide)]; rfl
    have K125 : ∀ i, i ≤ 5 → mm_R (d + 3) YX11_year 125 [some (.ref 165), some (.int (nI m)), some (.int 0), some (.int (nI x)), some (.int (sp_rich (sp_wheld (h.1 169) (yh n (h.1 180) x m) n) i)), some (.int 0), some (.int (nI (i + 1))), none] [] (F m, h.2.1, h.2.2) (some (.int (yr0 (h.1 169) (h.1 180) n x m))) (J6, h.2.1, h.2.2) := by
      refine mm_down 5 ?_ (fun i hi ih => ?_)
      · refine mm_iload dX11_year_125 rfl ?_
        refine mm_bipush (x := 6) dX11_year_127 (by decide) ?_
        refine mm_icmp_ge 170 dX11_year_129 (by decide) (fun c_129 => ?_) (fun c_129 => ?_)
        · refine mm_aload_n dX11_year_170 rfl rfl ?_
          refine mm_aload_n dX11_year_171 rfl rfl ?_
          refine mm_iload dX11_year_172 rfl ?_
          refine mm_cV (Y1 := YX11_heldBy) dX11_year_174 lX11_459 vX11_heldBy (mX11_heldBy (d + 2) (F m, h.2.1, h.2.2) n (Fn m) h12 _) sh_165 rfl rfl (by simp [Value.category]) ?_
          refine mm_cV (Y1 := YX11_worthOf) dX11_year_177 lX11_446 vX11_worthOf (mX11_worthOf (d + 1) (F m, h.2.1, h.2.2) n (Fn m) h12 _) sh_165 rfl rfl (by simp [Value.category]) ?_
          refine mm_istore dX11_year_180 (by decide) rfl ?_
          refine mm_iconst (x := 0) dX11_year_182 (by decide) ?_
          refine mm_istore dX11_year_183 (by decide) rfl ?_
          exact mm_cast (by rw [ew]; rfl) rfl rfl (K185 0 (Nat.zero_le _))
        · exact absurd (by decide) c_129
      · refine mm_iload dX11_year_125 rfl ?_
        refine mm_bipush (x := 6) dX11_year_127 (by decide) ?_
        refine mm_icmp_ge 170 dX11_year_129 (by decide) (fun c_129 => ?_) (fun c_129 => ?_)
        · exact absurd c_129 (nI_ge (a := i + 1) (b := 6) (by omega) (by omega))
        · refine mm_aload_n dX11_year_132 rfl rfl ?_
          refine mm_aload_n dX11_year_133 rfl rfl ?_
          refine mm_iload dX11_year_134 rfl ?_
          refine mm_cV (Y1 := YX11_heldBy) dX11_year_136 lX11_459 vX11_heldBy (mX11_heldBy (d + 2) (F m, h.2.1, h.2.2) n (Fn m) h12 _) sh_165 rfl rfl (by simp [Value.category]) ?_
          refine mm_cV (Y1 := YX11_worthOf) dX11_year_139 lX11_446 vX11_worthOf (mX11_worthOf (d + 1) (F m, h.2.1, h.2.2) n (Fn m) h12 _) sh_165 rfl rfl (by simp [Value.category]) ?_
          refine mm_aload_n dX11_year_142 rfl rfl ?_
          refine mm_aload_n dX11_year_143 rfl rfl ?_
          refine mm_iload dX11_year_144 rfl ?_
          refine mm_cV (Y1 := YX11_heldBy) dX11_year_146 lX11_459 vX11_heldBy (mX11_heldBy (d + 2) (F m, h.2.1, h.2.2) n (Fn m) h12 _) sh_165 rfl rfl (by simp [Value.category]) ?_
          refine mm_cV (Y1 := YX11_worthOf) dX11_year_149 lX11_446 vX11_worthOf (mX11_worthOf (d + 1) (F m, h.2.1, h.2.2) n (Fn m) h12 _) sh_165 rfl rfl (by simp [Value.category]) ?_
          refine mm_icmp_le 160 dX11_year_152 (by decide) (fun c_152 => ?_) (fun c_152 => ?_)
          · refine mm_iload dX11_year_160 rfl ?_
            refine mm_istore dX11_year_162 (by decide) rfl ?_
            refine mm_iinc dX11_year_164 rfl rfl rfl ?_
            refine mm_goto 125 dX11_year_167 (by decide) ?_
            dsimp only at c_152
            rw [ew, ew] at c_152
            exact mm_cast (by rw [nI_succ (i + 1)]; simp only [sp_rich]; first | rw [if_pos c_152]; rfl | rw [if_neg c_152]; rfl) rfl rfl ih
          · refine mm_iload dX11_year_155 rfl ?_
            refine mm_goto 162 dX11_year_157 (by decide) ?_
            refine mm_istore dX11_year_162 (by decide) rfl ?_
            refine mm_iinc dX11_year_164 rfl rfl rfl ?_
            refine mm_goto 125 dX11_year_167 (by decide) ?_
            dsimp only at c_152
            rw [ew, ew] at c_152
            exact mm_cast (by rw [nI_succ (i + 1)]; simp only [sp_rich]; first | rw [if_pos c_152]; rfl | rw [if_neg c_152]; rfl) rfl rfl ih
    have K68 : ∀ i, i ≤ m → mm_R (d + 3) YX11_year 68 [some (.ref 165), some (.int (nI m)), some (.int 0), some (.int (nI x)), some (.int (nI i)), none, none, none] [] (F i, h.2.1, h.2.2) (some (.int (yr0 (h.1 169) (h.1 180) n x m))) (J6, h.2.1, h.2.2) := by
      refine mm_down m ?_ (fun i hi ih => ?_)
      · refine mm_iload dX11_year_68 rfl ?_
        refine mm_iload_n dX11_year_70 rfl rfl ?_
        refine mm_icmp_ge 116 dX11_year_71 (by decide) (fun c_71 => ?_) (fun c_71 => ?_)
        · refine mm_iconst (x := 0) dX11_year_116 (by decide) ?_
          refine mm_istore dX11_year_117 (by decide) rfl ?_
          refine mm_iconst (x := 0) dX11_year_119 (by decide) ?_
          refine mm_istore dX11_year_120 (by decide) rfl ?_
          refine mm_iconst (x := 1) dX11_year_122 (by decide) ?_
          refine mm_istore dX11_year_123 (by decide) rfl ?_
          exact K125 0 (Nat.zero_le _)
        · exact absurd (nI_le (Nat.le_refl _) (by omega)) c_71
      · have hyx := yx_lt hx31 i
        have hd1 := drN_lt (yx x i)
        have hcn := yc_lt (n := n) (x0 := x) (i := i) hn0
        have hcn12 : yc n x i < 12 := by omega
        refine mm_iload dX11_year_68 rfl ?_
        refine mm_iload_n dX11_year_70 rfl rfl ?_
        refine mm_icmp_ge 116 dX11_year_71 (by decide) (fun c_71 => ?_) (fun c_71 => ?_)
        · exact absurd c_71 (nI_ge hi (by omega))
        · refine mm_aload_n dX11_year_74 rfl rfl ?_
          refine mm_aload_n dX11_year_75 rfl rfl ?_
          refine mm_getS dX11_year_76 fX11_9 sh_165 rfl gr_165_1 ?_
          refine mm_iconst (x := 0) dX11_year_79 (by decide) ?_
          refine mm_iald (0) dX11_year_80 sh_166 rfl (by decide) ?_
          refine mm_cast (st' := [.int (nI n), .ref 165]) rfl (by dsimp only; rw [Fn]) rfl ?_
          refine mm_cV (Y1 := YX11_draws) dX11_year_81 lX11_509 vX11_draws (mX11_draws (d + 2) (F i, h.2.1, h.2.2) (yx x i) n (Fx i) hyx hn0 (by omega)) sh_165 rfl rfl (by simp [Value.category]) ?_
          refine mm_istore dX11_year_84 (by decide) rfl ?_
          refine mm_aload_n dX11_year_86 rfl rfl ?_
          refine mm_getS dX11_year_87 fX11_55 sh_165 rfl gr_165_16 ?_
          refine mm_iload dX11_year_90 rfl ?_
          refine mm_dup2 dX11_year_92 rfl rfl ?_
          refine mm_iald (yc n x i) dX11_year_93 sh_181 rfl hcn12 ?_
          refine mm_iconst (x := 1) dX11_year_94 (by decide) ?_
          refine mm_iadd dX11_year_95 ?_
          refine mm_iast (yc n x i) dX11_year_96 sh_181 rfl hcn12 ?_
          refine mm_aload_n dX11_year_97 rfl rfl ?_
          refine mm_getS dX11_year_98 fX11_52 sh_165 rfl gr_165_15 ?_
          refine mm_iload dX11_year_101 rfl ?_
          refine mm_aload_n dX11_year_103 rfl rfl ?_
          refine mm_bipush (x := 6) dX11_year_104 (by decide) ?_
          refine mm_cV (Y1 := YX11_draws) dX11_year_106 lX11_509 vX11_draws (mX11_draws (d + 2) _ (drN (yx x i)) 6 (by dsimp only; rw [mm_up_n (by decide), mm_up_e]) hd1 (by decide) (by decide)) sh_165 rfl rfl (by simp [Value.category]) ?_
          refine mm_iast (yc n x i) dX11_year_109 sh_180 rfl hcn12 ?_
          refine mm_iinc dX11_year_110 rfl rfl rfl ?_
          refine mm_goto 68 dX11_year_113 (by decide) ?_
          refine mm_lessE (ls' := [some (.ref 165), some (.int (nI m)), some (.int 0), some (.int (nI x)), some (.int (nI (i + 1))), none, none, none]) ⟨rfl, rfl, rfl, rfl, by rw [nI_succ]; rfl, trivial⟩ (mm_cast rfl rfl ?_ ih)
          dsimp only
          refine congrArg (fun J => ((J, h.2.1, h.2.2) : mm_H)) ?_
          funext c
          rw [mm_up_n (show 181 ≠ 166 by decide), F181]
          by_cases c1 : c = 180
          · subst c1; rw [mm_up_s, mm_up_n (by decide), mm_up_n (by decide), mm_up_n (by decide), F180, F180]; rfl
          · rw [mm_up_n c1]
            by_cases c2 : c = 166
            · subst c2; rw [mm_up_s, mm_up_n (by decide), mm_up_s, F166, F166]; funext j; by_cases cj : j = 6; subst cj; simp [upd, yx]; simp [upd, cj]
            · rw [mm_up_n c2]
              by_cases c3 : c = 181
              · subst c3; rw [mm_up_s, mm_up_n (by decide), F181, F181]; rfl
              · rw [mm_up_n c3, mm_up_n c2, Fo i c c2 c1 c3, Fo (i + 1) c c2 c1 c3]
    refine mm_aload_n dX11_year_0 rfl rfl ?_
    refine mm_getS dX11_year_1 fX11_9 sh_165 rfl gr_165_1 ?_
    refine mm_iconst (x := 0) dX11_year_4 (by decide) ?_
    refine mm_iald (0) dX11_year_5 sh_166 rfl (by decide) ?_
    refine mm_if_eq 33 dX11_year_6 (by decide) (fun c_6 => ?_) (fun c_6 => ?_)
    · exact absurd (nI_inj (a := n) (b := 0) (by omega) (by decide) (hn.symm.trans c_6)) (by omega)
    · refine mm_iload_n dX11_year_9 rfl rfl ?_
      refine mm_i2l dX11_year_10 rfl ?_
      refine mm_lconst (x := 1) dX11_year_11 (by decide) ?_
      refine mm_ldc2 dX11_year_12 kX11_507 ?_
      refine mm_cS (Y1 := YX11_in) dX11_year_15 lX11_171 sX11_in (mX11_in (d + 2) h _ _ _) rfl rfl (by simp [Value.category]) ?_
      refine mm_if_eq 33 dX11_year_18 (by decide) (fun c_18 => ?_) (fun c_18 => ?_)
      · have q1 := bI_e0.mp c_18
        exfalso; (try simp only [lg_lt, lg_ge, lg_gt, lg_le] at *); simp only [nI_toInt (show m < 2 ^ 31 by omega), Int32.lt_iff_toInt_lt, Int32.le_iff_toInt_le, Int64.lt_iff_toInt_lt, Int64.le_iff_toInt_le, ti_0, ti_1, ti_2, ti_3, ti_4, ti_5, ti_6, ti_10, ti_12, ti_200, ti_400, ti_500, ti_999, ti_2400, ti_9999, ti_m9999, ti_m20000, ti_m1, i64_toInt, li_0, li_1, li_2, li_3, li_4, li_5, li_10, li_12, li_15, li_48, li_57, li_200, li_500, li_999, li_2400, li_9999, li_m9999, li_11999] at *; omega
      · refine mm_iload_n dX11_year_21 rfl rfl ?_
        refine mm_i2l dX11_year_22 rfl ?_
        refine mm_lconst (x := 0) dX11_year_23 (by decide) ?_
        refine mm_ldc2 dX11_year_24 kX11_428 ?_
        refine mm_cS (Y1 := YX11_in) dX11_year_27 lX11_171 sX11_in (mX11_in (d + 2) h _ _ _) rfl rfl (by simp [Value.category]) ?_
        refine mm_if_ne 35 dX11_year_30 (by decide) (fun c_30 => ?_) (fun c_30 => ?_)
        · refine mm_aload_n dX11_year_35 rfl rfl ?_
          refine mm_getS dX11_year_36 fX11_9 sh_165 rfl gr_165_1 ?_
          refine mm_bipush (x := 6) dX11_year_39 (by decide) ?_
          refine mm_iald (6) dX11_year_41 sh_166 rfl (by decide) ?_
          refine mm_istore_n dX11_year_42 rfl (by decide) rfl ?_
          refine mm_aload_n dX11_year_43 rfl rfl ?_
          refine mm_getS dX11_year_44 fX11_52 sh_165 rfl gr_165_15 ?_
          refine mm_aload_n dX11_year_47 rfl rfl ?_
          refine mm_getS dX11_year_48 fX11_156 sh_165 rfl gr_165_62 ?_
          refine mm_cS (Y1 := YX11_lay) dX11_year_51 lX11_335 sX11_lay (mX11_lay (d + 2) h 180 212 12 12 sh_180 sh_212 (by decide) (Nat.le_refl _)) rfl rfl (by simp [Value.category]) ?_
          refine mm_aload_n dX11_year_54 rfl rfl ?_
          refine mm_getS dX11_year_55 fX11_55 sh_165 rfl gr_165_16 ?_
          refine mm_aload_n dX11_year_58 rfl rfl ?_
          refine mm_getS dX11_year_59 fX11_159 sh_165 rfl gr_165_63 ?_
          refine mm_cS (Y1 := YX11_lay) dX11_year_62 lX11_335 sX11_lay (mX11_lay (d + 2) _ 181 213 12 12 sh_181 sh_213 (by decide) (Nat.le_refl _)) rfl rfl (by simp [Value.category]) ?_
          refine mm_iconst (x := 0) dX11_year_65 (by decide) ?_
          refine mm_istore dX11_year_66 (by decide) rfl ?_
          refine mm_cast (by rw [hx]; rfl) rfl ?_ (K68 0 (Nat.zero_le _))
          rw [eF]
          dsimp only
          rw [show yf n (h.1 181) x 0 = h.1 181 from rfl, show yh n (h.1 180) x 0 = h.1 180 from rfl, show yx x 0 = x from rfl]
          refine congrArg (fun J => ((J, h.2.1, h.2.2) : mm_H)) ?_
          have q1 : mm_row (mm_row (mm_up J2 166 6 (nI x)) 181 (h.1 181)) 180 (h.1 180) = J2 := by
            rw [mm_up_self (show J2 166 6 = nI x by rw [s2 166 (by decide) (by decide)]; exact hx), show h.1 181 = J2 181 from (s2 181 (by decide) (by decide)).symm, mm_row_self, show h.1 180 = J2 180 from (s2 180 (by decide) (by decide)).symm, mm_row_self]
          rw [q1, eJ2, eJ1]
        · exact absurd c_30 (by decide)
  · dsimp only
    rw [eJ6, mm_up_n (by decide), eJ5, mm_row_n (by decide), eJ4, mm_row_s]
    simp only [sp_lay, if_pos hj]
    rw [Fo m 212 (by decide) (by decide) (by decide), eJ2, mm_row_n (by decide), eJ1, mm_row_s]
    simp only [sp_lay, if_pos hj]
  · dsimp only
    rw [eJ6, mm_up_n (by decide), eJ5, mm_row_s]
    simp only [sp_lay, if_pos hj]
    rw [eJ4, mm_row_n (by decide), Fo m 213 (by decide) (by decide) (by decide), eJ2, mm_row_s]
    simp only [sp_lay, if_pos hj]
    rw [eJ1, mm_row_n (by decide)]
  · dsimp only
    rw [eJ6, mm_up_s, eJ5, mm_row_n (by decide), eJ4, mm_row_n (by decide), F166]
    funext j
    by_cases cj : j = 6
    · subst cj; simp [upd, hx]
    · simp [upd, cj]
  · dsimp only
    rw [eJ6, mm_up_n h5, eJ5, mm_row_n h2, eJ4, mm_row_n h1, Fo m a h5 h1 h2, s2 a h3 h4]
set_option maxRecDepth 100000 in
set_option maxHeartbeats 4000000 in
theorem mX11_year_1 (d : Nat) (h : mm_H) (n x m : Nat) (hn : h.1 166 0 = nI n) (h12 : n ≤ 12) (hn0 : 0 < n) (hx : h.1 166 6 = nI x) (hx31 : x < 2 ^ 31) (hm : 1 ≤ m ∧ m ≤ 500) (ht : ∀ j, j < n → ¬ h.1 170 j ≤ 0) : ∃ g : mm_H, mm_M (d + 3) YX11_year [.ref 165, .int (nI m), .int 1] h (some (.int (yr1 (h.1 169) (h.1 180) n x m))) g ∧ g.2 = h.2 ∧ (∀ j, j < 12 → g.1 180 j = h.1 180 j) ∧ (∀ j, j < 12 → g.1 181 j = h.1 181 j) ∧ g.1 166 = h.1 166 ∧ (∀ a, a ≠ 180 → a ≠ 181 → a ≠ 212 → a ≠ 213 → a ≠ 166 → g.1 a = h.1 a) := by
  obtain ⟨J1, eJ1⟩ : ∃ J : Nat → Nat → Int32, J = mm_row h.1 212 (sp_lay (h.1 180) (h.1 212) 12) := ⟨_, rfl⟩
  obtain ⟨J2, eJ2⟩ : ∃ J : Nat → Nat → Int32, J = mm_row J1 213 (sp_lay (J1 181) (J1 213) 12) := ⟨_, rfl⟩
  obtain ⟨F, eF⟩ : ∃ F : Nat → Nat → Nat → Int32, F = fun i => mm_row (mm_row (mm_up J2 166 6 (nI (yx x i))) 181 (yf n (h.1 181) x i)) 180 (yh n (h.1 180) x i) := ⟨_, rfl⟩
  obtain ⟨J4, eJ4⟩ : ∃ J : Nat → Nat → Int32, J = mm_row (F m) 180 (sp_lay (F m 212) (F m 180) 12) := ⟨_, rfl⟩
  obtain ⟨J5, eJ5⟩ : ∃ J : Nat → Nat → Int32, J = mm_row J4 181 (sp_lay (J4 213) (J4 181) 12) := ⟨_, rfl⟩
  obtain ⟨J6, eJ6⟩ : ∃ J : Nat → Nat → Int32, J = mm_up J5 166 6 (nI x) := ⟨_, rfl⟩
  have s2 : ∀ c, c ≠ 212 → c ≠ 213 → J2 c = h.1 c := fun c h1 h2 => by rw [eJ2, mm_row_n h2, eJ1, mm_row_n h1]
  have F166 : ∀ i, F i 166 = upd (h.1 166) 6 (nI (yx x i)) := fun i => by rw [eF]; dsimp only; rw [mm_row_n (by decide), mm_row_n (by decide), mm_up_s, s2 166 (by decide) (by decide)]
  have F181 : ∀ i, F i 181 = yf n (h.1 181) x i := fun i => by rw [eF]; dsimp only; rw [mm_row_n (by decide), mm_row_s]
  have F180 : ∀ i, F i 180 = yh n (h.1 180) x i := fun i => by rw [eF]; dsimp only; rw [mm_row_s]
  have Fo : ∀ i c, c ≠ 166 → c ≠ 180 → c ≠ 181 → F i c = J2 c := fun i c h1 h2 h3 => by rw [eF]; dsimp only; rw [mm_row_n h2, mm_row_n h3, mm_up_n h1]
  have Fn : ∀ i, F i 166 0 = nI n := fun i => by rw [F166]; simp only [upd]; exact hn
  have Fx : ∀ i, F i 166 6 = nI (yx x i) := fun i => by rw [F166]; simp [upd]
  refine ⟨(J6, h.2.1, h.2.2), ?_, rfl, fun j hj => ?_, fun j hj => ?_, ?_, fun a h1 h2 h3 h4 h5 => ?_⟩
  · refine mm_M.of [some (.ref 165), some (.int (nI m)), some (.int 1), none, none, none, none, none] rfl rfl (Nat.le_of_ble_eq_true rfl) ?_
    have K213 : mm_R (d + 3) YX11_year 213 [some (.ref 165), some (.int (nI m)), some (.int 1), some (.int (nI x)), some (.int (sp_rich (sp_wheld (h.1 169) (yh n (h.1 180) x m) n) 5)), some (.int (sp_cracks (yf n (h.1 181) x m) (h.1 170) n)), some (.int ((sp_wheld (h.1 169) (yh n (h.1 180) x m) n) (sp_rich (sp_wheld (h.1 169) (yh n (h.1 180) x m) n) 5))), none] [] (F m, h.2.1, h.2.2) (some (.int (yr1 (h.1 169) (h.1 180) n x m))) (J6, h.2.1, h.2.2) := by
      refine mm_aload_n dX11_year_213 rfl rfl ?_
      refine mm_getS dX11_year_214 fX11_156 sh_165 rfl gr_165_62 ?_
      refine mm_aload_n dX11_year_217 rfl rfl ?_
      refine mm_getS dX11_year_218 fX11_52 sh_165 rfl gr_165_15 ?_
      refine mm_cS (Y1 := YX11_lay) dX11_year_221 lX11_335 sX11_lay (mX11_lay (d + 2) (F m, h.2.1, h.2.2) 212 180 12 12 sh_212 sh_180 (by decide) (Nat.le_refl _)) rfl rfl (by simp [Value.category]) ?_
      refine mm_aload_n dX11_year_224 rfl rfl ?_
      refine mm_getS dX11_year_225 fX11_159 sh_165 rfl gr_165_63 ?_
      refine mm_aload_n dX11_year_228 rfl rfl ?_
      refine mm_getS dX11_year_229 fX11_55 sh_165 rfl gr_165_16 ?_
      refine mm_cS (Y1 := YX11_lay) dX11_year_232 lX11_335 sX11_lay (mX11_lay (d + 2) _ 213 181 12 12 sh_213 sh_181 (by decide) (Nat.le_refl _)) rfl rfl (by simp [Value.category]) ?_
      refine mm_aload_n dX11_year_235 rfl rfl ?_
      refine mm_getS dX11_year_236 fX11_9 sh_165 rfl gr_165_1 ?_
      refine mm_bipush (x := 6) dX11_year_239 (by decide) ?_
      refine mm_iload_n dX11_year_241 rfl rfl ?_
      refine mm_iast (6) dX11_year_242 sh_166 rfl (by decide) ?_
      refine mm_iload_n dX11_year_243 rfl rfl ?_
      refine mm_if_ne 252 dX11_year_244 (by decide) (fun c_244 => ?_) (fun c_244 => ?_)
      · refine mm_iload_n dX11_year_252 rfl rfl ?_
        refine mm_iconst (x := 1) dX11_year_253 (by decide) ?_
        refine mm_icmp_ne 262 dX11_year_254 (by decide) (fun c_254 => ?_) (fun c_254 => ?_)
        · exact absurd rfl c_254
        · refine mm_iload dX11_year_257 rfl ?_
          refine mm_goto 264 dX11_year_259 (by decide) ?_
          exact mm_iretE dX11_year_264 rfl rfl (by rw [eJ6, eJ5, eJ4])
      · exact absurd c_244 (by decide)
    have K185 : ∀ i, i ≤ n → mm_R (d + 3) YX11_year 185 [some (.ref 165), some (.int (nI m)), some (.int 1), some (.int (nI x)), some (.int (sp_rich (sp_wheld (h.1 169) (yh n (h.1 180) x m) n) 5)), some (.int (sp_cracks (yf n (h.1 181) x m) (h.1 170) i)), some (.int ((sp_wheld (h.1 169) (yh n (h.1 180) x m) n) (sp_rich (sp_wheld (h.1 169) (yh n (h.1 180) x m) n) 5))), some (.int (nI i))] [] (F m, h.2.1, h.2.2) (some (.int (yr1 (h.1 169) (h.1 180) n x m))) (J6, h.2.1, h.2.2) := by
      refine mm_down n ?_ (fun i hi ih => ?_)
      · refine mm_iload dX11_year_185 rfl ?_
        refine mm_aload_n dX11_year_187 rfl rfl ?_
        refine mm_getS dX11_year_188 fX11_9 sh_165 rfl gr_165_1 ?_
        refine mm_iconst (x := 0) dX11_year_191 (by decide) ?_
        refine mm_iald (0) dX11_year_192 sh_166 rfl (by decide) ?_
        refine mm_icmp_ge 213 dX11_year_193 (by decide) (fun c_193 => ?_) (fun c_193 => ?_)
        · refine mm_lessE ?_ K213
          exact ⟨rfl, rfl, rfl, rfl, rfl, rfl, rfl, trivial⟩
        · exact absurd (by dsimp only; rw [Fn]; exact nI_le (Nat.le_refl _) (by omega)) c_193
      · have t0 : F m 170 i = h.1 170 i := by rw [Fo m 170 (by decide) (by decide) (by decide), s2 170 (by decide) (by decide)]
        refine mm_iload dX11_year_185 rfl ?_
        refine mm_aload_n dX11_year_187 rfl rfl ?_
        refine mm_getS dX11_year_188 fX11_9 sh_165 rfl gr_165_1 ?_
        refine mm_iconst (x := 0) dX11_year_191 (by decide) ?_
        refine mm_iald (0) dX11_year_192 sh_166 rfl (by decide) ?_
        refine mm_icmp_ge 213 dX11_year_193 (by decide) (fun c_193 => ?_) (fun c_193 => ?_)
        · exact absurd (by dsimp only at c_193; rw [Fn] at c_193; exact c_193) (nI_ge hi (by omega))
        · refine mm_iload dX11_year_196 rfl ?_
          refine mm_aload_n dX11_year_198 rfl rfl ?_
          refine mm_iload dX11_year_199 rfl ?_
          refine mm_cV (Y1 := YX11_cracks) dX11_year_201 lX11_361 vX11_cracks (mX11_cracks (d + 2) (F m, h.2.1, h.2.2) i (by omega) (by dsimp only; rw [t0]; exact fun z => ht i hi (by rw [z]; decide))) sh_165 rfl rfl (by simp [Value.category]) ?_
          refine mm_iadd dX11_year_204 ?_
          refine mm_istore dX11_year_205 (by decide) rfl ?_
          refine mm_iinc dX11_year_207 rfl rfl rfl ?_
          refine mm_goto 185 dX11_year_210 (by decide) ?_
          exact mm_cast (by rw [nI_succ]; simp only [sp_cracks, sp_crack]; rw [if_neg (ht i hi), F181, t0]; rfl) rfl rfl ih
    have ew : ∀ p, sp_worth (F m 169) (sp_held (F m 180) p n) n = (sp_wheld (h.1 169) (yh n (h.1 180) x m) n) p := fun p => by rw [F180, Fo m 169 (by decide) (by decide) (by decide), s2 169 (by decide) (by decide)]; rfl
    have K125 : ∀ i, i ≤ 5 → mm_R (d + 3) YX11_year 125 [some (.ref 165), some (.int (nI m)), some (.int 1), some (.int (nI x)), some (.int (sp_rich (sp_wheld (h.1 169) (yh n (h.1 180) x m) n) i)), some (.int 0), some (.int (nI (i + 1))), none] [] (F m, h.2.1, h.2.2) (some (.int (yr1 (h.1 169) (h.1 180) n x m))) (J6, h.2.1, h.2.2) := by
      refine mm_down 5 ?_ (fun i hi ih => ?_)
      · refine mm_iload dX11_year_125 rfl ?_
        refine mm_bipush (x := 6) dX11_year_127 (by decide) ?_
        refine mm_icmp_ge 170 dX11_year_129 (by decide) (fun c_129 => ?_) (fun c_129 => ?_)
        · refine mm_aload_n dX11_year_170 rfl rfl ?_
          refine mm_aload_n dX11_year_171 rfl rfl ?_
          refine mm_iload dX11_year_172 rfl ?_
          refine mm_cV (Y1 := YX11_heldBy) dX11_year_174 lX11_459 vX11_heldBy (mX11_heldBy (d + 2) (F m, h.2.1, h.2.2) n (Fn m) h12 _) sh_165 rfl rfl (by simp [Value.category]) ?_
          refine mm_cV (Y1 := YX11_worthOf) dX11_year_177 lX11_446 vX11_worthOf (mX11_worthOf (d + 1) (F m, h.2.1, h.2.2) n (Fn m) h12 _) sh_165 rfl rfl (by simp [Value.category]) ?_
          refine mm_istore dX11_year_180 (by decide) rfl ?_
          refine mm_iconst (x := 0) dX11_year_182 (by decide) ?_
          refine mm_istore dX11_year_183 (by decide) rfl ?_
          exact mm_cast (by rw [ew]; rfl) rfl rfl (K185 0 (Nat.zero_le _))
        · exact absurd (by decide) c_129
      · refine mm_iload dX11_year_125 rfl ?_
        refine mm_bipush (x := 6) dX11_year_127 (by decide) ?_
        refine mm_icmp_ge 170 dX11_year_129 (by decide) (fun c_129 => ?_) (fun c_129 => ?_)
        · exact absurd c_129 (nI_ge (a := i + 1) (b := 6) (by omega) (by omega))
        · refine mm_aload_n dX11_year_132 rfl rfl ?_
          refine mm_aload_n dX11_year_133 rfl rfl ?_
          refine mm_iload dX11_year_134 rfl ?_
          refine mm_cV (Y1 := YX11_heldBy) dX11_year_136 lX11_459 vX11_heldBy (mX11_heldBy (d + 2) (F m, h.2.1, h.2.2) n (Fn m) h12 _) sh_165 rfl rfl (by simp [Value.category]) ?_
          refine mm_cV (Y1 := YX11_worthOf) dX11_year_139 lX11_446 vX11_worthOf (mX11_worthOf (d + 1) (F m, h.2.1, h.2.2) n (Fn m) h12 _) sh_165 rfl rfl (by simp [Value.category]) ?_
          refine mm_aload_n dX11_year_142 rfl rfl ?_
          refine mm_aload_n dX11_year_143 rfl rfl ?_
          refine mm_iload dX11_year_144 rfl ?_
          refine mm_cV (Y1 := YX11_heldBy) dX11_year_146 lX11_459 vX11_heldBy (mX11_heldBy (d + 2) (F m, h.2.1, h.2.2) n (Fn m) h12 _) sh_165 rfl rfl (by simp [Value.category]) ?_
          refine mm_cV (Y1 := YX11_worthOf) dX11_year_149 lX11_446 vX11_worthOf (mX11_worthOf (d + 1) (F m, h.2.1, h.2.2) n (Fn m) h12 _) sh_165 rfl rfl (by simp [Value.category]) ?_
          refine mm_icmp_le 160 dX11_year_152 (by decide) (fun c_152 => ?_) (fun c_152 => ?_)
          · refine mm_iload dX11_year_160 rfl ?_
            refine mm_istore dX11_year_162 (by decide) rfl ?_
            refine mm_iinc dX11_year_164 rfl rfl rfl ?_
            refine mm_goto 125 dX11_year_167 (by decide) ?_
            dsimp only at c_152
            rw [ew, ew] at c_152
            exact mm_cast (by rw [nI_succ (i + 1)]; simp only [sp_rich]; first | rw [if_pos c_152]; rfl | rw [if_neg c_152]; rfl) rfl rfl ih
          · refine mm_iload dX11_year_155 rfl ?_
            refine mm_goto 162 dX11_year_157 (by decide) ?_
            refine mm_istore dX11_year_162 (by decide) rfl ?_
            refine mm_iinc dX11_year_164 rfl rfl rfl ?_
            refine mm_goto 125 dX11_year_167 (by decide) ?_
            dsimp only at c_152
            rw [ew, ew] at c_152
            exact mm_cast (by rw [nI_succ (i + 1)]; simp only [sp_rich]; first | rw [if_pos c_152]; rfl | rw [if_neg c_152]; rfl) rfl rfl ih
    have K68 : ∀ i, i ≤ m → mm_R (d + 3) YX11_year 68 [some (.ref 165), some (.int (nI m)), some (.int 1), some (.int (nI x)), some (.int (nI i)), none, none, none] [] (F i, h.2.1, h.2.2) (some (.int (yr1 (h.1 169) (h.1 180) n x m))) (J6, h.2.1, h.2.2) := by
      refine mm_down m ?_ (fun i hi ih => ?_)
      · refine mm_iload dX11_year_68 rfl ?_
        refine mm_iload_n dX11_year_70 rfl rfl ?_
        refine mm_icmp_ge 116 dX11_year_71 (by decide) (fun c_71 => ?_) (fun c_71 => ?_)
        · refine mm_iconst (x := 0) dX11_year_116 (by decide) ?_
          refine mm_istore dX11_year_117 (by decide) rfl ?_
          refine mm_iconst (x := 0) dX11_year_119 (by decide) ?_
          refine mm_istore dX11_year_120 (by decide) rfl ?_
          refine mm_iconst (x := 1) dX11_year_122 (by decide) ?_
          refine mm_istore dX11_year_123 (by decide) rfl ?_
          exact K125 0 (Nat.zero_le _)
        · exact absurd (nI_le (Nat.le_refl _) (by omega)) c_71
      · have hyx := yx_lt hx31 i
        have hd1 := drN_lt (yx x i)
        have hcn := yc_lt (n := n) (x0 := x) (i := i) hn0
        have hcn12 : yc n x i < 12 := by omega
        refine mm_iload dX11_year_68 rfl ?_
        refine mm_iload_n dX11_year_70 rfl rfl ?_
        refine mm_icmp_ge 116 dX11_year_71 (by decide) (fun c_71 => ?_) (fun c_71 => ?_)
        · exact absurd c_71 (nI_ge hi (by omega))
        · refine mm_aload_n dX11_year_74 rfl rfl ?_
          refine mm_aload_n dX11_year_75 rfl rfl ?_
          refine mm_getS dX11_year_76 fX11_9 sh_165 rfl gr_165_1 ?_
          refine mm_iconst (x := 0) dX11_year_79 (by decide) ?_
          refine mm_iald (0) dX11_year_80 sh_166 rfl (by decide) ?_
          refine mm_cast (st' := [.int (nI n), .ref 165]) rfl (by dsimp only; rw [Fn]) rfl ?_
          refine mm_cV (Y1 := YX11_draws) dX11_year_81 lX11_509 vX11_draws (mX11_draws (d + 2) (F i, h.2.1, h.2.2) (yx x i) n (Fx i) hyx hn0 (by omega)) sh_165 rfl rfl (by simp [Value.category]) ?_
          refine mm_istore dX11_year_84 (by decide) rfl ?_
          refine mm_aload_n dX11_year_86 rfl rfl ?_
          refine mm_getS dX11_year_87 fX11_55 sh_165 rfl gr_165_16 ?_
          refine mm_iload dX11_year_90 rfl ?_
          refine mm_dup2 dX11_year_92 rfl rfl ?_
          refine mm_iald (yc n x i) dX11_year_93 sh_181 rfl hcn12 ?_
          refine mm_iconst (x := 1) dX11_year_94 (by decide) ?_
          refine mm_iadd dX11_year_95 ?_
          refine mm_iast (yc n x i) dX11_year_96 sh_181 rfl hcn12 ?_
          refine mm_aload_n dX11_year_97 rfl rfl ?_
          refine mm_getS dX11_year_98 fX11_52 sh_165 rfl gr_165_15 ?_
          refine mm_iload dX11_year_101 rfl ?_
          refine mm_aload_n dX11_year_103 rfl rfl ?_
          refine mm_bipush (x := 6) dX11_year_104 (by decide) ?_
          refine mm_cV (Y1 := YX11_draws) dX11_year_106 lX11_509 vX11_draws (mX11_draws (d + 2) _ (drN (yx x i)) 6 (by dsimp only; rw [mm_up_n (by decide), mm_up_e]) hd1 (by decide) (by decide)) sh_165 rfl rfl (by simp [Value.category]) ?_
          refine mm_iast (yc n x i) dX11_year_109 sh_180 rfl hcn12 ?_
          refine mm_iinc dX11_year_110 rfl rfl rfl ?_
          refine mm_goto 68 dX11_year_113 (by decide) ?_
          refine mm_lessE (ls' := [some (.ref 165), some (.int (nI m)), some (.int 1), some (.int (nI x)), some (.int (nI (i + 1))), none, none, none]) ⟨rfl, rfl, rfl, rfl, by rw [nI_succ]; rfl, trivial⟩ (mm_cast rfl rfl ?_ ih)
          dsimp only
          refine congrArg (fun J => ((J, h.2.1, h.2.2) : mm_H)) ?_
          funext c
          rw [mm_up_n (show 181 ≠ 166 by decide), F181]
          by_cases c1 : c = 180
          · subst c1; rw [mm_up_s, mm_up_n (by decide), mm_up_n (by decide), mm_up_n (by decide), F180, F180]; rfl
          · rw [mm_up_n c1]
            by_cases c2 : c = 166
            · subst c2; rw [mm_up_s, mm_up_n (by decide), mm_up_s, F166, F166]; funext j; by_cases cj : j = 6; subst cj; simp [upd, yx]; simp [upd, cj]
            · rw [mm_up_n c2]
              by_cases c3 : c = 181
              · subst c3; rw [mm_up_s, mm_up_n (by decide), F181, F181]; rfl
              · rw [mm_up_n c3, mm_up_n c2, Fo i c c2 c1 c3, Fo (i + 1) c c2 c1 c3]
    refine mm_aload_n dX11_year_0 rfl rfl ?_
    refine mm_getS dX11_year_1 fX11_9 sh_165 rfl gr_165_1 ?_
    refine mm_iconst (x := 0) dX11_year_4 (by decide) ?_
    refine mm_iald (0) dX11_year_5 sh_166 rfl (by decide) ?_
    refine mm_if_eq 33 dX11_year_6 (by decide) (fun c_6 => ?_) (fun c_6 => ?_)
    · exact absurd (nI_inj (a := n) (b := 0) (by omega) (by decide) (hn.symm.trans c_6)) (by omega)
    · refine mm_iload_n dX11_year_9 rfl rfl ?_
      refine mm_i2l dX11_year_10 rfl ?_
      refine mm_lconst (x := 1) dX11_year_11 (by decide) ?_
      refine mm_ldc2 dX11_year_12 kX11_507 ?_
      refine mm_cS (Y1 := YX11_in) dX11_year_15 lX11_171 sX11_in (mX11_in (d + 2) h _ _ _) rfl rfl (by simp [Value.category]) ?_
      refine mm_if_eq 33 dX11_year_18 (by decide) (fun c_18 => ?_) (fun c_18 => ?_)
      · have q1 := bI_e0.mp c_18
        exfalso; (try simp only [lg_lt, lg_ge, lg_gt, lg_le] at *); simp only [nI_toInt (show m < 2 ^ 31 by omega), Int32.lt_iff_toInt_lt, Int32.le_iff_toInt_le, Int64.lt_iff_toInt_lt, Int64.le_iff_toInt_le, ti_0, ti_1, ti_2, ti_3, ti_4, ti_5, ti_6, ti_10, ti_12, ti_200, ti_400, ti_500, ti_999, ti_2400, ti_9999, ti_m9999, ti_m20000, ti_m1, i64_toInt, li_0, li_1, li_2, li_3, li_4, li_5, li_10, li_12, li_15, li_48, li_57, li_200, li_500, li_999, li_2400, li_9999, li_m9999, li_11999] at *; omega
      · refine mm_iload_n dX11_year_21 rfl rfl ?_
        refine mm_i2l dX11_year_22 rfl ?_
        refine mm_lconst (x := 0) dX11_year_23 (by decide) ?_
        refine mm_ldc2 dX11_year_24 kX11_428 ?_
        refine mm_cS (Y1 := YX11_in) dX11_year_27 lX11_171 sX11_in (mX11_in (d + 2) h _ _ _) rfl rfl (by simp [Value.category]) ?_
        refine mm_if_ne 35 dX11_year_30 (by decide) (fun c_30 => ?_) (fun c_30 => ?_)
        · refine mm_aload_n dX11_year_35 rfl rfl ?_
          refine mm_getS dX11_year_36 fX11_9 sh_165 rfl gr_165_1 ?_
          refine mm_bipush (x := 6) dX11_year_39 (by decide) ?_
          refine mm_iald (6) dX11_year_41 sh_166 rfl (by decide) ?_
          refine mm_istore_n dX11_year_42 rfl (by decide) rfl ?_
          refine mm_aload_n dX11_year_43 rfl rfl ?_
          refine mm_getS dX11_year_44 fX11_52 sh_165 rfl gr_165_15 ?_
          refine mm_aload_n dX11_year_47 rfl rfl ?_
          refine mm_getS dX11_year_48 fX11_156 sh_165 rfl gr_165_62 ?_
          refine mm_cS (Y1 := YX11_lay) dX11_year_51 lX11_335 sX11_lay (mX11_lay (d + 2) h 180 212 12 12 sh_180 sh_212 (by decide) (Nat.le_refl _)) rfl rfl (by simp [Value.category]) ?_
          refine mm_aload_n dX11_year_54 rfl rfl ?_
          refine mm_getS dX11_year_55 fX11_55 sh_165 rfl gr_165_16 ?_
          refine mm_aload_n dX11_year_58 rfl rfl ?_
          refine mm_getS dX11_year_59 fX11_159 sh_165 rfl gr_165_63 ?_
          refine mm_cS (Y1 := YX11_lay) dX11_year_62 lX11_335 sX11_lay (mX11_lay (d + 2) _ 181 213 12 12 sh_181 sh_213 (by decide) (Nat.le_refl _)) rfl rfl (by simp [Value.category]) ?_
          refine mm_iconst (x := 0) dX11_year_65 (by decide) ?_
          refine mm_istore dX11_year_66 (by decide) rfl ?_
          refine mm_cast (by rw [hx]; rfl) rfl ?_ (K68 0 (Nat.zero_le _))
          rw [eF]
          dsimp only
          rw [show yf n (h.1 181) x 0 = h.1 181 from rfl, show yh n (h.1 180) x 0 = h.1 180 from rfl, show yx x 0 = x from rfl]
          refine congrArg (fun J => ((J, h.2.1, h.2.2) : mm_H)) ?_
          have q1 : mm_row (mm_row (mm_up J2 166 6 (nI x)) 181 (h.1 181)) 180 (h.1 180) = J2 := by
            rw [mm_up_self (show J2 166 6 = nI x by rw [s2 166 (by decide) (by decide)]; exact hx), show h.1 181 = J2 181 from (s2 181 (by decide) (by decide)).symm, mm_row_self, show h.1 180 = J2 180 from (s2 180 (by decide) (by decide)).symm, mm_row_self]
          rw [q1, eJ2, eJ1]
        · exact absurd c_30 (by decide)
  · dsimp only
    rw [eJ6, mm_up_n (by decide), eJ5, mm_row_n (by decide), eJ4, mm_row_s]
    simp only [sp_lay, if_pos hj]
    rw [Fo m 212 (by decide) (by decide) (by decide), eJ2, mm_row_n (by decide), eJ1, mm_row_s]
    simp only [sp_lay, if_pos hj]
  · dsimp only
    rw [eJ6, mm_up_n (by decide), eJ5, mm_row_s]
    simp only [sp_lay, if_pos hj]
    rw [eJ4, mm_row_n (by decide), Fo m 213 (by decide) (by decide) (by decide), eJ2, mm_row_s]
    simp only [sp_lay, if_pos hj]
    rw [eJ1, mm_row_n (by decide)]
  · dsimp only
    rw [eJ6, mm_up_s, eJ5, mm_row_n (by decide), eJ4, mm_row_n (by decide), F166]
    funext j
    by_cases cj : j = 6
    · subst cj; simp [upd, hx]
    · simp [upd, cj]
  · dsimp only
    rw [eJ6, mm_up_n h5, eJ5, mm_row_n h2, eJ4, mm_row_n h1, Fo m a h5 h1 h2, s2 a h3 h4]
set_option maxRecDepth 100000 in
set_option maxHeartbeats 4000000 in
theorem mX11_year_2 (d : Nat) (h : mm_H) (n x m : Nat) (hn : h.1 166 0 = nI n) (h12 : n ≤ 12) (hn0 : 0 < n) (hx : h.1 166 6 = nI x) (hx31 : x < 2 ^ 31) (hm : 1 ≤ m ∧ m ≤ 500) (ht : ∀ j, j < n → ¬ h.1 170 j ≤ 0) : ∃ g : mm_H, mm_M (d + 3) YX11_year [.ref 165, .int (nI m), .int 2] h (some (.int (yr2 (h.1 181) (h.1 170) n x m))) g ∧ g.2 = h.2 ∧ (∀ j, j < 12 → g.1 180 j = h.1 180 j) ∧ (∀ j, j < 12 → g.1 181 j = h.1 181 j) ∧ g.1 166 = h.1 166 ∧ (∀ a, a ≠ 180 → a ≠ 181 → a ≠ 212 → a ≠ 213 → a ≠ 166 → g.1 a = h.1 a) := by
  obtain ⟨J1, eJ1⟩ : ∃ J : Nat → Nat → Int32, J = mm_row h.1 212 (sp_lay (h.1 180) (h.1 212) 12) := ⟨_, rfl⟩
  obtain ⟨J2, eJ2⟩ : ∃ J : Nat → Nat → Int32, J = mm_row J1 213 (sp_lay (J1 181) (J1 213) 12) := ⟨_, rfl⟩
  obtain ⟨F, eF⟩ : ∃ F : Nat → Nat → Nat → Int32, F = fun i => mm_row (mm_row (mm_up J2 166 6 (nI (yx x i))) 181 (yf n (h.1 181) x i)) 180 (yh n (h.1 180) x i) := ⟨_, rfl⟩
  obtain ⟨J4, eJ4⟩ : ∃ J : Nat → Nat → Int32, J = mm_row (F m) 180 (sp_lay (F m 212) (F m 180) 12) := ⟨_, rfl⟩
  obtain ⟨J5, eJ5⟩ : ∃ J : Nat → Nat → Int32, J = mm_row J4 181 (sp_lay (J4 213) (J4 181) 12) := ⟨_, rfl⟩
  obtain ⟨J6, eJ6⟩ : ∃ J : Nat → Nat → Int32, J = mm_up J5 166 6 (nI x) := ⟨_, rfl⟩
  have s2 : ∀ c, c ≠ 212 → c ≠ 213 → J2 c = h.1 c := fun c h1 h2 => by rw [eJ2, mm_row_n h2, eJ1, mm_row_n h1]
  have F166 : ∀ i, F i 166 = upd (h.1 166) 6 (nI (yx x i)) := fun i => by rw [eF]; dsimp only; rw [mm_row_n (by decide), mm_row_n (by decide), mm_up_s, s2 166 (by decide) (by decide)]
  have F181 : ∀ i, F i 181 = yf n (h.1 181) x i := fun i => by rw [eF]; dsimp only; rw [mm_row_n (by decide), mm_row_s]
  have F180 : ∀ i, F i 180 = yh n (h.1 180) x i := fun i => by rw [eF]; dsimp only; rw [mm_row_s]
  have Fo : ∀ i c, c ≠ 166 → c ≠ 180 → c ≠ 181 → F i c = J2 c := fun i c h1 h2 h3 => by rw [eF]; dsimp only; rw [mm_row_n h2, mm_row_n h3, mm_up_n h1]
  have Fn : ∀ i, F i 166 0 = nI n := fun i => by rw [F166]; simp only [upd]; exact hn
  have Fx : ∀ i, F i 166 6 = nI (yx x i) := fun i => by rw [F166]; simp [upd]
  refine ⟨(J6, h.2.1, h.2.2), ?_, rfl, fun j hj => ?_, fun j hj => ?_, ?_, fun a h1 h2 h3 h4 h5 => ?_⟩
  · refine mm_M.of [some (.ref 165), some (.int (nI m)), some (.int 2), none, none, none, none, none] rfl rfl (Nat.le_of_ble_eq_true rfl) ?_
    have K213 : mm_R (d + 3) YX11_year 213 [some (.ref 165), some (.int (nI m)), some (.int 2), some (.int (nI x)), some (.int (sp_rich (sp_wheld (h.1 169) (yh n (h.1 180) x m) n) 5)), some (.int (sp_cracks (yf n (h.1 181) x m) (h.1 170) n)), some (.int ((sp_wheld (h.1 169) (yh n (h.1 180) x m) n) (sp_rich (sp_wheld (h.1 169) (yh n (h.1 180) x m) n) 5))), none] [] (F m, h.2.1, h.2.2) (some (.int (yr2 (h.1 181) (h.1 170) n x m))) (J6, h.2.1, h.2.2) := by
      refine mm_aload_n dX11_year_213 rfl rfl ?_
      refine mm_getS dX11_year_214 fX11_156 sh_165 rfl gr_165_62 ?_
      refine mm_aload_n dX11_year_217 rfl rfl ?_
      refine mm_getS dX11_year_218 fX11_52 sh_165 rfl gr_165_15 ?_
      refine mm_cS (Y1 := YX11_lay) dX11_year_221 lX11_335 sX11_lay (mX11_lay (d + 2) (F m, h.2.1, h.2.2) 212 180 12 12 sh_212 sh_180 (by decide) (Nat.le_refl _)) rfl rfl (by simp [Value.category]) ?_
      refine mm_aload_n dX11_year_224 rfl rfl ?_
      refine mm_getS dX11_year_225 fX11_159 sh_165 rfl gr_165_63 ?_
      refine mm_aload_n dX11_year_228 rfl rfl ?_
      refine mm_getS dX11_year_229 fX11_55 sh_165 rfl gr_165_16 ?_
      refine mm_cS (Y1 := YX11_lay) dX11_year_232 lX11_335 sX11_lay (mX11_lay (d + 2) _ 213 181 12 12 sh_213 sh_181 (by decide) (Nat.le_refl _)) rfl rfl (by simp [Value.category]) ?_
      refine mm_aload_n dX11_year_235 rfl rfl ?_
      refine mm_getS dX11_year_236 fX11_9 sh_165 rfl gr_165_1 ?_
      refine mm_bipush (x := 6) dX11_year_239 (by decide) ?_
      refine mm_iload_n dX11_year_241 rfl rfl ?_
      refine mm_iast (6) dX11_year_242 sh_166 rfl (by decide) ?_
      refine mm_iload_n dX11_year_243 rfl rfl ?_
      refine mm_if_ne 252 dX11_year_244 (by decide) (fun c_244 => ?_) (fun c_244 => ?_)
      · refine mm_iload_n dX11_year_252 rfl rfl ?_
        refine mm_iconst (x := 1) dX11_year_253 (by decide) ?_
        refine mm_icmp_ne 262 dX11_year_254 (by decide) (fun c_254 => ?_) (fun c_254 => ?_)
        · refine mm_iload dX11_year_262 rfl ?_
          exact mm_iretE dX11_year_264 rfl rfl (by rw [eJ6, eJ5, eJ4])
        · exact absurd c_254 (by decide)
      · exact absurd c_244 (by decide)
    have K185 : ∀ i, i ≤ n → mm_R (d + 3) YX11_year 185 [some (.ref 165), some (.int (nI m)), some (.int 2), some (.int (nI x)), some (.int (sp_rich (sp_wheld (h.1 169) (yh n (h.1 180) x m) n) 5)), some (.int (sp_cracks (yf n (h.1 181) x m) (h.1 170) i)), some (.int ((sp_wheld (h.1 169) (yh n (h.1 180) x m) n) (sp_rich (sp_wheld (h.1 169) (yh n (h.1 180) x m) n) 5))), some (.int (nI i))] [] (F m, h.2.1, h.2.2) (some (.int (yr2 (h.1 181) (h.1 170) n x m))) (J6, h.2.1, h.2.2) := by
      refine mm_down n ?_ (fun i hi ih => ?_)
      · refine mm_iload dX11_year_185 rfl ?_
        refine mm_aload_n dX11_year_187 rfl rfl ?_
        refine mm_getS dX11_year_188 fX11_9 sh_165 rfl gr_165_1 ?_
        refine mm_iconst (x := 0) dX11_year_191 (by decide) ?_
        refine mm_iald (0) dX11_year_192 sh_166 rfl (by decide) ?_
        refine mm_icmp_ge 213 dX11_year_193 (by decide) (fun c_193 => ?_) (fun c_193 => ?_)
        · refine mm_lessE ?_ K213
          exact ⟨rfl, rfl, rfl, rfl, rfl, rfl, rfl, trivial⟩
        · exact absurd (by dsimp only; rw [Fn]; exact nI_le (Nat.le_refl _) (by omega)) c_193
      · have t0 : F m 170 i = h.1 170 i := by rw [Fo m 170 (by decide) (by decide) (by decide), s2 170 (by decide) (by decide)]
        refine mm_iload dX11_year_185 rfl ?_
        refine mm_aload_n dX11_year_187 rfl rfl ?_
        refine mm_getS dX11_year_188 fX11_9 sh_165 rfl gr_165_1 ?_
        refine mm_iconst (x := 0) dX11_year_191 (by decide) ?_
        refine mm_iald (0) dX11_year_192 sh_166 rfl (by decide) ?_
        refine mm_icmp_ge 213 dX11_year_193 (by decide) (fun c_193 => ?_) (fun c_193 => ?_)
        · exact absurd (by dsimp only at c_193; rw [Fn] at c_193; exact c_193) (nI_ge hi (by omega))
        · refine mm_iload dX11_year_196 rfl ?_
          refine mm_aload_n dX11_year_198 rfl rfl ?_
          refine mm_iload dX11_year_199 rfl ?_
          refine mm_cV (Y1 := YX11_cracks) dX11_year_201 lX11_361 vX11_cracks (mX11_cracks (d + 2) (F m, h.2.1, h.2.2) i (by omega) (by dsimp only; rw [t0]; exact fun z => ht i hi (by rw [z]; decide))) sh_165 rfl rfl (by simp [Value.category]) ?_
          refine mm_iadd dX11_year_204 ?_
          refine mm_istore dX11_year_205 (by decide) rfl ?_
          refine mm_iinc dX11_year_207 rfl rfl rfl ?_
          refine mm_goto 185 dX11_year_210 (by decide) ?_
          exact mm_cast (by rw [nI_succ]; simp only [sp_cracks, sp_crack]; rw [if_neg (ht i hi), F181, t0]; rfl) rfl rfl ih
    have ew : ∀ p, sp_worth (F m 169) (sp_held (F m 180) p n) n = (sp_wheld (h.1 169) (yh n (h.1 180) x m) n) p := fun p => by rw [F180, Fo m 169 (by decide) (by decide) (by decide), s2 169 (by decide) (by decide)]; rfl
    have K125 : ∀ i, i ≤ 5 → mm_R (d + 3) YX11_year 125 [some (.ref 165), some (.int (nI m)), some (.int 2), some (.int (nI x)), some (.int (sp_rich (sp_wheld (h.1 169) (yh n (h.1 180) x m) n) i)), some (.int 0), some (.int (nI (i + 1))), none] [] (F m, h.2.1, h.2.2) (some (.int (yr2 (h.1 181) (h.1 170) n x m))) (J6, h.2.1, h.2.2) := by
      refine mm_down 5 ?_ (fun i hi ih => ?_)
      · refine mm_iload dX11_year_125 rfl ?_
        refine mm_bipush (x := 6) dX11_year_127 (by decide) ?_
        refine mm_icmp_ge 170 dX11_year_129 (by decide) (fun c_129 => ?_) (fun c_129 => ?_)
        · refine mm_aload_n dX11_year_170 rfl rfl ?_
          refine mm_aload_n dX11_year_171 rfl rfl ?_
          refine mm_iload dX11_year_172 rfl ?_
          refine mm_cV (Y1 := YX11_heldBy) dX11_year_174 lX11_459 vX11_heldBy (mX11_heldBy (d + 2) (F m, h.2.1, h.2.2) n (Fn m) h12 _) sh_165 rfl rfl (by simp [Value.category]) ?_
          refine mm_cV (Y1 := YX11_worthOf) dX11_year_177 lX11_446 vX11_worthOf (mX11_worthOf (d + 1) (F m, h.2.1, h.2.2) n (Fn m) h12 _) sh_165 rfl rfl (by simp [Value.category]) ?_
          refine mm_istore dX11_year_180 (by decide) rfl ?_
          refine mm_iconst (x := 0) dX11_year_182 (by decide) ?_
          refine mm_istore dX11_year_183 (by decide) rfl ?_
          exact mm_cast (by rw [ew]; rfl) rfl rfl (K185 0 (Nat.zero_le _))
        · exact absurd (by decide) c_129
      · refine mm_iload dX11_year_125 rfl ?_
        refine mm_bipush (x := 6) dX11_year_127 (by decide) ?_
        refine mm_icmp_ge 170 dX11_year_129 (by decide) (fun c_129 => ?_) (fun c_129 => ?_)
        · exact absurd c_129 (nI_ge (a := i + 1) (b := 6) (by omega) (by omega))
        · refine mm_aload_n dX11_year_132 rfl rfl ?_
          refine mm_aload_n dX11_year_133 rfl rfl ?_
          refine mm_iload dX11_year_134 rfl ?_
          refine mm_cV (Y1 := YX11_heldBy) dX11_year_136 lX11_459 vX11_heldBy (mX11_heldBy (d + 2) (F m, h.2.1, h.2.2) n (Fn m) h12 _) sh_165 rfl rfl (by simp [Value.category]) ?_
          refine mm_cV (Y1 := YX11_worthOf) dX11_year_139 lX11_446 vX11_worthOf (mX11_worthOf (d + 1) (F m, h.2.1, h.2.2) n (Fn m) h12 _) sh_165 rfl rfl (by simp [Value.category]) ?_
          refine mm_aload_n dX11_year_142 rfl rfl ?_
          refine mm_aload_n dX11_year_143 rfl rfl ?_
          refine mm_iload dX11_year_144 rfl ?_
          refine mm_cV (Y1 := YX11_heldBy) dX11_year_146 lX11_459 vX11_heldBy (mX11_heldBy (d + 2) (F m, h.2.1, h.2.2) n (Fn m) h12 _) sh_165 rfl rfl (by simp [Value.category]) ?_
          refine mm_cV (Y1 := YX11_worthOf) dX11_year_149 lX11_446 vX11_worthOf (mX11_worthOf (d + 1) (F m, h.2.1, h.2.2) n (Fn m) h12 _) sh_165 rfl rfl (by simp [Value.category]) ?_
          refine mm_icmp_le 160 dX11_year_152 (by decide) (fun c_152 => ?_) (fun c_152 => ?_)
          · refine mm_iload dX11_year_160 rfl ?_
            refine mm_istore dX11_year_162 (by decide) rfl ?_
            refine mm_iinc dX11_year_164 rfl rfl rfl ?_
            refine mm_goto 125 dX11_year_167 (by decide) ?_
            dsimp only at c_152
            rw [ew, ew] at c_152
            exact mm_cast (by rw [nI_succ (i + 1)]; simp only [sp_rich]; first | rw [if_pos c_152]; rfl | rw [if_neg c_152]; rfl) rfl rfl ih
          · refine mm_iload dX11_year_155 rfl ?_
            refine mm_goto 162 dX11_year_157 (by decide) ?_
            refine mm_istore dX11_year_162 (by decide) rfl ?_
            refine mm_iinc dX11_year_164 rfl rfl rfl ?_
            refine mm_goto 125 dX11_year_167 (by decide) ?_
            dsimp only at c_152
            rw [ew, ew] at c_152
            exact mm_cast (by rw [nI_succ (i + 1)]; simp only [sp_rich]; first | rw [if_pos c_152]; rfl | rw [if_neg c_152]; rfl) rfl rfl ih
    have K68 : ∀ i, i ≤ m → mm_R (d + 3) YX11_year 68 [some (.ref 165), some (.int (nI m)), some (.int 2), some (.int (nI x)), some (.int (nI i)), none, none, none] [] (F i, h.2.1, h.2.2) (some (.int (yr2 (h.1 181) (h.1 170) n x m))) (J6, h.2.1, h.2.2) := by
      refine mm_down m ?_ (fun i hi ih => ?_)
      · refine mm_iload dX11_year_68 rfl ?_
        refine mm_iload_n dX11_year_70 rfl rfl ?_
        refine mm_icmp_ge 116 dX11_year_71 (by decide) (fun c_71 => ?_) (fun c_71 => ?_)
        · refine mm_iconst (x := 0) dX11_year_116 (by decide) ?_
          refine mm_istore dX11_year_117 (by decide) rfl ?_
          refine mm_iconst (x := 0) dX11_year_119 (by decide) ?_
          refine mm_istore dX11_year_120 (by decide) rfl ?_
          refine mm_iconst (x := 1) dX11_year_122 (by decide) ?_
          refine mm_istore dX11_year_123 (by decide) rfl ?_
          exact K125 0 (Nat.zero_le _)
        · exact absurd (nI_le (Nat.le_refl _) (by omega)) c_71
      · have hyx := yx_lt hx31 i
        have hd1 := drN_lt (yx x i)
        have hcn := yc_lt (n := n) (x0 := x) (i := i) hn0
        have hcn12 : yc n x i < 12 := by omega
        refine mm_iload dX11_year_68 rfl ?_
        refine mm_iload_n dX11_year_70 rfl rfl ?_
        refine mm_icmp_ge 116 dX11_year_71 (by decide) (fun c_71 => ?_) (fun c_71 => ?_)
        · exact absurd c_71 (nI_ge hi (by omega))
        · refine mm_aload_n dX11_year_74 rfl rfl ?_
          refine mm_aload_n dX11_year_75 rfl rfl ?_
          refine mm_getS dX11_year_76 fX11_9 sh_165 rfl gr_165_1 ?_
          refine mm_iconst (x := 0) dX11_year_79 (by decide) ?_
          refine mm_iald (0) dX11_year_80 sh_166 rfl (by decide) ?_
          refine mm_cast (st' := [.int (nI n), .ref 165]) rfl (by dsimp only; rw [Fn]) rfl ?_
          refine mm_cV (Y1 := YX11_draws) dX11_year_81 lX11_509 vX11_draws (mX11_draws (d + 2) (F i, h.2.1, h.2.2) (yx x i) n (Fx i) hyx hn0 (by omega)) sh_165 rfl rfl (by simp [Value.category]) ?_
          refine mm_istore dX11_year_84 (by decide) rfl ?_
          refine mm_aload_n dX11_year_86 rfl rfl ?_
          refine mm_getS dX11_year_87 fX11_55 sh_165 rfl gr_165_16 ?_
          refine mm_iload dX11_year_90 rfl ?_
          refine mm_dup2 dX11_year_92 rfl rfl ?_
          refine mm_iald (yc n x i) dX11_year_93 sh_181 rfl hcn12 ?_
          refine mm_iconst (x := 1) dX11_year_94 (by decide) ?_
          refine mm_iadd dX11_year_95 ?_
          refine mm_iast (yc n x i) dX11_year_96 sh_181 rfl hcn12 ?_
          refine mm_aload_n dX11_year_97 rfl rfl ?_
          refine mm_getS dX11_year_98 fX11_52 sh_165 rfl gr_165_15 ?_
          refine mm_iload dX11_year_101 rfl ?_
          refine mm_aload_n dX11_year_103 rfl rfl ?_
          refine mm_bipush (x := 6) dX11_year_104 (by decide) ?_
          refine mm_cV (Y1 := YX11_draws) dX11_year_106 lX11_509 vX11_draws (mX11_draws (d + 2) _ (drN (yx x i)) 6 (by dsimp only; rw [mm_up_n (by decide), mm_up_e]) hd1 (by decide) (by decide)) sh_165 rfl rfl (by simp [Value.category]) ?_
          refine mm_iast (yc n x i) dX11_year_109 sh_180 rfl hcn12 ?_
          refine mm_iinc dX11_year_110 rfl rfl rfl ?_
          refine mm_goto 68 dX11_year_113 (by decide) ?_
          refine mm_lessE (ls' := [some (.ref 165), some (.int (nI m)), some (.int 2), some (.int (nI x)), some (.int (nI (i + 1))), none, none, none]) ⟨rfl, rfl, rfl, rfl, by rw [nI_succ]; rfl, trivial⟩ (mm_cast rfl rfl ?_ ih)
          dsimp only
          refine congrArg (fun J => ((J, h.2.1, h.2.2) : mm_H)) ?_
          funext c
          rw [mm_up_n (show 181 ≠ 166 by decide), F181]
          by_cases c1 : c = 180
          · subst c1; rw [mm_up_s, mm_up_n (by decide), mm_up_n (by decide), mm_up_n (by decide), F180, F180]; rfl
          · rw [mm_up_n c1]
            by_cases c2 : c = 166
            · subst c2; rw [mm_up_s, mm_up_n (by decide), mm_up_s, F166, F166]; funext j; by_cases cj : j = 6; subst cj; simp [upd, yx]; simp [upd, cj]
            · rw [mm_up_n c2]
              by_cases c3 : c = 181
              · subst c3; rw [mm_up_s, mm_up_n (by decide), F181, F181]; rfl
              · rw [mm_up_n c3, mm_up_n c2, Fo i c c2 c1 c3, Fo (i + 1) c c2 c1 c3]
    refine mm_aload_n dX11_year_0 rfl rfl ?_
    refine mm_getS dX11_year_1 fX11_9 sh_165 rfl gr_165_1 ?_
    refine mm_iconst (x := 0) dX11_year_4 (by decide) ?_
    refine mm_iald (0) dX11_year_5 sh_166 rfl (by decide) ?_
    refine mm_if_eq 33 dX11_year_6 (by decide) (fun c_6 => ?_) (fun c_6 => ?_)
    · exact absurd (nI_inj (a := n) (b := 0) (by omega) (by decide) (hn.symm.trans c_6)) (by omega)
    · refine mm_iload_n dX11_year_9 rfl rfl ?_
      refine mm_i2l dX11_year_10 rfl ?_
      refine mm_lconst (x := 1) dX11_year_11 (by decide) ?_
      refine mm_ldc2 dX11_year_12 kX11_507 ?_
      refine mm_cS (Y1 := YX11_in) dX11_year_15 lX11_171 sX11_in (mX11_in (d + 2) h _ _ _) rfl rfl (by simp [Value.category]) ?_
      refine mm_if_eq 33 dX11_year_18 (by decide) (fun c_18 => ?_) (fun c_18 => ?_)
      · have q1 := bI_e0.mp c_18
        exfalso; (try simp only [lg_lt, lg_ge, lg_gt, lg_le] at *); simp only [nI_toInt (show m < 2 ^ 31 by omega), Int32.lt_iff_toInt_lt, Int32.le_iff_toInt_le, Int64.lt_iff_toInt_lt, Int64.le_iff_toInt_le, ti_0, ti_1, ti_2, ti_3, ti_4, ti_5, ti_6, ti_10, ti_12, ti_200, ti_400, ti_500, ti_999, ti_2400, ti_9999, ti_m9999, ti_m20000, ti_m1, i64_toInt, li_0, li_1, li_2, li_3, li_4, li_5, li_10, li_12, li_15, li_48, li_57, li_200, li_500, li_999, li_2400, li_9999, li_m9999, li_11999] at *; omega
      · refine mm_iload_n dX11_year_21 rfl rfl ?_
        refine mm_i2l dX11_year_22 rfl ?_
        refine mm_lconst (x := 0) dX11_year_23 (by decide) ?_
        refine mm_ldc2 dX11_year_24 kX11_428 ?_
        refine mm_cS (Y1 := YX11_in) dX11_year_27 lX11_171 sX11_in (mX11_in (d + 2) h _ _ _) rfl rfl (by simp [Value.category]) ?_
        refine mm_if_ne 35 dX11_year_30 (by decide) (fun c_30 => ?_) (fun c_30 => ?_)
        · refine mm_aload_n dX11_year_35 rfl rfl ?_
          refine mm_getS dX11_year_36 fX11_9 sh_165 rfl gr_165_1 ?_
          refine mm_bipush (x := 6) dX11_year_39 (by decide) ?_
          refine mm_iald (6) dX11_year_41 sh_166 rfl (by decide) ?_
          refine mm_istore_n dX11_year_42 rfl (by decide) rfl ?_
          refine mm_aload_n dX11_year_43 rfl rfl ?_
          refine mm_getS dX11_year_44 fX11_52 sh_165 rfl gr_165_15 ?_
          refine mm_aload_n dX11_year_47 rfl rfl ?_
          refine mm_getS dX11_year_48 fX11_156 sh_165 rfl gr_165_62 ?_
          refine mm_cS (Y1 := YX11_lay) dX11_year_51 lX11_335 sX11_lay (mX11_lay (d + 2) h 180 212 12 12 sh_180 sh_212 (by decide) (Nat.le_refl _)) rfl rfl (by simp [Value.category]) ?_
          refine mm_aload_n dX11_year_54 rfl rfl ?_
          refine mm_getS dX11_year_55 fX11_55 sh_165 rfl gr_165_16 ?_
          refine mm_aload_n dX11_year_58 rfl rfl ?_
          refine mm_getS dX11_year_59 fX11_159 sh_165 rfl gr_165_63 ?_
          refine mm_cS (Y1 := YX11_lay) dX11_year_62 lX11_335 sX11_lay (mX11_lay (d + 2) _ 181 213 12 12 sh_181 sh_213 (by decide) (Nat.le_refl _)) rfl rfl (by simp [Value.category]) ?_
          refine mm_iconst (x := 0) dX11_year_65 (by decide) ?_
          refine mm_istore dX11_year_66 (by decide) rfl ?_
          refine mm_cast (by rw [hx]; rfl) rfl ?_ (K68 0 (Nat.zero_le _))
          rw [eF]
          dsimp only
          rw [show yf n (h.1 181) x 0 = h.1 181 from rfl, show yh n (h.1 180) x 0 = h.1 180 from rfl, show yx x 0 = x from rfl]
          refine congrArg (fun J => ((J, h.2.1, h.2.2) : mm_H)) ?_
          have q1 : mm_row (mm_row (mm_up J2 166 6 (nI x)) 181 (h.1 181)) 180 (h.1 180) = J2 := by
            rw [mm_up_self (show J2 166 6 = nI x by rw [s2 166 (by decide) (by decide)]; exact hx), show h.1 181 = J2 181 from (s2 181 (by decide) (by decide)).symm, mm_row_self, show h.1 180 = J2 180 from (s2 180 (by decide) (by decide)).symm, mm_row_self]
          rw [q1, eJ2, eJ1]
        · exact absurd c_30 (by decide)
  · dsimp only
    rw [eJ6, mm_up_n (by decide), eJ5, mm_row_n (by decide), eJ4, mm_row_s]
    simp only [sp_lay, if_pos hj]
    rw [Fo m 212 (by decide) (by decide) (by decide), eJ2, mm_row_n (by decide), eJ1, mm_row_s]
    simp only [sp_lay, if_pos hj]
  · dsimp only
    rw [eJ6, mm_up_n (by decide), eJ5, mm_row_s]
    simp only [sp_lay, if_pos hj]
    rw [eJ4, mm_row_n (by decide), Fo m 213 (by decide) (by decide) (by decide), eJ2, mm_row_s]
    simp only [sp_lay, if_pos hj]
    rw [eJ1, mm_row_n (by decide)]
  · dsimp only
    rw [eJ6, mm_up_s, eJ5, mm_row_n (by decide), eJ4, mm_row_n (by decide), F166]
    funext j
    by_cases cj : j = 6
    · subst cj; simp [upd, hx]
    · simp [upd, cj]
  · dsimp only
    rw [eJ6, mm_up_n h5, eJ5, mm_row_n h2, eJ4, mm_row_n h1, Fo m a h5 h1 h2, s2 a h3 h4]
