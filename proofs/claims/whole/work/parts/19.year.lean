/-! year, of the class and of the reference. -/
/-- the next number drawn -/
def drN (x : Nat) : Nat := (x * 1103515245 + 12345) % 2147483648
theorem drN_lt (x : Nat) : drN x < 2 ^ 31 := Nat.mod_lt _ (by decide)
theorem drN_l {x : Nat} (hx : x < 2 ^ 31) : ((nI x).toInt64 * 1103515245 + 12345 - ((nI x).toInt64 * 1103515245 + 12345) / 2147483648 * 2147483648).toInt32 = nI (drN x) := by
  have e1 : (nI x).toInt64 = lN x := nI_l hx
  have e2 : lN x * 1103515245 = lN (x * 1103515245) := lN_mul x 1103515245
  have e3 : lN (x * 1103515245) + 12345 = lN (x * 1103515245 + 12345) := lN_add (x * 1103515245) 12345
  have e4 : lN (x * 1103515245 + 12345) - lN (x * 1103515245 + 12345) / 2147483648 * 2147483648 = lN ((x * 1103515245 + 12345) % 2147483648) := pk_lRem (a := x * 1103515245 + 12345) (b := 2147483648) (by omega) (by decide) (by decide)
  rw [e1, e2, e3, e4, lN_i]
  rfl
theorem dv {x n : Nat} (hx : x < 2 ^ 31) (h0 : 0 < n) (hn : n < 2 ^ 31) : nI x / 65536 - nI x / 65536 / nI n * nI n = nI (x / 65536 % n) := by
  have e1 : nI x / 65536 = nI (x / 65536) := pk_div (a := x) (d := 65536) hx (by decide) (by decide)
  rw [e1]
  exact pk_rem (a := x / 65536) (d := n) (by omega) h0 hn
def yx (x0 : Nat) : Nat → Nat
  | 0 => x0
  | i + 1 => drN (drN (yx x0 i))
def yc (n x0 i : Nat) : Nat := drN (yx x0 i) / 65536 % n
def yp (x0 i : Nat) : Nat := drN (drN (yx x0 i)) / 65536 % 6
def yf (n : Nat) (f : Nat → Int32) (x0 : Nat) : Nat → (Nat → Int32)
  | 0 => f
  | i + 1 => upd (yf n f x0 i) (yc n x0 i) (yf n f x0 i (yc n x0 i) + 1)
def yh (n : Nat) (f : Nat → Int32) (x0 : Nat) : Nat → (Nat → Int32)
  | 0 => f
  | i + 1 => upd (yh n f x0 i) (yc n x0 i) (nI (yp x0 i))
theorem yx_lt {x0 : Nat} (h : x0 < 2 ^ 31) (i : Nat) : yx x0 i < 2 ^ 31 := by
  cases i with
  | zero => exact h
  | succ i => exact drN_lt _
theorem yc_lt {n x0 i : Nat} (h : 0 < n) : yc n x0 i < n := Nat.mod_lt _ h
theorem bit_p2 {c j : Nat} (hc : c < 12) (hj : j < 12) : sp_bit (nI (2 ^ c)) j = if j = c then 1 else 0 := by
  have : ∀ c, c < 12 → ∀ j, j < 12 → sp_bit (nI (2 ^ c)) j = if j = c then 1 else 0 := by decide +kernel
  exact this c hc j hj
theorem drop_p2 (f : Nat → Int32) {n c : Nat} (hn : n ≤ 12) (hc : c < n) : sp_drop f (nI (2 ^ c)) n = upd f c (f c + 1) := by
  funext j
  by_cases hj : j < n
  · simp only [sp_drop, if_pos hj, upd]
    rw [bit_p2 (by omega) (by omega)]
    by_cases e : j = c
    · subst e; simp
    · simp [e]
  · have e : ¬ j = c := by omega
    simp only [sp_drop, if_neg hj, upd, if_neg e]
theorem hand_p2 (f : Nat → Int32) {n c : Nat} (hn : n ≤ 12) (hc : c < n) (p : Int32) : sp_hand f (nI (2 ^ c)) p n = upd f c p := by
  funext j
  by_cases hj : j < n
  · by_cases e : j = c
    · subst e
      have : sp_bit (nI (2 ^ j)) j = 1 := by rw [bit_p2 (by omega) (by omega), if_pos rfl]
      simp [sp_hand, upd, hj, this]
    · have : ¬ sp_bit (nI (2 ^ c)) j = 1 := by rw [bit_p2 (by omega) (by omega), if_neg e]; decide
      simp [sp_hand, upd, e, this]
  · have e : ¬ j = c := by omega
    simp [sp_hand, upd, hj, e]
theorem sp_worth_c {f g : Nat → Int32} {s : Int32} {n : Nat} (h : ∀ j, j < n → f j = g j) : sp_worth f s n = sp_worth g s n := by
  induction n with
  | zero => rfl
  | succ i ih => simp only [sp_worth]; rw [ih (fun j hj => h j (by omega)), h i (by omega)]
theorem sp_held_c {f g : Nat → Int32} {p : Int32} {n : Nat} (h : ∀ j, j < n → f j = g j) : sp_held f p n = sp_held g p n := by
  induction n with
  | zero => rfl
  | succ i ih => simp only [sp_held]; rw [ih (fun j hj => h j (by omega)), h i (by omega)]
theorem sp_wheld_c {w w' f g : Nat → Int32} {p : Int32} {n : Nat} (h1 : ∀ j, j < n → w j = w' j) (h : ∀ j, j < n → f j = g j) : sp_wheld w f n p = sp_wheld w' g n p := by
  unfold sp_wheld
  rw [sp_held_c h, sp_worth_c h1]
theorem sp_rich_c {g k : Int32 → Int32} (h : ∀ p, g p = k p) (n : Nat) : sp_rich g n = sp_rich k n := by
  have : g = k := funext h
  rw [this]
theorem sp_cracks_c {f g t u : Nat → Int32} {n : Nat} (h : ∀ j, j < n → f j = g j) (h2 : ∀ j, j < n → t j = u j) : sp_cracks f t n = sp_cracks g u n := by
  induction n with
  | zero => rfl
  | succ i ih => simp only [sp_cracks, sp_crack]; rw [ih (fun j hj => h j (by omega)) (fun j hj => h2 j (by omega)), h i (by omega), h2 i (by omega)]
theorem yf_c {n x0 : Nat} {f g : Nat → Int32} (hn : 0 < n) (h : ∀ j, j < n → f j = g j) (i : Nat) : ∀ j, j < n → yf n f x0 i j = yf n g x0 i j := by
  induction i with
  | zero => exact h
  | succ i ih =>
    intro j hj
    simp only [yf, upd]
    by_cases e : j = yc n x0 i
    · rw [if_pos e, if_pos e, ih _ (yc_lt hn)]
    · rw [if_neg e, if_neg e, ih j hj]
theorem yh_c {n x0 : Nat} {f g : Nat → Int32} (h : ∀ j, j < n → f j = g j) (i : Nat) : ∀ j, j < n → yh n f x0 i j = yh n g x0 i j := by
  induction i with
  | zero => exact h
  | succ i ih =>
    intro j hj
    simp only [yh, upd]
    by_cases e : j = yc n x0 i
    · rw [if_pos e, if_pos e]
    · rw [if_neg e, if_neg e, ih j hj]
theorem yf_o {n x0 : Nat} {f : Nat → Int32} (hn : 0 < n) (i : Nat) : ∀ j, n ≤ j → yf n f x0 i j = f j := by
  induction i with
  | zero => intro j _; rfl
  | succ i ih =>
    intro j hj
    have e : ¬ j = yc n x0 i := by have := yc_lt (x0 := x0) (i := i) hn; omega
    simp only [yf, upd, if_neg e]
    exact ih j hj
theorem yh_o {n x0 : Nat} {f : Nat → Int32} (hn : 0 < n) (i : Nat) : ∀ j, n ≤ j → yh n f x0 i j = f j := by
  induction i with
  | zero => intro j _; rfl
  | succ i ih =>
    intro j hj
    have e : ¬ j = yc n x0 i := by have := yc_lt (x0 := x0) (i := i) hn; omega
    simp only [yh, upd, if_neg e]
    exact ih j hj
/-- what a year answers: who, how much, cracks -/
def yr0 (w ho : Nat → Int32) (n x0 m : Nat) : Int32 := sp_rich (sp_wheld w (yh n ho x0 m) n) 5
def yr1 (w ho : Nat → Int32) (n x0 m : Nat) : Int32 := sp_wheld w (yh n ho x0 m) n (yr0 w ho n x0 m)
def yr2 (fa t : Nat → Int32) (n x0 m : Nat) : Int32 := sp_cracks (yf n fa x0 m) t n
set_option maxRecDepth 100000 in
set_option maxHeartbeats 4000000 in
theorem mX10_drawn (d : Nat) (h : mm_H) (x : Nat) (hx : x < 2 ^ 31) : mm_M d YX10_drawn [.int (nI x)] h (some (.int (nI (drN x)))) h := by
  refine mm_M.of [some (.int (nI x))] rfl rfl (Nat.le_of_ble_eq_true rfl) ?_
  refine mm_iload_n dX10_drawn_0 rfl rfl ?_
  refine mm_i2l dX10_drawn_1 rfl ?_
  refine mm_ldc2 dX10_drawn_2 kX10_313 ?_
  refine mm_lmul dX10_drawn_5 ?_
  refine mm_ldc2 dX10_drawn_6 kX10_315 ?_
  refine mm_ladd dX10_drawn_9 ?_
  refine mm_ldc2 dX10_drawn_10 kX10_317 ?_
  refine mm_lrem dX10_drawn_13 (by decide) ?_
  refine mm_l2i dX10_drawn_14 rfl ?_
  exact mm_iretE dX10_drawn_15 rfl (drN_l hx) rfl
set_option maxRecDepth 100000 in
set_option maxHeartbeats 4000000 in
theorem mX10_year_f (d : Nat) (h : mm_H) (n : Nat) (hn : h.1 65 0 = nI n) (h12 : n ≤ 12) (m w : Int32) (hc : ¬ ((0 < n) ∧ (1 ≤ m.toInt ∧ m.toInt ≤ 500) ∧ (0 ≤ w.toInt ∧ w.toInt ≤ 2))) : mm_M (d + 3) YX10_year [.ref 0, .int m, .int w] h (some (.int (-1))) h := by
  refine mm_M.of [some (.ref 0), some (.int m), some (.int w), none, none, none, none] rfl rfl (Nat.le_of_ble_eq_true rfl) ?_
  refine mm_aload_n dX10_year_0 rfl rfl ?_
  refine mm_getS dX10_year_1 fX10_45 sh_0 rfl gr_0_7 ?_
  refine mm_getS dX10_year_4 fX10_63 sh_61 rfl gr_61_0 ?_
  refine mm_getI dX10_year_7 fX10_117 sh_65 rfl ?_
  refine mm_istore_n dX10_year_10 rfl (by decide) rfl ?_
  refine mm_iload_n dX10_year_11 rfl rfl ?_
  refine mm_iconst (x := 1) dX10_year_12 (by decide) ?_
  refine mm_icmp_lt 37 dX10_year_13 (by decide) (fun c_13 => ?_) (fun c_13 => ?_)
  · refine mm_iconst (x := (-1)) dX10_year_37 (by decide) ?_
    exact mm_iretE dX10_year_38 rfl rfl rfl
  · refine mm_iload_n dX10_year_16 rfl rfl ?_
    refine mm_iconst (x := 1) dX10_year_17 (by decide) ?_
    refine mm_icmp_lt 37 dX10_year_18 (by decide) (fun c_18 => ?_) (fun c_18 => ?_)
    · refine mm_iconst (x := (-1)) dX10_year_37 (by decide) ?_
      exact mm_iretE dX10_year_38 rfl rfl rfl
    · refine mm_iload_n dX10_year_21 rfl rfl ?_
      refine mm_sipush (x := 500) dX10_year_22 (by decide) ?_
      refine mm_icmp_gt 37 dX10_year_25 (by decide) (fun c_25 => ?_) (fun c_25 => ?_)
      · refine mm_iconst (x := (-1)) dX10_year_37 (by decide) ?_
        exact mm_iretE dX10_year_38 rfl rfl rfl
      · refine mm_iload_n dX10_year_28 rfl rfl ?_
        refine mm_if_lt 37 dX10_year_29 (by decide) (fun c_29 => ?_) (fun c_29 => ?_)
        · refine mm_iconst (x := (-1)) dX10_year_37 (by decide) ?_
          exact mm_iretE dX10_year_38 rfl rfl rfl
        · refine mm_iload_n dX10_year_32 rfl rfl ?_
          refine mm_iconst (x := 2) dX10_year_33 (by decide) ?_
          refine mm_icmp_le 39 dX10_year_34 (by decide) (fun c_34 => ?_) (fun c_34 => ?_)
          · exfalso; (try simp only [lg_lt, lg_ge, lg_gt, lg_le] at *); simp only [hn, nI_toInt (show n < 2 ^ 31 by omega), Int32.lt_iff_toInt_lt, Int32.le_iff_toInt_le, Int64.lt_iff_toInt_lt, Int64.le_iff_toInt_le, ti_0, ti_1, ti_2, ti_3, ti_4, ti_5, ti_6, ti_10, ti_12, ti_200, ti_400, ti_500, ti_999, ti_2400, ti_9999, ti_m9999, ti_m20000, ti_m1, i64_toInt, li_0, li_1, li_2, li_3, li_4, li_5, li_10, li_12, li_15, li_48, li_57, li_200, li_500, li_999, li_2400, li_9999, li_m9999, li_11999] at *; omega
          · refine mm_iconst (x := (-1)) dX10_year_37 (by decide) ?_
            exact mm_iretE dX10_year_38 rfl rfl rfl
set_option maxRecDepth 100000 in
set_option maxHeartbeats 4000000 in
theorem mX10_year_0 (d : Nat) (h : mm_H) (n x m : Nat) (hn : h.1 65 0 = nI n) (h12 : n ≤ 12) (hn0 : 0 < n) (hx : h.1 61 6 = nI x) (hx31 : x < 2 ^ 31) (hm : 1 ≤ m ∧ m ≤ 500) : ∃ g : mm_H, mm_M (d + 3) YX10_year [.ref 0, .int (nI m), .int 0] h (some (.int (yr0 (h.1 68) (h.1 70) n x m))) g ∧ g.2 = h.2 ∧ (∀ a, (a < 126 ∨ 134 < a) → g.1 a = h.1 a) := by
  obtain ⟨g1, hM, hg2, hcp, hfr⟩ := mX5_copyFrom (d + 1) h 126 65 mint126 mint65 (by omega)
  have e61 : g1.1 61 6 = nI x := by rw [hfr 61 (by omega)]; exact hx
  have e126 : g1.1 126 0 = nI n := hcp.1.trans hn
  have r3 : ∀ j, j < n → g1.1 129 j = h.1 68 j := fun j hj => hcp.2.2.2.2.1 3 j (by decide) (by decide) (by omega)
  have r4 : ∀ j, j < n → g1.1 130 j = h.1 69 j := fun j hj => hcp.2.2.2.2.1 4 j (by decide) (by decide) (by omega)
  have r5 : ∀ j, j < n → g1.1 131 j = h.1 70 j := fun j hj => hcp.2.2.2.2.1 5 j (by decide) (by decide) (by omega)
  have r6 : ∀ j, j < n → g1.1 132 j = h.1 71 j := fun j hj => hcp.2.2.2.2.1 6 j (by decide) (by decide) (by omega)
  refine ⟨(mm_row (mm_row g1.1 132 (yf n (g1.1 132) x m)) 131 (yh n (g1.1 131) x m), g1.2.1, g1.2.2), ?_, hg2, fun a ha => ?_⟩
  · refine mm_M.of [some (.ref 0), some (.int (nI m)), some (.int 0), none, none, none, none] rfl rfl (Nat.le_of_ble_eq_true rfl) ?_
    have K65 : ∀ i, i ≤ m → mm_R (d + 3) YX10_year 65 [some (.ref 0), some (.int (nI m)), some (.int 0), some (.int (nI n)), some (.int (nI (yx x i))), some (.int (nI i)), none] [] (mm_row (mm_row g1.1 132 (yf n (g1.1 132) x i)) 131 (yh n (g1.1 131) x i), g1.2.1, g1.2.2) (some (.int (yr0 (h.1 68) (h.1 70) n x m))) (mm_row (mm_row g1.1 132 (yf n (g1.1 132) x m)) 131 (yh n (g1.1 131) x m), g1.2.1, g1.2.2) := by
      refine mm_down m ?_ (fun i hi ih => ?_)
      · refine mm_iload dX10_year_65 rfl ?_
        refine mm_iload_n dX10_year_67 rfl rfl ?_
        refine mm_icmp_ge 130 dX10_year_68 (by decide) (fun c_68 => ?_) (fun c_68 => ?_)
        · refine mm_aload_n dX10_year_130 rfl rfl ?_
          refine mm_getS dX10_year_131 fX10_56 sh_0 rfl gr_0_9 ?_
          refine mm_cV (Y1 := YX5_richest) dX10_year_134 lX10_304 vX5_richest (mX5_richest (d) _ 126 mint126 n (by dsimp only; rw [mm_row_n (by decide), mm_row_n (by decide)]; exact e126) h12) sh_126 rfl rfl (by simp [Value.category]) ?_
          refine mm_istore dX10_year_137 (by decide) rfl ?_
          refine mm_iload_n dX10_year_139 rfl rfl ?_
          refine mm_lookup (off := 28) 168 dX10_year_140 (by decide) (by decide) (by decide) ?_
          refine mm_iload dX10_year_168 rfl ?_
          exact mm_iretE dX10_year_170 rfl (by dsimp only; rw [mm_row_s, mm_row_n (show 129 ≠ 131 by decide), mm_row_n (show 129 ≠ 132 by decide)]; exact sp_rich_c (fun p => sp_wheld_c r3 (yh_c r5 m)) 5) rfl
        · exact absurd (nI_le (Nat.le_refl _) (by omega)) c_68
      · have hyx := yx_lt hx31 i
        have hd1 := drN_lt (yx x i)
        have hd2 := drN_lt (drN (yx x i))
        have hcn := yc_lt (n := n) (x0 := x) (i := i) hn0
        have es : (1 : Int32) <<< (nI (yc n x i) &&& 31) = nI (2 ^ yc n x i) := sh1 (by omega)
        have ec : nI (drN (yx x i)) / 65536 - nI (drN (yx x i)) / 65536 / nI n * nI n = nI (yc n x i) := dv hd1 hn0 (by omega)
        have ep : nI (drN (drN (yx x i))) / 65536 - nI (drN (drN (yx x i))) / 65536 / 6 * 6 = nI (yp x i) := dv (n := 6) hd2 (by decide) (by decide)
        refine mm_iload dX10_year_65 rfl ?_
        refine mm_iload_n dX10_year_67 rfl rfl ?_
        refine mm_icmp_ge 130 dX10_year_68 (by decide) (fun c_68 => ?_) (fun c_68 => ?_)
        · exact absurd c_68 (nI_ge hi (by omega))
        · refine mm_iload dX10_year_71 rfl ?_
          refine mm_cS (Y1 := YX10_drawn) dX10_year_73 lX10_300 sX10_drawn (mX10_drawn (d + 2) _ _ hyx) rfl rfl (by simp [Value.category]) ?_
          refine mm_istore dX10_year_76 (by decide) rfl ?_
          refine mm_iconst (x := 1) dX10_year_78 (by decide) ?_
          refine mm_iload dX10_year_79 rfl ?_
          refine mm_ldcw dX10_year_81 kX10_303 ?_
          refine mm_idiv dX10_year_84 (by decide) ?_
          refine mm_iload_n dX10_year_85 rfl rfl ?_
          refine mm_irem dX10_year_86 (fun z => by have := nI_inj (a := n) (b := 0) (by omega) (by decide) z; omega) ?_
          refine mm_ishl dX10_year_87 ?_
          refine mm_istore dX10_year_88 (by decide) rfl ?_
          refine mm_iload dX10_year_90 rfl ?_
          refine mm_cS (Y1 := YX10_drawn) dX10_year_92 lX10_300 sX10_drawn (mX10_drawn (d + 2) _ _ hd1) rfl rfl (by simp [Value.category]) ?_
          refine mm_istore dX10_year_95 (by decide) rfl ?_
          refine mm_aload_n dX10_year_97 rfl rfl ?_
          refine mm_getS dX10_year_98 fX10_56 sh_0 rfl gr_0_9 ?_
          refine mm_iload dX10_year_101 rfl ?_
          refine mm_cV (Y1 := YX5_drop) dX10_year_103 lX10_171 vX5_drop (mX5_drop (d + 2) _ 126 mint126 n (by dsimp only; rw [mm_row_n (by decide), mm_row_n (by decide)]; exact e126) h12 _) sh_126 rfl rfl (by simp [Value.category]) ?_
          refine mm_aload_n dX10_year_106 rfl rfl ?_
          refine mm_getS dX10_year_107 fX10_56 sh_0 rfl gr_0_9 ?_
          refine mm_iload dX10_year_110 rfl ?_
          refine mm_iload dX10_year_112 rfl ?_
          refine mm_ldcw dX10_year_114 kX10_303 ?_
          refine mm_idiv dX10_year_117 (by decide) ?_
          refine mm_bipush (x := 6) dX10_year_118 (by decide) ?_
          refine mm_irem dX10_year_120 (by decide) ?_
          refine mm_cV (Y1 := YX5_hand) dX10_year_121 lX10_255 vX5_hand (mX5_hand (d + 2) _ 126 mint126 n (by dsimp only; rw [mm_row_n (by decide), mm_row_n (by decide), mm_row_n (by decide)]; exact e126) h12 _ _) sh_126 rfl rfl (by simp [Value.category]) ?_
          refine mm_iinc dX10_year_124 rfl rfl rfl ?_
          refine mm_goto 65 dX10_year_127 (by decide) ?_
          refine mm_lessE (ls' := [some (.ref 0), some (.int (nI m)), some (.int 0), some (.int (nI n)), some (.int (nI (yx x (i + 1)))), some (.int (nI (i + 1))), none]) ⟨rfl, rfl, rfl, rfl, rfl, by rw [nI_succ]; rfl, trivial⟩ (mm_cast rfl rfl ?_ ih)
          dsimp only
          rw [ec, es, ep]
          rw [mm_row_n (show 132 ≠ 131 by decide), mm_row_s, drop_p2 _ h12 hcn, mm_row_n (show 131 ≠ 132 by decide), mm_row_s, hand_p2 _ h12 hcn]
          refine congrArg (fun J => ((J, g1.2.1, g1.2.2) : mm_H)) ?_
          funext c
          by_cases c1 : c = 131
          · subst c1; rw [mm_row_s, mm_row_s]; rfl
          · by_cases c2 : c = 132
            · subst c2; rw [mm_row_n (by decide), mm_row_s, mm_row_n (by decide), mm_row_s]; rfl
            · rw [mm_row_n c1, mm_row_n c2, mm_row_n c1, mm_row_n c2, mm_row_n c1, mm_row_n c2]
    refine mm_aload_n dX10_year_0 rfl rfl ?_
    refine mm_getS dX10_year_1 fX10_45 sh_0 rfl gr_0_7 ?_
    refine mm_getS dX10_year_4 fX10_63 sh_61 rfl gr_61_0 ?_
    refine mm_getI dX10_year_7 fX10_117 sh_65 rfl ?_
    refine mm_istore_n dX10_year_10 rfl (by decide) rfl ?_
    refine mm_iload_n dX10_year_11 rfl rfl ?_
    refine mm_iconst (x := 1) dX10_year_12 (by decide) ?_
    refine mm_icmp_lt 37 dX10_year_13 (by decide) (fun c_13 => ?_) (fun c_13 => ?_)
    · exfalso; (try simp only [lg_lt, lg_ge, lg_gt, lg_le] at *); simp only [hn, nI_toInt (show n < 2 ^ 31 by omega), nI_toInt (show m < 2 ^ 31 by omega), Int32.lt_iff_toInt_lt, Int32.le_iff_toInt_le, Int64.lt_iff_toInt_lt, Int64.le_iff_toInt_le, ti_0, ti_1, ti_2, ti_3, ti_4, ti_5, ti_6, ti_10, ti_12, ti_200, ti_400, ti_500, ti_999, ti_2400, ti_9999, ti_m9999, ti_m20000, ti_m1, i64_toInt, li_0, li_1, li_2, li_3, li_4, li_5, li_10, li_12, li_15, li_48, li_57, li_200, li_500, li_999, li_2400, li_9999, li_m9999, li_11999] at *; omega
    · refine mm_iload_n dX10_year_16 rfl rfl ?_
      refine mm_iconst (x := 1) dX10_year_17 (by decide) ?_
      refine mm_icmp_lt 37 dX10_year_18 (by decide) (fun c_18 => ?_) (fun c_18 => ?_)
      · exfalso; (try simp only [lg_lt, lg_ge, lg_gt, lg_le] at *); simp only [hn, nI_toInt (show n < 2 ^ 31 by omega), nI_toInt (show m < 2 ^ 31 by omega), Int32.lt_iff_toInt_lt, Int32.le_iff_toInt_le, Int64.lt_iff_toInt_lt, Int64.le_iff_toInt_le, ti_0, ti_1, ti_2, ti_3, ti_4, ti_5, ti_6, ti_10, ti_12, ti_200, ti_400, ti_500, ti_999, ti_2400, ti_9999, ti_m9999, ti_m20000, ti_m1, i64_toInt, li_0, li_1, li_2, li_3, li_4, li_5, li_10, li_12, li_15, li_48, li_57, li_200, li_500, li_999, li_2400, li_9999, li_m9999, li_11999] at *; omega
      · refine mm_iload_n dX10_year_21 rfl rfl ?_
        refine mm_sipush (x := 500) dX10_year_22 (by decide) ?_
        refine mm_icmp_gt 37 dX10_year_25 (by decide) (fun c_25 => ?_) (fun c_25 => ?_)
        · exfalso; (try simp only [lg_lt, lg_ge, lg_gt, lg_le] at *); simp only [hn, nI_toInt (show n < 2 ^ 31 by omega), nI_toInt (show m < 2 ^ 31 by omega), Int32.lt_iff_toInt_lt, Int32.le_iff_toInt_le, Int64.lt_iff_toInt_lt, Int64.le_iff_toInt_le, ti_0, ti_1, ti_2, ti_3, ti_4, ti_5, ti_6, ti_10, ti_12, ti_200, ti_400, ti_500, ti_999, ti_2400, ti_9999, ti_m9999, ti_m20000, ti_m1, i64_toInt, li_0, li_1, li_2, li_3, li_4, li_5, li_10, li_12, li_15, li_48, li_57, li_200, li_500, li_999, li_2400, li_9999, li_m9999, li_11999] at *; omega
        · refine mm_iload_n dX10_year_28 rfl rfl ?_
          refine mm_if_lt 37 dX10_year_29 (by decide) (fun c_29 => ?_) (fun c_29 => ?_)
          · exact absurd c_29 (by decide)
          · refine mm_iload_n dX10_year_32 rfl rfl ?_
            refine mm_iconst (x := 2) dX10_year_33 (by decide) ?_
            refine mm_icmp_le 39 dX10_year_34 (by decide) (fun c_34 => ?_) (fun c_34 => ?_)
            · refine mm_aload_n dX10_year_39 rfl rfl ?_
              refine mm_getS dX10_year_40 fX10_56 sh_0 rfl gr_0_9 ?_
              refine mm_aload_n dX10_year_43 rfl rfl ?_
              refine mm_getS dX10_year_44 fX10_45 sh_0 rfl gr_0_7 ?_
              refine mm_getS dX10_year_47 fX10_63 sh_61 rfl gr_61_0 ?_
              refine mm_cV (Y1 := YX5_copyFrom) dX10_year_50 lX10_297 vX5_copyFrom (hM) sh_126 rfl rfl (by simp [Value.category]) ?_
              refine mm_aload_n dX10_year_53 rfl rfl ?_
              refine mm_getS dX10_year_54 fX10_45 sh_0 rfl gr_0_7 ?_
              refine mm_getI dX10_year_57 fX10_294 sh_61 rfl ?_
              refine mm_istore dX10_year_60 (by decide) rfl ?_
              refine mm_iconst (x := 0) dX10_year_62 (by decide) ?_
              refine mm_istore dX10_year_63 (by decide) rfl ?_
              refine mm_cast (by rw [hn, e61]; rfl) rfl ?_ (K65 0 (Nat.zero_le _))
              rw [show yf n (g1.1 132) x 0 = g1.1 132 from rfl, show yh n (g1.1 131) x 0 = g1.1 131 from rfl, mm_row_self, mm_row_self]
            · exact absurd (by decide) c_34
  · dsimp only
    rw [mm_row_n (by omega), mm_row_n (by omega)]
    exact hfr a ha
set_option maxRecDepth 100000 in
set_option maxHeartbeats 4000000 in
theorem mX10_year_1 (d : Nat) (h : mm_H) (n x m : Nat) (hn : h.1 65 0 = nI n) (h12 : n ≤ 12) (hn0 : 0 < n) (hx : h.1 61 6 = nI x) (hx31 : x < 2 ^ 31) (hm : 1 ≤ m ∧ m ≤ 500) : ∃ g : mm_H, mm_M (d + 3) YX10_year [.ref 0, .int (nI m), .int 1] h (some (.int (yr1 (h.1 68) (h.1 70) n x m))) g ∧ g.2 = h.2 ∧ (∀ a, (a < 126 ∨ 134 < a) → g.1 a = h.1 a) := by
  obtain ⟨g1, hM, hg2, hcp, hfr⟩ := mX5_copyFrom (d + 1) h 126 65 mint126 mint65 (by omega)
  have e61 : g1.1 61 6 = nI x := by rw [hfr 61 (by omega)]; exact hx
  have e126 : g1.1 126 0 = nI n := hcp.1.trans hn
  have r3 : ∀ j, j < n → g1.1 129 j = h.1 68 j := fun j hj => hcp.2.2.2.2.1 3 j (by decide) (by decide) (by omega)
  have r4 : ∀ j, j < n → g1.1 130 j = h.1 69 j := fun j hj => hcp.2.2.2.2.1 4 j (by decide) (by decide) (by omega)
  have r5 : ∀ j, j < n → g1.1 131 j = h.1 70 j := fun j hj => hcp.2.2.2.2.1 5 j (by decide) (by decide) (by omega)
  have r6 : ∀ j, j < n → g1.1 132 j = h.1 71 j := fun j hj => hcp.2.2.2.2.1 6 j (by decide) (by decide) (by omega)
  refine ⟨(mm_row (mm_row g1.1 132 (yf n (g1.1 132) x m)) 131 (yh n (g1.1 131) x m), g1.2.1, g1.2.2), ?_, hg2, fun a ha => ?_⟩
  · refine mm_M.of [some (.ref 0), some (.int (nI m)), some (.int 1), none, none, none, none] rfl rfl (Nat.le_of_ble_eq_true rfl) ?_
    have K65 : ∀ i, i ≤ m → mm_R (d + 3) YX10_year 65 [some (.ref 0), some (.int (nI m)), some (.int 1), some (.int (nI n)), some (.int (nI (yx x i))), some (.int (nI i)), none] [] (mm_row (mm_row g1.1 132 (yf n (g1.1 132) x i)) 131 (yh n (g1.1 131) x i), g1.2.1, g1.2.2) (some (.int (yr1 (h.1 68) (h.1 70) n x m))) (mm_row (mm_row g1.1 132 (yf n (g1.1 132) x m)) 131 (yh n (g1.1 131) x m), g1.2.1, g1.2.2) := by
      refine mm_down m ?_ (fun i hi ih => ?_)
      · refine mm_iload dX10_year_65 rfl ?_
        refine mm_iload_n dX10_year_67 rfl rfl ?_
        refine mm_icmp_ge 130 dX10_year_68 (by decide) (fun c_68 => ?_) (fun c_68 => ?_)
        · refine mm_aload_n dX10_year_130 rfl rfl ?_
          refine mm_getS dX10_year_131 fX10_56 sh_0 rfl gr_0_9 ?_
          refine mm_cV (Y1 := YX5_richest) dX10_year_134 lX10_304 vX5_richest (mX5_richest (d) _ 126 mint126 n (by dsimp only; rw [mm_row_n (by decide), mm_row_n (by decide)]; exact e126) h12) sh_126 rfl rfl (by simp [Value.category]) ?_
          refine mm_istore dX10_year_137 (by decide) rfl ?_
          refine mm_iload_n dX10_year_139 rfl rfl ?_
          refine mm_lookup (off := 31) 171 dX10_year_140 (by decide) (by decide) (by decide) ?_
          refine mm_aload_n dX10_year_171 rfl rfl ?_
          refine mm_getS dX10_year_172 fX10_56 sh_0 rfl gr_0_9 ?_
          refine mm_iload dX10_year_175 rfl ?_
          refine mm_cV (Y1 := YX5_worthHeld) dX10_year_177 lX10_307 vX5_worthHeld (mX5_worthHeld (d + 1) _ 126 mint126 n (by dsimp only; rw [mm_row_n (by decide), mm_row_n (by decide)]; exact e126) h12 _) sh_126 rfl rfl (by simp [Value.category]) ?_
          exact mm_iretE dX10_year_180 rfl (by dsimp only; rw [mm_row_s, mm_row_n (show 129 ≠ 131 by decide), mm_row_n (show 129 ≠ 132 by decide)]; unfold yr1 yr0; rw [sp_rich_c (fun p => sp_wheld_c r3 (yh_c r5 m)) 5]; exact sp_wheld_c r3 (yh_c r5 m)) rfl
        · exact absurd (nI_le (Nat.le_refl _) (by omega)) c_68
      · have hyx := yx_lt hx31 i
        have hd1 := drN_lt (yx x i)
        have hd2 := drN_lt (drN (yx x i))
        have hcn := yc_lt (n := n) (x0 := x) (i := i) hn0
        have es : (1 : Int32) <<< (nI (yc n x i) &&& 31) = nI (2 ^ yc n x i) := sh1 (by omega)
        have ec : nI (drN (yx x i)) / 65536 - nI (drN (yx x i)) / 65536 / nI n * nI n = nI (yc n x i) := dv hd1 hn0 (by omega)
        have ep : nI (drN (drN (yx x i))) / 65536 - nI (drN (drN (yx x i))) / 65536 / 6 * 6 = nI (yp x i) := dv (n := 6) hd2 (by decide) (by decide)
        refine mm_iload dX10_year_65 rfl ?_
        refine mm_iload_n dX10_year_67 rfl rfl ?_
        refine mm_icmp_ge 130 dX10_year_68 (by decide) (fun c_68 => ?_) (fun c_68 => ?_)
        · exact absurd c_68 (nI_ge hi (by omega))
        · refine mm_iload dX10_year_71 rfl ?_
          refine mm_cS (Y1 := YX10_drawn) dX10_year_73 lX10_300 sX10_drawn (mX10_drawn (d + 2) _ _ hyx) rfl rfl (by simp [Value.category]) ?_
          refine mm_istore dX10_year_76 (by decide) rfl ?_
          refine mm_iconst (x := 1) dX10_year_78 (by decide) ?_
          refine mm_iload dX10_year_79 rfl ?_
          refine mm_ldcw dX10_year_81 kX10_303 ?_
          refine mm_idiv dX10_year_84 (by decide) ?_
          refine mm_iload_n dX10_year_85 rfl rfl ?_
          refine mm_irem dX10_year_86 (fun z => by have := nI_inj (a := n) (b := 0) (by omega) (by decide) z; omega) ?_
          refine mm_ishl dX10_year_87 ?_
          refine mm_istore dX10_year_88 (by decide) rfl ?_
          refine mm_iload dX10_year_90 rfl ?_
          refine mm_cS (Y1 := YX10_drawn) dX10_year_92 lX10_300 sX10_drawn (mX10_drawn (d + 2) _ _ hd1) rfl rfl (by simp [Value.category]) ?_
          refine mm_istore dX10_year_95 (by decide) rfl ?_
          refine mm_aload_n dX10_year_97 rfl rfl ?_
          refine mm_getS dX10_year_98 fX10_56 sh_0 rfl gr_0_9 ?_
          refine mm_iload dX10_year_101 rfl ?_
          refine mm_cV (Y1 := YX5_drop) dX10_year_103 lX10_171 vX5_drop (mX5_drop (d + 2) _ 126 mint126 n (by dsimp only; rw [mm_row_n (by decide), mm_row_n (by decide)]; exact e126) h12 _) sh_126 rfl rfl (by simp [Value.category]) ?_
          refine mm_aload_n dX10_year_106 rfl rfl ?_
          refine mm_getS dX10_year_107 fX10_56 sh_0 rfl gr_0_9 ?_
          refine mm_iload dX10_year_110 rfl ?_
          refine mm_iload dX10_year_112 rfl ?_
          refine mm_ldcw dX10_year_114 kX10_303 ?_
          refine mm_idiv dX10_year_117 (by decide) ?_
          refine mm_bipush (x := 6) dX10_year_118 (by decide) ?_
          refine mm_irem dX10_year_120 (by decide) ?_
          refine mm_cV (Y1 := YX5_hand) dX10_year_121 lX10_255 vX5_hand (mX5_hand (d + 2) _ 126 mint126 n (by dsimp only; rw [mm_row_n (by decide), mm_row_n (by decide), mm_row_n (by decide)]; exact e126) h12 _ _) sh_126 rfl rfl (by simp [Value.category]) ?_
          refine mm_iinc dX10_year_124 rfl rfl rfl ?_
          refine mm_goto 65 dX10_year_127 (by decide) ?_
          refine mm_lessE (ls' := [some (.ref 0), some (.int (nI m)), some (.int 1), some (.int (nI n)), some (.int (nI (yx x (i + 1)))), some (.int (nI (i + 1))), none]) ⟨rfl, rfl, rfl, rfl, rfl, by rw [nI_succ]; rfl, trivial⟩ (mm_cast rfl rfl ?_ ih)
          dsimp only
          rw [ec, es, ep]
          rw [mm_row_n (show 132 ≠ 131 by decide), mm_row_s, drop_p2 _ h12 hcn, mm_row_n (show 131 ≠ 132 by decide), mm_row_s, hand_p2 _ h12 hcn]
          refine congrArg (fun J => ((J, g1.2.1, g1.2.2) : mm_H)) ?_
          funext c
          by_cases c1 : c = 131
          · subst c1; rw [mm_row_s, mm_row_s]; rfl
          · by_cases c2 : c = 132
            · subst c2; rw [mm_row_n (by decide), mm_row_s, mm_row_n (by decide), mm_row_s]; rfl
            · rw [mm_row_n c1, mm_row_n c2, mm_row_n c1, mm_row_n c2, mm_row_n c1, mm_row_n c2]
    refine mm_aload_n dX10_year_0 rfl rfl ?_
    refine mm_getS dX10_year_1 fX10_45 sh_0 rfl gr_0_7 ?_
    refine mm_getS dX10_year_4 fX10_63 sh_61 rfl gr_61_0 ?_
    refine mm_getI dX10_year_7 fX10_117 sh_65 rfl ?_
    refine mm_istore_n dX10_year_10 rfl (by decide) rfl ?_
    refine mm_iload_n dX10_year_11 rfl rfl ?_
    refine mm_iconst (x := 1) dX10_year_12 (by decide) ?_
    refine mm_icmp_lt 37 dX10_year_13 (by decide) (fun c_13 => ?_) (fun c_13 => ?_)
    · exfalso; (try simp only [lg_lt, lg_ge, lg_gt, lg_le] at *); simp only [hn, nI_toInt (show n < 2 ^ 31 by omega), nI_toInt (show m < 2 ^ 31 by omega), Int32.lt_iff_toInt_lt, Int32.le_iff_toInt_le, Int64.lt_iff_toInt_lt, Int64.le_iff_toInt_le, ti_0, ti_1, ti_2, ti_3, ti_4, ti_5, ti_6, ti_10, ti_12, ti_200, ti_400, ti_500, ti_999, ti_2400, ti_9999, ti_m9999, ti_m20000, ti_m1, i64_toInt, li_0, li_1, li_2, li_3, li_4, li_5, li_10, li_12, li_15, li_48, li_57, li_200, li_500, li_999, li_2400, li_9999, li_m9999, li_11999] at *; omega
    · refine mm_iload_n dX10_year_16 rfl rfl ?_
      refine mm_iconst (x := 1) dX10_year_17 (by decide) ?_
      refine mm_icmp_lt 37 dX10_year_18 (by decide) (fun c_18 => ?_) (fun c_18 => ?_)
      · exfalso; (try simp only [lg_lt, lg_ge, lg_gt, lg_le] at *); simp only [hn, nI_toInt (show n < 2 ^ 31 by omega), nI_toInt (show m < 2 ^ 31 by omega), Int32.lt_iff_toInt_lt, Int32.le_iff_toInt_le, Int64.lt_iff_toInt_lt, Int64.le_iff_toInt_le, ti_0, ti_1, ti_2, ti_3, ti_4, ti_5, ti_6, ti_10, ti_12, ti_200, ti_400, ti_500, ti_999, ti_2400, ti_9999, ti_m9999, ti_m20000, ti_m1, i64_toInt, li_0, li_1, li_2, li_3, li_4, li_5, li_10, li_12, li_15, li_48, li_57, li_200, li_500, li_999, li_2400, li_9999, li_m9999, li_11999] at *; omega
      · refine mm_iload_n dX10_year_21 rfl rfl ?_
        refine mm_sipush (x := 500) dX10_year_22 (by decide) ?_
        refine mm_icmp_gt 37 dX10_year_25 (by decide) (fun c_25 => ?_) (fun c_25 => ?_)
        · exfalso; (try simp only [lg_lt, lg_ge, lg_gt, lg_le] at *); simp only [hn, nI_toInt (show n < 2 ^ 31 by omega), nI_toInt (show m < 2 ^ 31 by omega), Int32.lt_iff_toInt_lt, Int32.le_iff_toInt_le, Int64.lt_iff_toInt_lt, Int64.le_iff_toInt_le, ti_0, ti_1, ti_2, ti_3, ti_4, ti_5, ti_6, ti_10, ti_12, ti_200, ti_400, ti_500, ti_999, ti_2400, ti_9999, ti_m9999, ti_m20000, ti_m1, i64_toInt, li_0, li_1, li_2, li_3, li_4, li_5, li_10, li_12, li_15, li_48, li_57, li_200, li_500, li_999, li_2400, li_9999, li_m9999, li_11999] at *; omega
        · refine mm_iload_n dX10_year_28 rfl rfl ?_
          refine mm_if_lt 37 dX10_year_29 (by decide) (fun c_29 => ?_) (fun c_29 => ?_)
          · exact absurd c_29 (by decide)
          · refine mm_iload_n dX10_year_32 rfl rfl ?_
            refine mm_iconst (x := 2) dX10_year_33 (by decide) ?_
            refine mm_icmp_le 39 dX10_year_34 (by decide) (fun c_34 => ?_) (fun c_34 => ?_)
            · refine mm_aload_n dX10_year_39 rfl rfl ?_
              refine mm_getS dX10_year_40 fX10_56 sh_0 rfl gr_0_9 ?_
              refine mm_aload_n dX10_year_43 rfl rfl ?_
              refine mm_getS dX10_year_44 fX10_45 sh_0 rfl gr_0_7 ?_
              refine mm_getS dX10_year_47 fX10_63 sh_61 rfl gr_61_0 ?_
              refine mm_cV (Y1 := YX5_copyFrom) dX10_year_50 lX10_297 vX5_copyFrom (hM) sh_126 rfl rfl (by simp [Value.category]) ?_
              refine mm_aload_n dX10_year_53 rfl rfl ?_
              refine mm_getS dX10_year_54 fX10_45 sh_0 rfl gr_0_7 ?_
              refine mm_getI dX10_year_57 fX10_294 sh_61 rfl ?_
              refine mm_istore dX10_year_60 (by decide) rfl ?_
              refine mm_iconst (x := 0) dX10_year_62 (by decide) ?_
              refine mm_istore dX10_year_63 (by decide) rfl ?_
              refine mm_cast (by rw [hn, e61]; rfl) rfl ?_ (K65 0 (Nat.zero_le _))
              rw [show yf n (g1.1 132) x 0 = g1.1 132 from rfl, show yh n (g1.1 131) x 0 = g1.1 131 from rfl, mm_row_self, mm_row_self]
            · exact absurd (by decide) c_34
  · dsimp only
    rw [mm_row_n (by omega), mm_row_n (by omega)]
    exact hfr a ha
set_option maxRecDepth 100000 in
set_option maxHeartbeats 4000000 in
theorem mX10_year_2 (d : Nat) (h : mm_H) (n x m : Nat) (hn : h.1 65 0 = nI n) (h12 : n ≤ 12) (hn0 : 0 < n) (hx : h.1 61 6 = nI x) (hx31 : x < 2 ^ 31) (hm : 1 ≤ m ∧ m ≤ 500) : ∃ g : mm_H, mm_M (d + 3) YX10_year [.ref 0, .int (nI m), .int 2] h (some (.int (yr2 (h.1 71) (h.1 69) n x m))) g ∧ g.2 = h.2 ∧ (∀ a, (a < 126 ∨ 134 < a) → g.1 a = h.1 a) := by
  obtain ⟨g1, hM, hg2, hcp, hfr⟩ := mX5_copyFrom (d + 1) h 126 65 mint126 mint65 (by omega)
  have e61 : g1.1 61 6 = nI x := by rw [hfr 61 (by omega)]; exact hx
  have e126 : g1.1 126 0 = nI n := hcp.1.trans hn
  have r3 : ∀ j, j < n → g1.1 129 j = h.1 68 j := fun j hj => hcp.2.2.2.2.1 3 j (by decide) (by decide) (by omega)
  have r4 : ∀ j, j < n → g1.1 130 j = h.1 69 j := fun j hj => hcp.2.2.2.2.1 4 j (by decide) (by decide) (by omega)
  have r5 : ∀ j, j < n → g1.1 131 j = h.1 70 j := fun j hj => hcp.2.2.2.2.1 5 j (by decide) (by decide) (by omega)
  have r6 : ∀ j, j < n → g1.1 132 j = h.1 71 j := fun j hj => hcp.2.2.2.2.1 6 j (by decide) (by decide) (by omega)
  refine ⟨(mm_row (mm_row g1.1 132 (yf n (g1.1 132) x m)) 131 (yh n (g1.1 131) x m), g1.2.1, g1.2.2), ?_, hg2, fun a ha => ?_⟩
  · refine mm_M.of [some (.ref 0), some (.int (nI m)), some (.int 2), none, none, none, none] rfl rfl (Nat.le_of_ble_eq_true rfl) ?_
    have K65 : ∀ i, i ≤ m → mm_R (d + 3) YX10_year 65 [some (.ref 0), some (.int (nI m)), some (.int 2), some (.int (nI n)), some (.int (nI (yx x i))), some (.int (nI i)), none] [] (mm_row (mm_row g1.1 132 (yf n (g1.1 132) x i)) 131 (yh n (g1.1 131) x i), g1.2.1, g1.2.2) (some (.int (yr2 (h.1 71) (h.1 69) n x m))) (mm_row (mm_row g1.1 132 (yf n (g1.1 132) x m)) 131 (yh n (g1.1 131) x m), g1.2.1, g1.2.2) := by
      refine mm_down m ?_ (fun i hi ih => ?_)
      · refine mm_iload dX10_year_65 rfl ?_
        refine mm_iload_n dX10_year_67 rfl rfl ?_
        refine mm_icmp_ge 130 dX10_year_68 (by decide) (fun c_68 => ?_) (fun c_68 => ?_)
        · refine mm_aload_n dX10_year_130 rfl rfl ?_
          refine mm_getS dX10_year_131 fX10_56 sh_0 rfl gr_0_9 ?_
          refine mm_cV (Y1 := YX5_richest) dX10_year_134 lX10_304 vX5_richest (mX5_richest (d) _ 126 mint126 n (by dsimp only; rw [mm_row_n (by decide), mm_row_n (by decide)]; exact e126) h12) sh_126 rfl rfl (by simp [Value.category]) ?_
          refine mm_istore dX10_year_137 (by decide) rfl ?_
          refine mm_iload_n dX10_year_139 rfl rfl ?_
          refine mm_lookup (off := 41) 181 dX10_year_140 (by decide) (by decide) (by decide) ?_
          refine mm_aload_n dX10_year_181 rfl rfl ?_
          refine mm_getS dX10_year_182 fX10_56 sh_0 rfl gr_0_9 ?_
          refine mm_cV (Y1 := YX5_cracksOfAll) dX10_year_185 lX10_310 vX5_cracksOfAll (mX5_cracksOfAll (d + 1) _ 126 mint126 n (by dsimp only; rw [mm_row_n (by decide), mm_row_n (by decide)]; exact e126) h12) sh_126 rfl rfl (by simp [Value.category]) ?_
          exact mm_iretE dX10_year_188 rfl (by dsimp only; rw [mm_row_n (show 132 ≠ 131 by decide), mm_row_s, mm_row_n (show 130 ≠ 131 by decide), mm_row_n (show 130 ≠ 132 by decide)]; exact sp_cracks_c (yf_c hn0 r6 m) r4) rfl
        · exact absurd (nI_le (Nat.le_refl _) (by omega)) c_68
      · have hyx := yx_lt hx31 i
        have hd1 := drN_lt (yx x i)
        have hd2 := drN_lt (drN (yx x i))
        have hcn := yc_lt (n := n) (x0 := x) (i := i) hn0
        have es : (1 : Int32) <<< (nI (yc n x i) &&& 31) = nI (2 ^ yc n x i) := sh1 (by omega)
        have ec : nI (drN (yx x i)) / 65536 - nI (drN (yx x i)) / 65536 / nI n * nI n = nI (yc n x i) := dv hd1 hn0 (by omega)
        have ep : nI (drN (drN (yx x i))) / 65536 - nI (drN (drN (yx x i))) / 65536 / 6 * 6 = nI (yp x i) := dv (n := 6) hd2 (by decide) (by decide)
        refine mm_iload dX10_year_65 rfl ?_
        refine mm_iload_n dX10_year_67 rfl rfl ?_
        refine mm_icmp_ge 130 dX10_year_68 (by decide) (fun c_68 => ?_) (fun c_68 => ?_)
        · exact absurd c_68 (nI_ge hi (by omega))
        · refine mm_iload dX10_year_71 rfl ?_
          refine mm_cS (Y1 := YX10_drawn) dX10_year_73 lX10_300 sX10_drawn (mX10_drawn (d + 2) _ _ hyx) rfl rfl (by simp [Value.category]) ?_
          refine mm_istore dX10_year_76 (by decide) rfl ?_
          refine mm_iconst (x := 1) dX10_year_78 (by decide) ?_
          refine mm_iload dX10_year_79 rfl ?_
          refine mm_ldcw dX10_year_81 kX10_303 ?_
          refine mm_idiv dX10_year_84 (by decide) ?_
          refine mm_iload_n dX10_year_85 rfl rfl ?_
          refine mm_irem dX10_year_86 (fun z => by have := nI_inj (a := n) (b := 0) (by omega) (by decide) z; omega) ?_
          refine mm_ishl dX10_year_87 ?_
          refine mm_istore dX10_year_88 (by decide) rfl ?_
          refine mm_iload dX10_year_90 rfl ?_
          refine mm_cS (Y1 := YX10_drawn) dX10_year_92 lX10_300 sX10_drawn (mX10_drawn (d + 2) _ _ hd1) rfl rfl (by simp [Value.category]) ?_
          refine mm_istore dX10_year_95 (by decide) rfl ?_
          refine mm_aload_n dX10_year_97 rfl rfl ?_
          refine mm_getS dX10_year_98 fX10_56 sh_0 rfl gr_0_9 ?_
          refine mm_iload dX10_year_101 rfl ?_
          refine mm_cV (Y1 := YX5_drop) dX10_year_103 lX10_171 vX5_drop (mX5_drop (d + 2) _ 126 mint126 n (by dsimp only; rw [mm_row_n (by decide), mm_row_n (by decide)]; exact e126) h12 _) sh_126 rfl rfl (by simp [Value.category]) ?_
          refine mm_aload_n dX10_year_106 rfl rfl ?_
          refine mm_getS dX10_year_107 fX10_56 sh_0 rfl gr_0_9 ?_
          refine mm_iload dX10_year_110 rfl ?_
          refine mm_iload dX10_year_112 rfl ?_
          refine mm_ldcw dX10_year_114 kX10_303 ?_
          refine mm_idiv dX10_year_117 (by decide) ?_
          refine mm_bipush (x := 6) dX10_year_118 (by decide) ?_
          refine mm_irem dX10_year_120 (by decide) ?_
          refine mm_cV (Y1 := YX5_hand) dX10_year_121 lX10_255 vX5_hand (mX5_hand (d + 2) _ 126 mint126 n (by dsimp only; rw [mm_row_n (by decide), mm_row_n (by decide), mm_row_n (by decide)]; exact e126) h12 _ _) sh_126 rfl rfl (by simp [Value.category]) ?_
          refine mm_iinc dX10_year_124 rfl rfl rfl ?_
          refine mm_goto 65 dX10_year_127 (by decide) ?_
          refine mm_lessE (ls' := [some (.ref 0), some (.int (nI m)), some (.int 2), some (.int (nI n)), some (.int (nI (yx x (i + 1)))), some (.int (nI (i + 1))), none]) ⟨rfl, rfl, rfl, rfl, rfl, by rw [nI_succ]; rfl, trivial⟩ (mm_cast rfl rfl ?_ ih)
          dsimp only
          rw [ec, es, ep]
          rw [mm_row_n (show 132 ≠ 131 by decide), mm_row_s, drop_p2 _ h12 hcn, mm_row_n (show 131 ≠ 132 by decide), mm_row_s, hand_p2 _ h12 hcn]
          refine congrArg (fun J => ((J, g1.2.1, g1.2.2) : mm_H)) ?_
          funext c
          by_cases c1 : c = 131
          · subst c1; rw [mm_row_s, mm_row_s]; rfl
          · by_cases c2 : c = 132
            · subst c2; rw [mm_row_n (by decide), mm_row_s, mm_row_n (by decide), mm_row_s]; rfl
            · rw [mm_row_n c1, mm_row_n c2, mm_row_n c1, mm_row_n c2, mm_row_n c1, mm_row_n c2]
    refine mm_aload_n dX10_year_0 rfl rfl ?_
    refine mm_getS dX10_year_1 fX10_45 sh_0 rfl gr_0_7 ?_
    refine mm_getS dX10_year_4 fX10_63 sh_61 rfl gr_61_0 ?_
    refine mm_getI dX10_year_7 fX10_117 sh_65 rfl ?_
    refine mm_istore_n dX10_year_10 rfl (by decide) rfl ?_
    refine mm_iload_n dX10_year_11 rfl rfl ?_
    refine mm_iconst (x := 1) dX10_year_12 (by decide) ?_
    refine mm_icmp_lt 37 dX10_year_13 (by decide) (fun c_13 => ?_) (fun c_13 => ?_)
    · exfalso; (try simp only [lg_lt, lg_ge, lg_gt, lg_le] at *); simp only [hn, nI_toInt (show n < 2 ^ 31 by omega), nI_toInt (show m < 2 ^ 31 by omega), Int32.lt_iff_toInt_lt, Int32.le_iff_toInt_le, Int64.lt_iff_toInt_lt, Int64.le_iff_toInt_le, ti_0, ti_1, ti_2, ti_3, ti_4, ti_5, ti_6, ti_10, ti_12, ti_200, ti_400, ti_500, ti_999, ti_2400, ti_9999, ti_m9999, ti_m20000, ti_m1, i64_toInt, li_0, li_1, li_2, li_3, li_4, li_5, li_10, li_12, li_15, li_48, li_57, li_200, li_500, li_999, li_2400, li_9999, li_m9999, li_11999] at *; omega
    · refine mm_iload_n dX10_year_16 rfl rfl ?_
      refine mm_iconst (x := 1) dX10_year_17 (by decide) ?_
      refine mm_icmp_lt 37 dX10_year_18 (by decide) (fun c_18 => ?_) (fun c_18 => ?_)
      · exfalso; (try simp only [lg_lt, lg_ge, lg_gt, lg_le] at *); simp only [hn, nI_toInt (show n < 2 ^ 31 by omega), nI_toInt (show m < 2 ^ 31 by omega), Int32.lt_iff_toInt_lt, Int32.le_iff_toInt_le, Int64.lt_iff_toInt_lt, Int64.le_iff_toInt_le, ti_0, ti_1, ti_2, ti_3, ti_4, ti_5, ti_6, ti_10, ti_12, ti_200, ti_400, ti_500, ti_999, ti_2400, ti_9999, ti_m9999, ti_m20000, ti_m1, i64_toInt, li_0, li_1, li_2, li_3, li_4, li_5, li_10, li_12, li_15, li_48, li_57, li_200, li_500, li_999, li_2400, li_9999, li_m9999, li_11999] at *; omega
      · refine mm_iload_n dX10_year_21 rfl rfl ?_
        refine mm_sipush (x := 500) dX10_year_22 (by decide) ?_
        refine mm_icmp_gt 37 dX10_year_25 (by decide) (fun c_25 => ?_) (fun c_25 => ?_)
        · exfalso; (try simp only [lg_lt, lg_ge, lg_gt, lg_le] at *); simp only [hn, nI_toInt (show n < 2 ^ 31 by omega), nI_toInt (show m < 2 ^ 31 by omega), Int32.lt_iff_toInt_lt, Int32.le_iff_toInt_le, Int64.lt_iff_toInt_lt, Int64.le_iff_toInt_le, ti_0, ti_1, ti_2, ti_3, ti_4, ti_5, ti_6, ti_10, ti_12, ti_200, ti_400, ti_500, ti_999, ti_2400, ti_9999, ti_m9999, ti_m20000, ti_m1, i64_toInt, li_0, li_1, li_2, li_3, li_4, li_5, li_10, li_12, li_15, li_48, li_57, li_200, li_500, li_999, li_2400, li_9999, li_m9999, li_11999] at *; omega
        · refine mm_iload_n dX10_year_28 rfl rfl ?_
          refine mm_if_lt 37 dX10_year_29 (by decide) (fun c_29 => ?_) (fun c_29 => ?_)
          · exact absurd c_29 (by decide)
          · refine mm_iload_n dX10_year_32 rfl rfl ?_
            refine mm_iconst (x := 2) dX10_year_33 (by decide) ?_
            refine mm_icmp_le 39 dX10_year_34 (by decide) (fun c_34 => ?_) (fun c_34 => ?_)
            · refine mm_aload_n dX10_year_39 rfl rfl ?_
              refine mm_getS dX10_year_40 fX10_56 sh_0 rfl gr_0_9 ?_
              refine mm_aload_n dX10_year_43 rfl rfl ?_
              refine mm_getS dX10_year_44 fX10_45 sh_0 rfl gr_0_7 ?_
              refine mm_getS dX10_year_47 fX10_63 sh_61 rfl gr_61_0 ?_
              refine mm_cV (Y1 := YX5_copyFrom) dX10_year_50 lX10_297 vX5_copyFrom (hM) sh_126 rfl rfl (by simp [Value.category]) ?_
              refine mm_aload_n dX10_year_53 rfl rfl ?_
              refine mm_getS dX10_year_54 fX10_45 sh_0 rfl gr_0_7 ?_
              refine mm_getI dX10_year_57 fX10_294 sh_61 rfl ?_
              refine mm_istore dX10_year_60 (by decide) rfl ?_
              refine mm_iconst (x := 0) dX10_year_62 (by decide) ?_
              refine mm_istore dX10_year_63 (by decide) rfl ?_
              refine mm_cast (by rw [hn, e61]; rfl) rfl ?_ (K65 0 (Nat.zero_le _))
              rw [show yf n (g1.1 132) x 0 = g1.1 132 from rfl, show yh n (g1.1 131) x 0 = g1.1 131 from rfl, mm_row_self, mm_row_self]
            · exact absurd (by decide) c_34
  · dsimp only
    rw [mm_row_n (by omega), mm_row_n (by omega)]
    exact hfr a ha
