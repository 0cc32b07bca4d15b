/-! forger, of the class and of the reference. -/
/-- fewer known locals, place by place -/
def mm_leq : List (Option Value) → List (Option Value) → Prop
  | [], _ => True
  | none :: a, _ :: b => mm_leq a b
  | some v :: a, some w :: b => v = w ∧ mm_leq a b
  | _, _ => False
theorem mm_leq_at : ∀ (a b : List (Option Value)), mm_leq a b → ∀ (i : Nat) (v : Value), a[i]? = some (some v) → b[i]? = some (some v) := by
  intro a
  induction a with
  | nil => intro b _ i v h; simp at h
  | cons x a ih =>
    intro b hl i v h
    cases x with
    | none =>
      cases b with
      | nil => exact absurd hl (by simp [mm_leq])
      | cons y b =>
        cases i with
        | zero => simp at h
        | succ i => simp only [List.getElem?_cons_succ] at h ⊢; exact ih b (by simpa [mm_leq] using hl) i v h
    | some w =>
      cases b with
      | nil => exact absurd hl (by simp [mm_leq])
      | cons y b =>
        cases y with
        | none => exact absurd hl (by simp [mm_leq])
        | some u =>
          have hl2 : w = u ∧ mm_leq a b := by simpa [mm_leq] using hl
          cases i with
          | zero => simp at h ⊢; rw [← hl2.1, h]
          | succ i => simp only [List.getElem?_cons_succ] at h ⊢; exact ih b hl2.2 i v h
theorem mm_lessE {d : Nat} {Y : mm_Y} {pc : Nat} {ls ls' : List (Option Value)} {st : List Value} {h : mm_H} {v : Option Value} {h' : mm_H} (hl : mm_leq ls' ls) (k : mm_R d Y pc ls' st h v h') : mm_R d Y pc ls st h v h' := mm_less (mm_leq_at _ _ hl) k
/-! the fewest falls -/
def fo (g : Nat) : Nat → Nat → Nat
  | 0, _ => 0
  | f + 1, k => if k ≤ 1 then 0 else 1 + fo g f (k - min g (k / 2))
def fF (g k : Nat) : Nat := fo g k k
theorem fo_s {g : Nat} (hg : 1 ≤ g) : ∀ f k, k ≤ f → fo g (f + 1) k = fo g f k := by
  intro f
  induction f with
  | zero => intro k hk; have : k = 0 := by omega
            subst this; rfl
  | succ f ih =>
    intro k hk
    simp only [fo]
    by_cases h1 : k ≤ 1
    · rw [if_pos h1, if_pos h1]
    · rw [if_neg h1, if_neg h1]
      have e := ih (k - min g (k / 2)) (by omega)
      simp only [fo] at e
      rw [e]
theorem fo_f {g : Nat} (hg : 1 ≤ g) : ∀ n k, fo g (k + n) k = fF g k := by
  intro n
  induction n with
  | zero => intro k; rfl
  | succ n ih => intro k; rw [← Nat.add_assoc, fo_s hg (k + n) k (by omega)]; exact ih k
theorem fF_1 {g k : Nat} (h : k ≤ 1) : fF g k = 0 := by
  unfold fF
  rcases (show k = 0 ∨ k = 1 by omega) with rfl | rfl
  · rfl
  · simp [fo]
theorem fF_s {g k : Nat} (hg : 1 ≤ g) (h : 2 ≤ k) : fF g k = 1 + fF g (k - min g (k / 2)) := by
  obtain ⟨j, rfl⟩ : ∃ j, k = j + 1 := ⟨k - 1, by omega⟩
  have h1 : ¬ j + 1 ≤ 1 := by omega
  unfold fF
  simp only [fo, if_neg h1]
  have e : j = (j + 1 - min g ((j + 1) / 2)) + (j - (j + 1 - min g ((j + 1) / 2))) := by omega
  have e2 := fo_f hg (j - (j + 1 - min g ((j + 1) / 2))) (j + 1 - min g ((j + 1) / 2))
  rw [← e] at e2
  rw [e2]
  rfl
theorem fF_mono1 {g : Nat} (hg : 1 ≤ g) : ∀ k, (∀ a b, a ≤ b → b ≤ k → fF g a ≤ fF g b) := by
  intro k
  induction k using Nat.strongRecOn with
  | ind k ih =>
    intro a b hab hbk
    by_cases hb : b ≤ 1
    · rw [fF_1 (show a ≤ 1 by omega)]; exact Nat.zero_le _
    · by_cases ha : a ≤ 1
      · rw [fF_1 ha]; exact Nat.zero_le _
      · rw [fF_s hg (show 2 ≤ a by omega), fF_s hg (show 2 ≤ b by omega)]
        have := ih (k - 1) (by omega) (a - min g (a / 2)) (b - min g (b / 2)) (by omega) (by omega)
        omega
theorem fF_mono {g a b : Nat} (hg : 1 ≤ g) (h : a ≤ b) : fF g a ≤ fF g b := fF_mono1 hg b a b h (Nat.le_refl _)
theorem fF_le {g : Nat} (hg : 1 ≤ g) : ∀ k, fF g k ≤ k - 1 := by
  intro k
  induction k using Nat.strongRecOn with
  | ind k ih =>
    by_cases h : k ≤ 1
    · rw [fF_1 h]; exact Nat.zero_le _
    · rw [fF_s hg (by omega)]
      have := ih (k - min g (k / 2)) (by omega)
      omega
/-- the best of the first i parts -/
def fbm (g k : Nat) : Nat → Nat
  | 0 => 200
  | i + 1 => min (1 + max (fF g (i + 1)) (fF g (k - (i + 1)))) (fbm g k i)
theorem fbm_ge {g k : Nat} (hg : 1 ≤ g) (hk : 2 ≤ k) (h200 : k ≤ 200) : ∀ i, i ≤ g → i < k → fF g k ≤ fbm g k i := by
  intro i
  induction i with
  | zero => intro _ _; have := fF_le hg k; simp only [fbm]; omega
  | succ i ih =>
    intro h1 h2
    have h3 := ih (by omega) (by omega)
    simp only [fbm]
    have h4 : fF g k ≤ 1 + max (fF g (i + 1)) (fF g (k - (i + 1))) := by
      rw [fF_s hg hk]
      rcases (show k - min g (k / 2) ≤ i + 1 ∨ k - min g (k / 2) ≤ k - (i + 1) by omega) with z | z
      · have := fF_mono hg z; omega
      · have := fF_mono hg z; omega
    omega
theorem fbm_le {g k : Nat} : ∀ i j, j < i → fbm g k i ≤ 1 + max (fF g (j + 1)) (fF g (k - (j + 1))) := by
  intro i
  induction i with
  | zero => intro j hj; omega
  | succ i ih =>
    intro j hj
    simp only [fbm]
    rcases (show j < i ∨ j = i by omega) with z | z
    · have := ih j z; omega
    · subst z; omega
theorem fbm_eq {g k : Nat} (hg : 1 ≤ g) (hk : 2 ≤ k) (h200 : k ≤ 200) : fbm g k (min (k - 1) g) = fF g k := by
  have h1 := fbm_ge hg hk h200 (min (k - 1) g) (by omega) (by omega)
  have h2 := fbm_le (g := g) (k := k) (min (k - 1) g) (min g (k / 2) - 1) (by omega)
  rw [show min g (k / 2) - 1 + 1 = min g (k / 2) by omega] at h2
  have h3 : fF g (min g (k / 2)) ≤ fF g (k - min g (k / 2)) := fF_mono hg (by omega)
  have h4 := fF_s hg hk
  omega
set_option maxRecDepth 100000 in
set_option maxHeartbeats 4000000 in
theorem mX10_forger_t (d : Nat) (h : mm_H) (n g : Nat) (hn : 1 ≤ n ∧ n ≤ 200) (hg : 1 ≤ g ∧ g ≤ 200) : mm_M (d + 1) YX10_forger [.ref 0, .int (nI n), .int (nI g)] h (some (.int (nI (fF g n)))) h := by
  refine mm_M.of [some (.ref 0), some (.int (nI n)), some (.int (nI g)), none, none] rfl rfl (Nat.le_of_ble_eq_true rfl) ?_
  have K31 : ∀ l, l ≤ n → ∀ c : Nat, c + fF g l = fF g n → mm_R (d + 1) YX10_forger 31 [some (.ref 0), some (.int (nI n)), some (.int (nI g)), some (.int (nI c)), some (.int (nI l))] [] h (some (.int (nI (fF g n)))) h := by
    intro l
    induction l using Nat.strongRecOn with
    | ind l ih =>
      intro hl c hc
      refine mm_iload dX10_forger_31 rfl ?_
      refine mm_iconst (x := 1) dX10_forger_33 (by decide) ?_
      refine mm_icmp_le 56 dX10_forger_34 (by decide) (fun c_34 => ?_) (fun c_34 => ?_)
      · have hl1 : l ≤ 1 := by
          have e := nI_toInt (show l < 2 ^ 31 by omega)
          (try simp only [lg_lt, lg_ge, lg_gt, lg_le] at *); simp only [Int32.lt_iff_toInt_lt, Int32.le_iff_toInt_le, Int64.lt_iff_toInt_lt, Int64.le_iff_toInt_le, ti_0, ti_1, ti_2, ti_3, ti_4, ti_5, ti_6, ti_10, ti_12, ti_200, ti_400, ti_500, ti_999, ti_2400, ti_9999, ti_m9999, ti_m20000, ti_m1, i64_toInt, li_0, li_1, li_2, li_3, li_4, li_5, li_10, li_12, li_15, li_48, li_57, li_200, li_500, li_999, li_2400, li_9999, li_m9999, li_11999] at *; omega
        refine mm_iload_n dX10_forger_56 rfl rfl ?_
        exact mm_iretE dX10_forger_57 rfl (by rw [← hc, fF_1 hl1]; rfl) rfl
      · have hl1 : 2 ≤ l := by
          have e := nI_toInt (show l < 2 ^ 31 by omega)
          (try simp only [lg_lt, lg_ge, lg_gt, lg_le] at *); simp only [Int32.lt_iff_toInt_lt, Int32.le_iff_toInt_le, Int64.lt_iff_toInt_lt, Int64.le_iff_toInt_le, ti_0, ti_1, ti_2, ti_3, ti_4, ti_5, ti_6, ti_10, ti_12, ti_200, ti_400, ti_500, ti_999, ti_2400, ti_9999, ti_m9999, ti_m20000, ti_m1, i64_toInt, li_0, li_1, li_2, li_3, li_4, li_5, li_10, li_12, li_15, li_48, li_57, li_200, li_500, li_999, li_2400, li_9999, li_m9999, li_11999] at *; omega
        refine mm_iinc dX10_forger_37 rfl rfl rfl ?_
        refine mm_iload dX10_forger_40 rfl ?_
        refine mm_iload_n dX10_forger_42 rfl rfl ?_
        refine mm_iload dX10_forger_43 rfl ?_
        refine mm_iconst (x := 2) dX10_forger_45 (by decide) ?_
        refine mm_idiv dX10_forger_46 (by decide) ?_
        refine mm_minI dX10_forger_47 lX10_289 (by simp [Value.category]) ?_
        refine mm_isub dX10_forger_50 ?_
        refine mm_istore dX10_forger_51 (by decide) rfl ?_
        refine mm_goto 31 dX10_forger_53 (by decide) ?_
        have e1 : nI l / 2 = nI (l / 2) := pk_div (a := l) (d := 2) (by omega) (by decide) (by decide)
        have e2 : (if nI l / 2 < nI g then nI l / 2 else nI g) = nI (min g (l / 2)) := by
          rw [e1]
          by_cases z : l / 2 < g
          · rw [if_pos (nI_lt z (by omega)), Nat.min_eq_right (by omega)]
          · rw [if_neg (nI_nlt (by omega) (by omega)), Nat.min_eq_left (by omega)]
        exact mm_cast (by rw [e2, pk_sub (by omega), nI_inc]; rfl) rfl rfl (ih (l - min g (l / 2)) (by omega) (by omega) (c + 1) (by rw [fF_s hg.1 hl1] at hc; omega))
  refine mm_iload_n dX10_forger_0 rfl rfl ?_
  refine mm_iconst (x := 1) dX10_forger_1 (by decide) ?_
  refine mm_icmp_lt 24 dX10_forger_2 (by decide) (fun c_2 => ?_) (fun c_2 => ?_)
  · exfalso; (try simp only [lg_lt, lg_ge, lg_gt, lg_le] at *); simp only [nI_toInt (show n < 2 ^ 31 by omega), nI_toInt (show g < 2 ^ 31 by omega), Int32.lt_iff_toInt_lt, Int32.le_iff_toInt_le, Int64.lt_iff_toInt_lt, Int64.le_iff_toInt_le, ti_0, ti_1, ti_2, ti_3, ti_4, ti_5, ti_6, ti_10, ti_12, ti_200, ti_400, ti_500, ti_999, ti_2400, ti_9999, ti_m9999, ti_m20000, ti_m1, i64_toInt, li_0, li_1, li_2, li_3, li_4, li_5, li_10, li_12, li_15, li_48, li_57, li_200, li_500, li_999, li_2400, li_9999, li_m9999, li_11999] at *; omega
  · refine mm_iload_n dX10_forger_5 rfl rfl ?_
    refine mm_sipush (x := 200) dX10_forger_6 (by decide) ?_
    refine mm_icmp_gt 24 dX10_forger_9 (by decide) (fun c_9 => ?_) (fun c_9 => ?_)
    · exfalso; (try simp only [lg_lt, lg_ge, lg_gt, lg_le] at *); simp only [nI_toInt (show n < 2 ^ 31 by omega), nI_toInt (show g < 2 ^ 31 by omega), Int32.lt_iff_toInt_lt, Int32.le_iff_toInt_le, Int64.lt_iff_toInt_lt, Int64.le_iff_toInt_le, ti_0, ti_1, ti_2, ti_3, ti_4, ti_5, ti_6, ti_10, ti_12, ti_200, ti_400, ti_500, ti_999, ti_2400, ti_9999, ti_m9999, ti_m20000, ti_m1, i64_toInt, li_0, li_1, li_2, li_3, li_4, li_5, li_10, li_12, li_15, li_48, li_57, li_200, li_500, li_999, li_2400, li_9999, li_m9999, li_11999] at *; omega
    · refine mm_iload_n dX10_forger_12 rfl rfl ?_
      refine mm_iconst (x := 1) dX10_forger_13 (by decide) ?_
      refine mm_icmp_lt 24 dX10_forger_14 (by decide) (fun c_14 => ?_) (fun c_14 => ?_)
      · exfalso; (try simp only [lg_lt, lg_ge, lg_gt, lg_le] at *); simp only [nI_toInt (show n < 2 ^ 31 by omega), nI_toInt (show g < 2 ^ 31 by omega), Int32.lt_iff_toInt_lt, Int32.le_iff_toInt_le, Int64.lt_iff_toInt_lt, Int64.le_iff_toInt_le, ti_0, ti_1, ti_2, ti_3, ti_4, ti_5, ti_6, ti_10, ti_12, ti_200, ti_400, ti_500, ti_999, ti_2400, ti_9999, ti_m9999, ti_m20000, ti_m1, i64_toInt, li_0, li_1, li_2, li_3, li_4, li_5, li_10, li_12, li_15, li_48, li_57, li_200, li_500, li_999, li_2400, li_9999, li_m9999, li_11999] at *; omega
      · refine mm_iload_n dX10_forger_17 rfl rfl ?_
        refine mm_sipush (x := 200) dX10_forger_18 (by decide) ?_
        refine mm_icmp_le 26 dX10_forger_21 (by decide) (fun c_21 => ?_) (fun c_21 => ?_)
        · refine mm_iconst (x := 0) dX10_forger_26 (by decide) ?_
          refine mm_istore_n dX10_forger_27 rfl (by decide) rfl ?_
          refine mm_iload_n dX10_forger_28 rfl rfl ?_
          refine mm_istore dX10_forger_29 (by decide) rfl ?_
          exact K31 n (Nat.le_refl _) 0 (by omega)
        · exfalso; (try simp only [lg_lt, lg_ge, lg_gt, lg_le] at *); simp only [nI_toInt (show n < 2 ^ 31 by omega), nI_toInt (show g < 2 ^ 31 by omega), Int32.lt_iff_toInt_lt, Int32.le_iff_toInt_le, Int64.lt_iff_toInt_lt, Int64.le_iff_toInt_le, ti_0, ti_1, ti_2, ti_3, ti_4, ti_5, ti_6, ti_10, ti_12, ti_200, ti_400, ti_500, ti_999, ti_2400, ti_9999, ti_m9999, ti_m20000, ti_m1, i64_toInt, li_0, li_1, li_2, li_3, li_4, li_5, li_10, li_12, li_15, li_48, li_57, li_200, li_500, li_999, li_2400, li_9999, li_m9999, li_11999] at *; omega
set_option maxRecDepth 100000 in
set_option maxHeartbeats 4000000 in
theorem mX10_forger_f (d : Nat) (h : mm_H) (n g : Int32) (hc : ¬ ((1 ≤ n.toInt ∧ n.toInt ≤ 200) ∧ (1 ≤ g.toInt ∧ g.toInt ≤ 200))) : mm_M (d + 1) YX10_forger [.ref 0, .int n, .int g] h (some (.int (-1))) h := by
  refine mm_M.of [some (.ref 0), some (.int n), some (.int g), none, none] rfl rfl (Nat.le_of_ble_eq_true rfl) ?_
  refine mm_iload_n dX10_forger_0 rfl rfl ?_
  refine mm_iconst (x := 1) dX10_forger_1 (by decide) ?_
  refine mm_icmp_lt 24 dX10_forger_2 (by decide) (fun c_2 => ?_) (fun c_2 => ?_)
  · refine mm_iconst (x := (-1)) dX10_forger_24 (by decide) ?_
    exact mm_iretE dX10_forger_25 rfl rfl rfl
  · refine mm_iload_n dX10_forger_5 rfl rfl ?_
    refine mm_sipush (x := 200) dX10_forger_6 (by decide) ?_
    refine mm_icmp_gt 24 dX10_forger_9 (by decide) (fun c_9 => ?_) (fun c_9 => ?_)
    · refine mm_iconst (x := (-1)) dX10_forger_24 (by decide) ?_
      exact mm_iretE dX10_forger_25 rfl rfl rfl
    · refine mm_iload_n dX10_forger_12 rfl rfl ?_
      refine mm_iconst (x := 1) dX10_forger_13 (by decide) ?_
      refine mm_icmp_lt 24 dX10_forger_14 (by decide) (fun c_14 => ?_) (fun c_14 => ?_)
      · refine mm_iconst (x := (-1)) dX10_forger_24 (by decide) ?_
        exact mm_iretE dX10_forger_25 rfl rfl rfl
      · refine mm_iload_n dX10_forger_17 rfl rfl ?_
        refine mm_sipush (x := 200) dX10_forger_18 (by decide) ?_
        refine mm_icmp_le 26 dX10_forger_21 (by decide) (fun c_21 => ?_) (fun c_21 => ?_)
        · exfalso; (try simp only [lg_lt, lg_ge, lg_gt, lg_le] at *); simp only [Int32.lt_iff_toInt_lt, Int32.le_iff_toInt_le, Int64.lt_iff_toInt_lt, Int64.le_iff_toInt_le, ti_0, ti_1, ti_2, ti_3, ti_4, ti_5, ti_6, ti_10, ti_12, ti_200, ti_400, ti_500, ti_999, ti_2400, ti_9999, ti_m9999, ti_m20000, ti_m1, i64_toInt, li_0, li_1, li_2, li_3, li_4, li_5, li_10, li_12, li_15, li_48, li_57, li_200, li_500, li_999, li_2400, li_9999, li_m9999, li_11999] at *; omega
        · refine mm_iconst (x := (-1)) dX10_forger_24 (by decide) ?_
          exact mm_iretE dX10_forger_25 rfl rfl rfl
set_option maxRecDepth 100000 in
set_option maxHeartbeats 4000000 in
theorem mX11_forger_f (d : Nat) (h : mm_H) (n g : Int32) (hc : ¬ ((1 ≤ n.toInt ∧ n.toInt ≤ 200) ∧ (1 ≤ g.toInt ∧ g.toInt ≤ 200))) : mm_M (d + 1) YX11_forger [.ref 165, .int n, .int g] h (some (.int (-1))) h := by
  refine mm_M.of [some (.ref 165), some (.int n), some (.int g), none, none, none, none] rfl rfl (Nat.le_of_ble_eq_true rfl) ?_
  refine mm_iload_n dX11_forger_0 rfl rfl ?_
  refine mm_i2l dX11_forger_1 rfl ?_
  refine mm_lconst (x := 1) dX11_forger_2 (by decide) ?_
  refine mm_ldc2 dX11_forger_3 kX11_492 ?_
  refine mm_cS (Y1 := YX11_in) dX11_forger_6 lX11_171 sX11_in (mX11_in d h _ _ _) rfl rfl (by simp [Value.category]) ?_
  refine mm_if_eq 24 dX11_forger_9 (by decide) (fun c_9 => ?_) (fun c_9 => ?_)
  · refine mm_iconst (x := (-1)) dX11_forger_24 (by decide) ?_
    exact mm_iretE dX11_forger_25 rfl rfl rfl
  · refine mm_iload_n dX11_forger_12 rfl rfl ?_
    refine mm_i2l dX11_forger_13 rfl ?_
    refine mm_lconst (x := 1) dX11_forger_14 (by decide) ?_
    refine mm_ldc2 dX11_forger_15 kX11_492 ?_
    refine mm_cS (Y1 := YX11_in) dX11_forger_18 lX11_171 sX11_in (mX11_in d h _ _ _) rfl rfl (by simp [Value.category]) ?_
    refine mm_if_ne 26 dX11_forger_21 (by decide) (fun c_21 => ?_) (fun c_21 => ?_)
    · have q1 := bI_n0.mp c_9
      have q2 := bI_n0.mp c_21
      exfalso; (try simp only [lg_lt, lg_ge, lg_gt, lg_le] at *); simp only [Int32.lt_iff_toInt_lt, Int32.le_iff_toInt_le, Int64.lt_iff_toInt_lt, Int64.le_iff_toInt_le, ti_0, ti_1, ti_2, ti_3, ti_4, ti_5, ti_6, ti_10, ti_12, ti_200, ti_400, ti_500, ti_999, ti_2400, ti_9999, ti_m9999, ti_m20000, ti_m1, i64_toInt, li_0, li_1, li_2, li_3, li_4, li_5, li_10, li_12, li_15, li_48, li_57, li_200, li_500, li_999, li_2400, li_9999, li_m9999, li_11999] at *; omega
    · refine mm_iconst (x := (-1)) dX11_forger_24 (by decide) ?_
      exact mm_iretE dX11_forger_25 rfl rfl rfl
def frow (f : Nat → Int32) (g k : Nat) : Nat → Int32 := fun j => if 1 ≤ j ∧ j < k then nI (fF g j) else f j
theorem frow_in {f : Nat → Int32} {g k j : Nat} (h1 : 1 ≤ j) (h2 : j < k) : frow f g k j = nI (fF g j) := by
  have : 1 ≤ j ∧ j < k := ⟨h1, h2⟩
  simp only [frow, if_pos this]
theorem frow_s (f : Nat → Int32) (g k : Nat) (hk : 1 ≤ k) : upd (frow f g k) k (nI (fF g k)) = frow f g (k + 1) := by
  funext j
  by_cases e : j = k
  · subst e
    have : 1 ≤ j ∧ j < j + 1 := by omega
    simp only [upd, frow, if_pos this, if_true]
  · have h1 : (1 ≤ j ∧ j < k + 1) ↔ (1 ≤ j ∧ j < k) := by omega
    simp only [upd, frow, if_neg e, h1]
theorem nI_max {a b : Nat} (ha : a < 2 ^ 31) (hb : b < 2 ^ 31) : (nI a ≤ nI b → max a b = b) ∧ (¬ nI a ≤ nI b → max a b = a) := by
  rw [nI_leI ha hb]
  exact ⟨fun z => Nat.max_eq_right z, fun z => Nat.max_eq_left (by omega)⟩
set_option maxRecDepth 100000 in
set_option maxHeartbeats 4000000 in
theorem mX11_forger_t (d : Nat) (h : mm_H) (n g : Nat) (hn : 1 ≤ n ∧ n ≤ 200) (hg : 1 ≤ g ∧ g ≤ 200) : mm_M (d + 1) YX11_forger [.ref 165, .int (nI n), .int (nI g)] h (some (.int (nI (fF g n)))) (mm_row h.1 211 (frow (h.1 211) g (n + 1)), h.2.1, h.2.2) := by
  refine mm_M.of [some (.ref 165), some (.int (nI n)), some (.int (nI g)), none, none, none, none] rfl rfl (Nat.le_of_ble_eq_true rfl) ?_
  have K35 : ∀ i, i ≤ n - 1 → mm_R (d + 1) YX11_forger 35 [some (.ref 165), some (.int (nI n)), some (.int (nI g)), some (.int (nI (i + 2))), none, none, none] [] (mm_row h.1 211 (frow (h.1 211) g (i + 2)), h.2.1, h.2.2) (some (.int (nI (fF g n)))) (mm_row h.1 211 (frow (h.1 211) g (n + 1)), h.2.1, h.2.2) := by
    refine mm_down (n - 1) ?_ (fun i hi ih => ?_)
    · have e1 : n - 1 + 2 = n + 1 := by omega
      rw [e1]
      refine mm_iload_n dX11_forger_35 rfl rfl ?_
      refine mm_iload_n dX11_forger_36 rfl rfl ?_
      refine mm_icmp_gt 138 dX11_forger_37 (by decide) (fun c_37 => ?_) (fun c_37 => ?_)
      · refine mm_aload_n dX11_forger_138 rfl rfl ?_
        refine mm_getS dX11_forger_139 fX11_153 sh_165 rfl gr_165_61 ?_
        refine mm_iload_n dX11_forger_142 rfl rfl ?_
        refine mm_iald (n) dX11_forger_143 sh_211 rfl (by omega) ?_
        exact mm_iretE dX11_forger_144 rfl (by dsimp only; rw [mm_row_s, frow_in (by omega) (by omega)]) rfl
      · exact absurd (nI_lt (by omega) (by omega)) c_37
    · have K48 : ∀ q, q ≤ min (i + 1) g → mm_R (d + 1) YX11_forger 48 [some (.ref 165), some (.int (nI n)), some (.int (nI g)), some (.int (nI (i + 2))), some (.int (nI (fbm g (i + 2) q))), some (.int (nI (q + 1))), none] [] (mm_row h.1 211 (frow (h.1 211) g (i + 2)), h.2.1, h.2.2) (some (.int (nI (fF g n)))) (mm_row h.1 211 (frow (h.1 211) g (n + 1)), h.2.1, h.2.2) := by
        refine mm_down (min (i + 1) g) ?_ (fun q hq ih2 => ?_)
        · have K124 : mm_R (d + 1) YX11_forger 124 [some (.ref 165), some (.int (nI n)), some (.int (nI g)), some (.int (nI (i + 2))), some (.int (nI (fbm g (i + 2) (min (i + 1) g)))), some (.int (nI (min (i + 1) g + 1))), none] [] (mm_row h.1 211 (frow (h.1 211) g (i + 2)), h.2.1, h.2.2) (some (.int (nI (fF g n)))) (mm_row h.1 211 (frow (h.1 211) g (n + 1)), h.2.1, h.2.2) := by
            refine mm_aload_n dX11_forger_124 rfl rfl ?_
            refine mm_getS dX11_forger_125 fX11_153 sh_165 rfl gr_165_61 ?_
            refine mm_iload_n dX11_forger_128 rfl rfl ?_
            refine mm_iload dX11_forger_129 rfl ?_
            refine mm_iast ((i + 2)) dX11_forger_131 sh_211 rfl (by omega) ?_
            refine mm_iinc dX11_forger_132 rfl rfl rfl ?_
            refine mm_goto 35 dX11_forger_135 (by decide) ?_
            refine mm_lessE (ls' := [some (.ref 165), some (.int (nI n)), some (.int (nI g)), some (.int (nI (i + 1 + 2))), none, none, none]) ?_ (mm_cast rfl rfl ?_ ih)
            · refine ⟨rfl, rfl, rfl, ?_, trivial⟩
              rw [show i + 1 + 2 = (i + 2) + 1 by omega, ← nI_inc]
            · dsimp only
              rw [show min (i + 1) g = min (i + 2 - 1) g by rfl, fbm_eq hg.1 (by omega) (by omega), mm_up_row, frow_s _ _ _ (by omega)]
          refine mm_iload dX11_forger_48 rfl ?_
          refine mm_iload_n dX11_forger_50 rfl rfl ?_
          refine mm_icmp_ge 124 dX11_forger_51 (by decide) (fun c_51 => ?_) (fun c_51 => ?_)
          · exact K124
          · refine mm_iload dX11_forger_54 rfl ?_
            refine mm_iload_n dX11_forger_56 rfl rfl ?_
            refine mm_icmp_gt 124 dX11_forger_57 (by decide) (fun c_57 => ?_) (fun c_57 => ?_)
            · exact K124
            · have z1 : ¬ i + 2 ≤ min (i + 1) g + 1 := fun z => c_51 (nI_le z (by omega))
              have z2 : ¬ g < min (i + 1) g + 1 := fun z => c_57 (nI_lt z (by omega))
              omega
        · have b1 := fF_le hg.1 (q + 1)
          have b2 := fF_le hg.1 (i + 2 - (q + 1))
          have b3 : fbm g (i + 2) q ≤ 200 := by
            have : ∀ z, fbm g (i + 2) z ≤ 200 := by
              intro z
              induction z with
              | zero => exact Nat.le_refl _
              | succ z hz => simp only [fbm]; omega
            exact this q
          refine mm_iload dX11_forger_48 rfl ?_
          refine mm_iload_n dX11_forger_50 rfl rfl ?_
          refine mm_icmp_ge 124 dX11_forger_51 (by decide) (fun c_51 => ?_) (fun c_51 => ?_)
          · exact absurd c_51 (nI_ge (by omega) (by omega))
          · refine mm_iload dX11_forger_54 rfl ?_
            refine mm_iload_n dX11_forger_56 rfl rfl ?_
            refine mm_icmp_gt 124 dX11_forger_57 (by decide) (fun c_57 => ?_) (fun c_57 => ?_)
            · exact absurd c_57 (nI_nlt (by omega) (by omega))
            · refine mm_iconst (x := 1) dX11_forger_60 (by decide) ?_
              refine mm_aload_n dX11_forger_61 rfl rfl ?_
              refine mm_getS dX11_forger_62 fX11_153 sh_165 rfl gr_165_61 ?_
              refine mm_iload dX11_forger_65 rfl ?_
              refine mm_iald (q + 1) dX11_forger_67 sh_211 rfl (by omega) ?_
              refine mm_aload_n dX11_forger_68 rfl rfl ?_
              refine mm_getS dX11_forger_69 fX11_153 sh_165 rfl gr_165_61 ?_
              refine mm_iload_n dX11_forger_72 rfl rfl ?_
              refine mm_iload dX11_forger_73 rfl ?_
              refine mm_isub dX11_forger_75 ?_
              refine mm_iald (i + 2 - (q + 1)) dX11_forger_76 sh_211 (pk_sub (by omega)) (by omega) ?_
              refine mm_icmp_le 90 dX11_forger_77 (by decide) (fun c_77 => ?_) (fun c_77 => ?_)
              · refine mm_aload_n dX11_forger_90 rfl rfl ?_
                refine mm_getS dX11_forger_91 fX11_153 sh_165 rfl gr_165_61 ?_
                refine mm_iload_n dX11_forger_94 rfl rfl ?_
                refine mm_iload dX11_forger_95 rfl ?_
                refine mm_isub dX11_forger_97 ?_
                refine mm_iald (i + 2 - (q + 1)) dX11_forger_98 sh_211 (pk_sub (by omega)) (by omega) ?_
                refine mm_iadd dX11_forger_99 ?_
                refine mm_istore dX11_forger_100 (by decide) rfl ?_
                refine mm_iload dX11_forger_102 rfl ?_
                refine mm_iload dX11_forger_104 rfl ?_
                refine mm_icmp_ge 114 dX11_forger_106 (by decide) (fun c_106 => ?_) (fun c_106 => ?_)
                · refine mm_iload dX11_forger_114 rfl ?_
                  refine mm_istore dX11_forger_116 (by decide) rfl ?_
                  refine mm_iinc dX11_forger_118 rfl rfl rfl ?_
                  refine mm_goto 48 dX11_forger_121 (by decide) ?_
                  refine mm_lessE (ls' := [some (.ref 165), some (.int (nI n)), some (.int (nI g)), some (.int (nI (i + 2))), some (.int (nI (fbm g (i + 2) (q + 1)))), some (.int (nI (q + 1 + 1))), none]) ⟨rfl, rfl, rfl, rfl, ?_, ?_, trivial⟩ ih2
                  · dsimp only at *
                    rw [mm_row_s, frow_in (by omega) (by omega), frow_in (by omega) (by omega)] at c_77
                    simp only [fbm]
                    (first | rw [(nI_max (by omega) (by omega)).1 c_77] | rw [(nI_max (by omega) (by omega)).2 c_77])
                    (try dsimp only at c_106 ⊢)
                    rw [mm_row_s, frow_in (by omega) (by omega)] at *
                    have e1 : ∀ a : Nat, (1 : Int32) + nI a = nI (1 + a) := fun a => nI_add 1 a
                    rw [e1] at *
                    (first | rw [Nat.min_eq_right ((nI_leI (by omega) (by omega)).mp c_106)] | rw [Nat.min_eq_left (Nat.le_of_lt (Nat.not_le.mp (fun z => c_106 (nI_le z (by omega)))))])
                  · rw [nI_succ (q + 1)]; rfl
                · refine mm_iload dX11_forger_109 rfl ?_
                  refine mm_goto 116 dX11_forger_111 (by decide) ?_
                  refine mm_istore dX11_forger_116 (by decide) rfl ?_
                  refine mm_iinc dX11_forger_118 rfl rfl rfl ?_
                  refine mm_goto 48 dX11_forger_121 (by decide) ?_
                  refine mm_lessE (ls' := [some (.ref 165), some (.int (nI n)), some (.int (nI g)), some (.int (nI (i + 2))), some (.int (nI (fbm g (i + 2) (q + 1)))), some (.int (nI (q + 1 + 1))), none]) ⟨rfl, rfl, rfl, rfl, ?_, ?_, trivial⟩ ih2
                  · dsimp only at *
                    rw [mm_row_s, frow_in (by omega) (by omega), frow_in (by omega) (by omega)] at c_77
                    simp only [fbm]
                    (first | rw [(nI_max (by omega) (by omega)).1 c_77] | rw [(nI_max (by omega) (by omega)).2 c_77])
                    (try dsimp only at c_106 ⊢)
                    rw [mm_row_s, frow_in (by omega) (by omega)] at *
                    have e1 : ∀ a : Nat, (1 : Int32) + nI a = nI (1 + a) := fun a => nI_add 1 a
                    rw [e1] at *
                    (first | rw [Nat.min_eq_right ((nI_leI (by omega) (by omega)).mp c_106)] | rw [Nat.min_eq_left (Nat.le_of_lt (Nat.not_le.mp (fun z => c_106 (nI_le z (by omega)))))])
                  · rw [nI_succ (q + 1)]; rfl
              · refine mm_aload_n dX11_forger_80 rfl rfl ?_
                refine mm_getS dX11_forger_81 fX11_153 sh_165 rfl gr_165_61 ?_
                refine mm_iload dX11_forger_84 rfl ?_
                refine mm_iald (q + 1) dX11_forger_86 sh_211 rfl (by omega) ?_
                refine mm_goto 99 dX11_forger_87 (by decide) ?_
                refine mm_iadd dX11_forger_99 ?_
                refine mm_istore dX11_forger_100 (by decide) rfl ?_
                refine mm_iload dX11_forger_102 rfl ?_
                refine mm_iload dX11_forger_104 rfl ?_
                refine mm_icmp_ge 114 dX11_forger_106 (by decide) (fun c_106 => ?_) (fun c_106 => ?_)
                · refine mm_iload dX11_forger_114 rfl ?_
                  refine mm_istore dX11_forger_116 (by decide) rfl ?_
                  refine mm_iinc dX11_forger_118 rfl rfl rfl ?_
                  refine mm_goto 48 dX11_forger_121 (by decide) ?_
                  refine mm_lessE (ls' := [some (.ref 165), some (.int (nI n)), some (.int (nI g)), some (.int (nI (i + 2))), some (.int (nI (fbm g (i + 2) (q + 1)))), some (.int (nI (q + 1 + 1))), none]) ⟨rfl, rfl, rfl, rfl, ?_, ?_, trivial⟩ ih2
                  · dsimp only at *
                    rw [mm_row_s, frow_in (by omega) (by omega), frow_in (by omega) (by omega)] at c_77
                    simp only [fbm]
                    (first | rw [(nI_max (by omega) (by omega)).1 c_77] | rw [(nI_max (by omega) (by omega)).2 c_77])
                    (try dsimp only at c_106 ⊢)
                    rw [mm_row_s, frow_in (by omega) (by omega)] at *
                    have e1 : ∀ a : Nat, (1 : Int32) + nI a = nI (1 + a) := fun a => nI_add 1 a
                    rw [e1] at *
                    (first | rw [Nat.min_eq_right ((nI_leI (by omega) (by omega)).mp c_106)] | rw [Nat.min_eq_left (Nat.le_of_lt (Nat.not_le.mp (fun z => c_106 (nI_le z (by omega)))))])
                  · rw [nI_succ (q + 1)]; rfl
                · refine mm_iload dX11_forger_109 rfl ?_
                  refine mm_goto 116 dX11_forger_111 (by decide) ?_
                  refine mm_istore dX11_forger_116 (by decide) rfl ?_
                  refine mm_iinc dX11_forger_118 rfl rfl rfl ?_
                  refine mm_goto 48 dX11_forger_121 (by decide) ?_
                  refine mm_lessE (ls' := [some (.ref 165), some (.int (nI n)), some (.int (nI g)), some (.int (nI (i + 2))), some (.int (nI (fbm g (i + 2) (q + 1)))), some (.int (nI (q + 1 + 1))), none]) ⟨rfl, rfl, rfl, rfl, ?_, ?_, trivial⟩ ih2
                  · dsimp only at *
                    rw [mm_row_s, frow_in (by omega) (by omega), frow_in (by omega) (by omega)] at c_77
                    simp only [fbm]
                    (first | rw [(nI_max (by omega) (by omega)).1 c_77] | rw [(nI_max (by omega) (by omega)).2 c_77])
                    (try dsimp only at c_106 ⊢)
                    rw [mm_row_s, frow_in (by omega) (by omega)] at *
                    have e1 : ∀ a : Nat, (1 : Int32) + nI a = nI (1 + a) := fun a => nI_add 1 a
                    rw [e1] at *
                    (first | rw [Nat.min_eq_right ((nI_leI (by omega) (by omega)).mp c_106)] | rw [Nat.min_eq_left (Nat.le_of_lt (Nat.not_le.mp (fun z => c_106 (nI_le z (by omega)))))])
                  · rw [nI_succ (q + 1)]; rfl
      refine mm_iload_n dX11_forger_35 rfl rfl ?_
      refine mm_iload_n dX11_forger_36 rfl rfl ?_
      refine mm_icmp_gt 138 dX11_forger_37 (by decide) (fun c_37 => ?_) (fun c_37 => ?_)
      · exact absurd c_37 (nI_nlt (by omega) (by omega))
      · refine mm_sipush (x := 200) dX11_forger_40 (by decide) ?_
        refine mm_istore dX11_forger_43 (by decide) rfl ?_
        refine mm_iconst (x := 1) dX11_forger_45 (by decide) ?_
        refine mm_istore dX11_forger_46 (by decide) rfl ?_
        exact mm_cast rfl rfl rfl (K48 0 (Nat.zero_le _))
  refine mm_iload_n dX11_forger_0 rfl rfl ?_
  refine mm_i2l dX11_forger_1 rfl ?_
  refine mm_lconst (x := 1) dX11_forger_2 (by decide) ?_
  refine mm_ldc2 dX11_forger_3 kX11_492 ?_
  refine mm_cS (Y1 := YX11_in) dX11_forger_6 lX11_171 sX11_in (mX11_in d h _ _ _) rfl rfl (by simp [Value.category]) ?_
  refine mm_if_eq 24 dX11_forger_9 (by decide) (fun c_9 => ?_) (fun c_9 => ?_)
  · have q1 := bI_e0.mp c_9
    exfalso; (try simp only [lg_lt, lg_ge, lg_gt, lg_le] at *); simp only [nI_toInt (show n < 2 ^ 31 by omega), nI_toInt (show g < 2 ^ 31 by omega), Int32.lt_iff_toInt_lt, Int32.le_iff_toInt_le, Int64.lt_iff_toInt_lt, Int64.le_iff_toInt_le, ti_0, ti_1, ti_2, ti_3, ti_4, ti_5, ti_6, ti_10, ti_12, ti_200, ti_400, ti_500, ti_999, ti_2400, ti_9999, ti_m9999, ti_m20000, ti_m1, i64_toInt, li_0, li_1, li_2, li_3, li_4, li_5, li_10, li_12, li_15, li_48, li_57, li_200, li_500, li_999, li_2400, li_9999, li_m9999, li_11999] at *; omega
  · refine mm_iload_n dX11_forger_12 rfl rfl ?_
    refine mm_i2l dX11_forger_13 rfl ?_
    refine mm_lconst (x := 1) dX11_forger_14 (by decide) ?_
    refine mm_ldc2 dX11_forger_15 kX11_492 ?_
    refine mm_cS (Y1 := YX11_in) dX11_forger_18 lX11_171 sX11_in (mX11_in d h _ _ _) rfl rfl (by simp [Value.category]) ?_
    refine mm_if_ne 26 dX11_forger_21 (by decide) (fun c_21 => ?_) (fun c_21 => ?_)
    · refine mm_aload_n dX11_forger_26 rfl rfl ?_
      refine mm_getS dX11_forger_27 fX11_153 sh_165 rfl gr_165_61 ?_
      refine mm_iconst (x := 1) dX11_forger_30 (by decide) ?_
      refine mm_iconst (x := 0) dX11_forger_31 (by decide) ?_
      refine mm_iast (1) dX11_forger_32 sh_211 rfl (by decide) ?_
      refine mm_iconst (x := 2) dX11_forger_33 (by decide) ?_
      refine mm_istore_n dX11_forger_34 rfl (by decide) rfl ?_
      refine mm_cast rfl rfl ?_ (K35 0 (Nat.zero_le _))
      rw [mm_up_eqrow]
      have e0 : upd (h.1 211) 1 0 = frow (h.1 211) g (0 + 2) := by
        funext j
        by_cases e : j = 1
        · subst e; simp only [upd, if_true]; rw [frow_in (by omega) (by omega), fF_1 (by omega)]; rfl
        · have : ¬ (1 ≤ j ∧ j < 0 + 2) := by omega
          simp only [upd, frow, if_neg e, if_neg this]
      rw [e0]
    · have q2 := bI_e0.mp c_21
      exfalso; (try simp only [lg_lt, lg_ge, lg_gt, lg_le] at *); simp only [nI_toInt (show n < 2 ^ 31 by omega), nI_toInt (show g < 2 ^ 31 by omega), Int32.lt_iff_toInt_lt, Int32.le_iff_toInt_le, Int64.lt_iff_toInt_lt, Int64.le_iff_toInt_le, ti_0, ti_1, ti_2, ti_3, ti_4, ti_5, ti_6, ti_10, ti_12, ti_200, ti_400, ti_500, ti_999, ti_2400, ti_9999, ti_m9999, ti_m20000, ti_m1, i64_toInt, li_0, li_1, li_2, li_3, li_4, li_5, li_10, li_12, li_15, li_48, li_57, li_200, li_500, li_999, li_2400, li_9999, li_m9999, li_11999] at *; omega
