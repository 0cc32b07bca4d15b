/-! A text's words, numbers and signs; the class's Text cuts it so. -/
abbrev isD (c : Int32) : Prop := 48 ≤ c.toInt ∧ c.toInt ≤ 57
abbrev isLt (c : Int32) : Prop := 97 ≤ c.toInt ∧ c.toInt ≤ 122
def bD (c : Int32) : Bool := decide (isD c)
def bL (c : Int32) : Bool := decide (isLt c)
def bS (c : Int32) : Bool := decide (c = 32)
/-- where a run ends -/
def rle (P : Int32 → Bool) (B : Nat → Int32) : Nat → Nat → Nat
  | 0, p => p
  | k + 1, p => if P (B p) = true then rle P B k (p + 1) else p
def rEnd (P : Int32 → Bool) (B : Nat → Int32) (n p : Nat) : Nat := rle P B (n - p) p
theorem rE_out {P : Int32 → Bool} {B : Nat → Int32} {n p : Nat} (h : n ≤ p ∨ ¬ P (B p) = true) : rEnd P B n p = p := by
  unfold rEnd
  cases e : n - p with
  | zero => rfl
  | succ k =>
    simp only [rle]
    rw [if_neg (h.resolve_left (by omega))]
theorem rE_in {P : Int32 → Bool} {B : Nat → Int32} {n p : Nat} (h1 : p < n) (h2 : P (B p) = true) : rEnd P B n p = rEnd P B n (p + 1) := by
  unfold rEnd
  rw [show n - p = (n - (p + 1)) + 1 by omega]
  simp only [rle]
  rw [if_pos h2]
theorem rE_bd {P : Int32 → Bool} {B : Nat → Int32} {n : Nat} : ∀ m p, p + m = n → p ≤ rEnd P B n p ∧ rEnd P B n p ≤ n := by
  intro m
  induction m with
  | zero => intro p hp; rw [rE_out (Or.inl (by omega))]; omega
  | succ m ih =>
    intro p hp
    by_cases c : P (B p) = true
    · rw [rE_in (by omega) c]
      have := ih (p + 1) (by omega)
      omega
    · rw [rE_out (Or.inr c)]; omega
theorem rE_bd2 {P : Int32 → Bool} {B : Nat → Int32} {n p : Nat} (hp : p ≤ n) : p ≤ rEnd P B n p ∧ rEnd P B n p ≤ n := rE_bd (n - p) p (by omega)
theorem rE_all {P : Int32 → Bool} {B : Nat → Int32} {n : Nat} : ∀ m p, p + m = n → ∀ i, p ≤ i → i < rEnd P B n p → P (B i) = true := by
  intro m
  induction m with
  | zero => intro p hp i h1 h2; rw [rE_out (Or.inl (by omega))] at h2; omega
  | succ m ih =>
    intro p hp i h1 h2
    by_cases c : P (B p) = true
    · rw [rE_in (by omega) c] at h2
      by_cases e : i = p
      · rw [e]; exact c
      · exact ih (p + 1) (by omega) i (by omega) h2
    · rw [rE_out (Or.inr c)] at h2; omega
theorem rE_stop {P : Int32 → Bool} {B : Nat → Int32} {n : Nat} : ∀ m p, p + m = n → rEnd P B n p = n ∨ ¬ P (B (rEnd P B n p)) = true := by
  intro m
  induction m with
  | zero => intro p hp; rw [rE_out (Or.inl (by omega))]; left; omega
  | succ m ih =>
    intro p hp
    by_cases c : P (B p) = true
    · rw [rE_in (by omega) c]; exact ih (p + 1) (by omega)
    · rw [rE_out (Or.inr c)]; exact Or.inr c
def sk (B : Nat → Int32) (n p : Nat) : Nat := rEnd bS B n p
theorem sk_ge {B : Nat → Int32} {n p : Nat} (hp : p ≤ n) : p ≤ sk B n p ∧ sk B n p ≤ n := rE_bd2 hp
theorem sk_n {B : Nat → Int32} {n p : Nat} (hp : n ≤ p) : sk B n p = p := rE_out (Or.inl hp)
theorem sk_b {B : Nat → Int32} {n p : Nat} (h1 : p < n) (h2 : B p = 32) : sk B n p = sk B n (p + 1) := rE_in h1 (decide_eq_true h2)
theorem sk_o {B : Nat → Int32} {n p : Nat} (h2 : ¬ B p = 32) : sk B n p = p := rE_out (Or.inr (fun z => h2 (of_decide_eq_true z)))
theorem sk_nb {B : Nat → Int32} {n p : Nat} (hp : p ≤ n) : sk B n p = n ∨ ¬ B (sk B n p) = 32 := (rE_stop (P := bS) (B := B) (n - p) p (by omega)).imp id (fun z w => z (decide_eq_true w))
theorem sk_sk {B : Nat → Int32} {n p : Nat} (hp : p ≤ n) : sk B n (sk B n p) = sk B n p := by
  rcases sk_nb (B := B) hp with e | e
  · rw [e]; exact sk_n (Nat.le_refl _)
  · exact sk_o e
def wdL : List (List Int32) := [[110, 111, 116, 101], [115, 116, 114, 101, 110, 103, 116, 104], [119, 111, 114, 116, 104], [102, 97, 108, 108, 115], [99, 114, 97, 99, 107, 115], [99, 111, 105, 110], [100, 111, 119, 110], [100, 97, 109, 112], [109, 97, 110, 121], [108, 111, 117, 100, 101, 115, 116], [99, 111, 117, 110, 116, 101, 114], [98, 108, 117, 114], [100, 101, 97, 102], [105, 102], [110, 111, 116], [97, 110, 100], [111, 114]]
def mtb (B : Nat → Int32) (w : List Int32) (p e : Nat) : Bool := decide (e - p = w.length) && (List.range w.length).all (fun k => decide (B (p + k) = w.getD k 0))
theorem mtb_iff {B : Nat → Int32} {w : List Int32} {p e : Nat} : mtb B w p e = true ↔ e - p = w.length ∧ ∀ k, k < w.length → B (p + k) = w.getD k 0 := by
  unfold mtb
  rw [Bool.and_eq_true, decide_eq_true_eq, List.all_eq_true]
  constructor
  · rintro ⟨a, b⟩; exact ⟨a, fun k hk => of_decide_eq_true (b k (List.mem_range.mpr hk))⟩
  · rintro ⟨a, b⟩; exact ⟨a, fun k hk => decide_eq_true (b k (List.mem_range.mp hk))⟩
theorem mtb_uq {B : Nat → Int32} {w u : List Int32} {p e : Nat} (a : mtb B w p e = true) (b : mtb B u p e = true) : w = u := by
  obtain ⟨a1, a2⟩ := mtb_iff.mp a
  obtain ⟨b1, b2⟩ := mtb_iff.mp b
  exact list_ext_getD (by omega) (fun j hj => (a2 j hj).symm.trans (b2 j (by omega)))
def wkF (B : Nat → Int32) (p e : Nat) : Nat := match (List.range 17).find? (fun t => mtb B (wdL.getD t []) p e) with
  | some t => 16 + t
  | none => 1
theorem wd_inj {t u : Nat} (ht : t < 17) (hu : u < 17) (h : wdL.getD t [] = wdL.getD u []) : t = u := by
  have H : ∀ t, t < 17 → ∀ u, u < 17 → wdL.getD t [] = wdL.getD u [] → t = u := by decide +kernel
  exact H t ht u hu h
theorem wk_y {B : Nat → Int32} {p e t : Nat} (ht : t < 17) (h : mtb B (wdL.getD t []) p e = true) : wkF B p e = 16 + t := by
  unfold wkF
  cases q : (List.range 17).find? (fun t => mtb B (wdL.getD t []) p e) with
  | none => exact absurd h (by have := List.find?_eq_none.mp q t (List.mem_range.mpr ht); exact this)
  | some u =>
    have h1 := List.find?_some q
    have h2 := List.mem_range.mp (List.mem_of_find?_eq_some q)
    show 16 + u = 16 + t
    rw [wd_inj h2 ht (mtb_uq h1 h)]
theorem wk_n {B : Nat → Int32} {p e : Nat} (h : ∀ t, t < 17 → ¬ mtb B (wdL.getD t []) p e = true) : wkF B p e = 1 := by
  unfold wkF
  rw [List.find?_eq_none.mpr (fun t ht => h t (List.mem_range.mp ht))]
theorem wk_iff {B : Nat → Int32} {p e t : Nat} (ht : t < 17) : wkF B p e = 16 + t ↔ mtb B (wdL.getD t []) p e = true := by
  constructor
  · intro h
    by_cases z : ∃ u, u < 17 ∧ mtb B (wdL.getD u []) p e = true
    · obtain ⟨u, u1, u2⟩ := z
      rw [wk_y u1 u2] at h
      rw [show t = u by omega]; exact u2
    · rw [wk_n (fun u hu w => z ⟨u, hu, w⟩)] at h; omega
  · exact wk_y ht
theorem wk_bd (B : Nat → Int32) (p e : Nat) : wkF B p e = 1 ∨ (16 ≤ wkF B p e ∧ wkF B p e < 33) := by
  by_cases z : ∃ u, u < 17 ∧ mtb B (wdL.getD u []) p e = true
  · obtain ⟨u, u1, u2⟩ := z
    rw [wk_y u1 u2]; right; omega
  · rw [wk_n (fun u hu w => z ⟨u, hu, w⟩)]; left; rfl
abbrev two (B : Nat → Int32) (n p : Nat) : Prop := (B p = 60 ∨ B p = 62) ∧ p + 1 < n ∧ B (p + 1) = 61
def sgn (c : Int32) (t : Prop) [Decidable t] : Nat := if c = 59 then 3 else if c = 91 then 4 else if c = 93 then 5 else if c = 43 then 6 else if c = 45 then 7 else if c = 42 then 8 else if c = 47 then 9 else if c = 37 then 10 else if c = 60 then (if t then 12 else 11) else if c = 61 then 13 else if c = 62 then (if t then 14 else 15) else 1
def en (B : Nat → Int32) (n p : Nat) : Nat := if two B n p then p + 2 else if isLt (B p) then rEnd bL B n p else if isD (B p) then rEnd bD B n p else p + 1
def kd (B : Nat → Int32) (n p : Nat) : Nat := if n ≤ p then 0 else if isD (B p) then 2 else if isLt (B p) then wkF B p (en B n p) else sgn (B p) (two B n p)
def dgv (B : Nat → Int32) (p : Nat) : Nat → Int32
  | 0 => 0
  | k + 1 => dgv B p k * 10 + B (p + k) - 48
def num (B : Nat → Int32) (n p : Nat) : Int32 := if n ≤ p then 0 else if isD (B p) then (if 5 < en B n p - p then -1 else dgv B p (en B n p - p)) else 0
def nx (B : Nat → Int32) (n p : Nat) : Nat := if n ≤ p then n else sk B n (en B n p)
theorem en_bd {B : Nat → Int32} {n p : Nat} (h : p < n) : p < en B n p ∧ en B n p ≤ n := by
  unfold en
  by_cases c1 : two B n p
  · rw [if_pos c1]; have := c1.2.1; omega
  · rw [if_neg c1]
    by_cases c2 : isLt (B p)
    · rw [if_pos c2, rE_in h (decide_eq_true c2)]
      have := rE_bd2 (P := bL) (B := B) (n := n) (p := p + 1) (by omega)
      omega
    · rw [if_neg c2]
      by_cases c3 : isD (B p)
      · rw [if_pos c3, rE_in h (decide_eq_true c3)]
        have := rE_bd2 (P := bD) (B := B) (n := n) (p := p + 1) (by omega)
        omega
      · rw [if_neg c3]; omega
theorem nx_bd {B : Nat → Int32} {n p : Nat} (h : p < n) : p < nx B n p ∧ nx B n p ≤ n := by
  unfold nx
  rw [if_neg (by omega)]
  have := en_bd (B := B) h
  have := sk_ge (B := B) this.2
  omega
/-- where the words stand -/
def tpp (B : Nat → Int32) (n : Nat) : Nat → Nat
  | 0 => sk B n 0
  | j + 1 => nx B n (tpp B n j)
theorem tpp_ge {B : Nat → Int32} {n : Nat} : ∀ j, (∀ i, i < j → tpp B n i < n) → j ≤ tpp B n j ∧ tpp B n j ≤ n := by
  intro j
  induction j with
  | zero => intro _; exact ⟨Nat.zero_le _, (sk_ge (Nat.zero_le n)).2⟩
  | succ j ih =>
    intro h
    have := ih (fun i hi => h i (by omega))
    have := nx_bd (B := B) (h j (by omega))
    simp only [tpp]; omega
theorem t48 : (48 : Int32).toInt = 48 := by decide +kernel
theorem t57 : (57 : Int32).toInt = 57 := by decide +kernel
theorem t97 : (97 : Int32).toInt = 97 := by decide +kernel
theorem t122 : (122 : Int32).toInt = 122 := by decide +kernel
set_option maxRecDepth 100000 in
set_option maxHeartbeats 4000000 in
theorem mX8_isDigit (d : Nat) (h : mm_H) (c : Int32) : mm_M d YX8_isDigit [.int c] h (some (.int (bI (isD c)))) h := by
  refine mm_M.of [some (.int c)] rfl rfl (Nat.le_of_ble_eq_true rfl) ?_
  refine mm_iload_n dX8_isDigit_0 rfl rfl ?_
  refine mm_bipush (x := 48) dX8_isDigit_1 (by decide) ?_
  refine mm_icmp_lt 16 dX8_isDigit_3 (by decide) (fun c_3 => ?_) (fun c_3 => ?_)
  · refine mm_iconst (x := 0) dX8_isDigit_16 (by decide) ?_
    exact mm_zretE dX8_isDigit_17 rfl (bI_nar _) (by first | exact (bI_1 ⟨by rw [Int32.lt_iff_toInt_lt, t48] at c_3; omega, by rw [Int32.lt_iff_toInt_lt, t57] at c_9; omega⟩).symm | exact (bI_0 (fun z => by rw [Int32.lt_iff_toInt_lt, t48] at c_3; omega)).symm | exact (bI_0 (fun z => by rw [Int32.lt_iff_toInt_lt, t57] at c_9; omega)).symm) rfl
  · refine mm_iload_n dX8_isDigit_6 rfl rfl ?_
    refine mm_bipush (x := 57) dX8_isDigit_7 (by decide) ?_
    refine mm_icmp_gt 16 dX8_isDigit_9 (by decide) (fun c_9 => ?_) (fun c_9 => ?_)
    · refine mm_iconst (x := 0) dX8_isDigit_16 (by decide) ?_
      exact mm_zretE dX8_isDigit_17 rfl (bI_nar _) (by first | exact (bI_1 ⟨by rw [Int32.lt_iff_toInt_lt, t48] at c_3; omega, by rw [Int32.lt_iff_toInt_lt, t57] at c_9; omega⟩).symm | exact (bI_0 (fun z => by rw [Int32.lt_iff_toInt_lt, t48] at c_3; omega)).symm | exact (bI_0 (fun z => by rw [Int32.lt_iff_toInt_lt, t57] at c_9; omega)).symm) rfl
    · refine mm_iconst (x := 1) dX8_isDigit_12 (by decide) ?_
      refine mm_goto 17 dX8_isDigit_13 (by decide) ?_
      exact mm_zretE dX8_isDigit_17 rfl (bI_nar _) (by first | exact (bI_1 ⟨by rw [Int32.lt_iff_toInt_lt, t48] at c_3; omega, by rw [Int32.lt_iff_toInt_lt, t57] at c_9; omega⟩).symm | exact (bI_0 (fun z => by rw [Int32.lt_iff_toInt_lt, t48] at c_3; omega)).symm | exact (bI_0 (fun z => by rw [Int32.lt_iff_toInt_lt, t57] at c_9; omega)).symm) rfl
set_option maxRecDepth 100000 in
set_option maxHeartbeats 4000000 in
theorem mX8_isLetter (d : Nat) (h : mm_H) (c : Int32) : mm_M d YX8_isLetter [.int c] h (some (.int (bI (isLt c)))) h := by
  refine mm_M.of [some (.int c)] rfl rfl (Nat.le_of_ble_eq_true rfl) ?_
  refine mm_iload_n dX8_isLetter_0 rfl rfl ?_
  refine mm_bipush (x := 97) dX8_isLetter_1 (by decide) ?_
  refine mm_icmp_lt 16 dX8_isLetter_3 (by decide) (fun c_3 => ?_) (fun c_3 => ?_)
  · refine mm_iconst (x := 0) dX8_isLetter_16 (by decide) ?_
    exact mm_zretE dX8_isLetter_17 rfl (bI_nar _) (by first | exact (bI_1 ⟨by rw [Int32.lt_iff_toInt_lt, t97] at c_3; omega, by rw [Int32.lt_iff_toInt_lt, t122] at c_9; omega⟩).symm | exact (bI_0 (fun z => by rw [Int32.lt_iff_toInt_lt, t97] at c_3; omega)).symm | exact (bI_0 (fun z => by rw [Int32.lt_iff_toInt_lt, t122] at c_9; omega)).symm) rfl
  · refine mm_iload_n dX8_isLetter_6 rfl rfl ?_
    refine mm_bipush (x := 122) dX8_isLetter_7 (by decide) ?_
    refine mm_icmp_gt 16 dX8_isLetter_9 (by decide) (fun c_9 => ?_) (fun c_9 => ?_)
    · refine mm_iconst (x := 0) dX8_isLetter_16 (by decide) ?_
      exact mm_zretE dX8_isLetter_17 rfl (bI_nar _) (by first | exact (bI_1 ⟨by rw [Int32.lt_iff_toInt_lt, t97] at c_3; omega, by rw [Int32.lt_iff_toInt_lt, t122] at c_9; omega⟩).symm | exact (bI_0 (fun z => by rw [Int32.lt_iff_toInt_lt, t97] at c_3; omega)).symm | exact (bI_0 (fun z => by rw [Int32.lt_iff_toInt_lt, t122] at c_9; omega)).symm) rfl
    · refine mm_iconst (x := 1) dX8_isLetter_12 (by decide) ?_
      refine mm_goto 17 dX8_isLetter_13 (by decide) ?_
      exact mm_zretE dX8_isLetter_17 rfl (bI_nar _) (by first | exact (bI_1 ⟨by rw [Int32.lt_iff_toInt_lt, t97] at c_3; omega, by rw [Int32.lt_iff_toInt_lt, t122] at c_9; omega⟩).symm | exact (bI_0 (fun z => by rw [Int32.lt_iff_toInt_lt, t97] at c_3; omega)).symm | exact (bI_0 (fun z => by rw [Int32.lt_iff_toInt_lt, t122] at c_9; omega)).symm) rfl
set_option maxRecDepth 100000 in
set_option maxHeartbeats 4000000 in
theorem mX8_pieceEnd (d : Nat) (h : mm_H) (B : Nat → Int32) (n : Nat) (hn : n ≤ 400) (hB : ∀ i, i < n → h.1 1 i = B i) (p : Nat) (hp : p < n) : mm_M (d + 1) YX8_pieceEnd [.ref 1, .int (nI p), .int (nI n)] h (some (.int (nI (en B n p)))) h := by
  refine mm_M.of [some (.ref 1), some (.int (nI p)), some (.int (nI n)), none, none, none, none] rfl rfl (Nat.le_of_ble_eq_true rfl) ?_
  have eB := hB p hp
  have M1 := mX8_isLetter d h (B p)
  have M2 := mX8_isDigit d h (B p)
  have hdl : ¬ (isD (B p) ∧ isLt (B p)) := fun z => by have := z.1.2; have := z.2.1; omega
  have K68 : ∀ m b, b + m = n → p < b → (isLt (B p) → rEnd bL B n b = rEnd bL B n p) → (isD (B p) → rEnd bD B n b = rEnd bD B n p) → ((¬ isLt (B p) ∧ ¬ isD (B p)) → b = p + 1) → ¬ two B n p → ∀ tw, mm_R (d + 1) YX8_pieceEnd 68 [some (.ref 1), some (.int (nI p)), some (.int (nI n)), some (.int (bI (isLt (B p)))), some (.int (bI (isD (B p)))), some (.int tw), some (.int (nI b))] [] h (some (.int (nI (en B n p)))) h := by
    intro m
    induction m with
    | zero =>
      intro b hb hpb h1 h2 h3 h4 tw
      have hb : b = n := by omega
      subst hb
      have e : en B b p = b := by
        unfold en
        rw [if_neg h4]
        by_cases c : isLt (B p)
        · rw [if_pos c, ← h1 c]; exact rE_out (Or.inl (Nat.le_refl _))
        · rw [if_neg c]
          by_cases c2 : isD (B p)
          · rw [if_pos c2, ← h2 c2]; exact rE_out (Or.inl (Nat.le_refl _))
          · rw [if_neg c2]; exact (h3 ⟨c, c2⟩).symm
      refine mm_iload dX8_pieceEnd_68 rfl ?_
      refine mm_iload_n dX8_pieceEnd_70 rfl rfl ?_
      refine mm_icmp_ge 109 dX8_pieceEnd_71 (by decide) (fun c_71 => ?_) (fun c_71 => ?_)
      · refine mm_iload dX8_pieceEnd_109 rfl ?_
        exact mm_iretE dX8_pieceEnd_111 rfl (by rw [e]) rfl
      · exact absurd (Int32.le_refl _) c_71
    | succ m ih =>
      intro b hb hpb h1 h2 h3 h4 tw
      have hbn : b < n := by omega
      have eb := hB b hbn
      by_cases c : isLt (B p)
      · by_cases cb : isLt (B b)
        · have K := ih (b + 1) (by omega) (by omega) (fun z => by rw [← h1 z]; exact (rE_in hbn (decide_eq_true cb)).symm) (fun z => absurd ⟨z, c⟩ hdl) (fun z => absurd c z.1) h4 tw
          refine mm_iload dX8_pieceEnd_68 rfl ?_
          refine mm_iload_n dX8_pieceEnd_70 rfl rfl ?_
          refine mm_icmp_ge 109 dX8_pieceEnd_71 (by decide) (fun c_71 => ?_) (fun c_71 => ?_)
          · exact absurd c_71 (nI_ge hbn (by omega))
          · refine mm_iload_n dX8_pieceEnd_74 rfl rfl ?_
            refine mm_if_eq 88 dX8_pieceEnd_75 (by decide) (fun c_75 => ?_) (fun c_75 => ?_)
            · exact absurd c (bI_e0.mp c_75)
            · refine mm_aload_n dX8_pieceEnd_78 rfl rfl ?_
              refine mm_iload dX8_pieceEnd_79 rfl ?_
              refine mm_bald (b) dX8_pieceEnd_81 sh_1 rfl (by omega) ?_
              refine mm_cast (st' := [.int (B b)]) rfl (by rw [eb]) rfl ?_
              refine mm_cS (Y1 := YX8_isLetter) dX8_pieceEnd_82 lX8_49 sX8_isLetter (mX8_isLetter d h (B b)) rfl rfl (by simp [Value.category]) ?_
              refine mm_if_ne 103 dX8_pieceEnd_85 (by decide) (fun c_85 => ?_) (fun c_85 => ?_)
              · refine mm_iinc dX8_pieceEnd_103 rfl (nI_inc b) rfl ?_
                refine mm_goto 68 dX8_pieceEnd_106 (by decide) ?_
                exact K
              · exact absurd cb (bI_e0.mp c_85)
        · have e : en B n p = b := by
            unfold en
            rw [if_neg h4, if_pos c, ← h1 c]; exact rE_out (Or.inr (fun z => cb (of_decide_eq_true z)))
          refine mm_iload dX8_pieceEnd_68 rfl ?_
          refine mm_iload_n dX8_pieceEnd_70 rfl rfl ?_
          refine mm_icmp_ge 109 dX8_pieceEnd_71 (by decide) (fun c_71 => ?_) (fun c_71 => ?_)
          · exact absurd c_71 (nI_ge hbn (by omega))
          · refine mm_iload_n dX8_pieceEnd_74 rfl rfl ?_
            refine mm_if_eq 88 dX8_pieceEnd_75 (by decide) (fun c_75 => ?_) (fun c_75 => ?_)
            · exact absurd c (bI_e0.mp c_75)
            · refine mm_aload_n dX8_pieceEnd_78 rfl rfl ?_
              refine mm_iload dX8_pieceEnd_79 rfl ?_
              refine mm_bald (b) dX8_pieceEnd_81 sh_1 rfl (by omega) ?_
              refine mm_cast (st' := [.int (B b)]) rfl (by rw [eb]) rfl ?_
              refine mm_cS (Y1 := YX8_isLetter) dX8_pieceEnd_82 lX8_49 sX8_isLetter (mX8_isLetter d h (B b)) rfl rfl (by simp [Value.category]) ?_
              refine mm_if_ne 103 dX8_pieceEnd_85 (by decide) (fun c_85 => ?_) (fun c_85 => ?_)
              · exact absurd (bI_n0.mp c_85) cb
              · refine mm_iload dX8_pieceEnd_88 rfl ?_
                refine mm_if_eq 109 dX8_pieceEnd_90 (by decide) (fun c_90 => ?_) (fun c_90 => ?_)
                · refine mm_iload dX8_pieceEnd_109 rfl ?_
                  exact mm_iretE dX8_pieceEnd_111 rfl (by rw [e]) rfl
                · exact absurd ⟨bI_n0.mp c_90, c⟩ hdl
      · by_cases c2 : isD (B p)
        · by_cases cb : isD (B b)
          · have K := ih (b + 1) (by omega) (by omega) (fun z => absurd z c) (fun z => by rw [← h2 z]; exact (rE_in hbn (decide_eq_true cb)).symm) (fun z => absurd c2 z.2) h4 tw
            refine mm_iload dX8_pieceEnd_68 rfl ?_
            refine mm_iload_n dX8_pieceEnd_70 rfl rfl ?_
            refine mm_icmp_ge 109 dX8_pieceEnd_71 (by decide) (fun c_71 => ?_) (fun c_71 => ?_)
            · exact absurd c_71 (nI_ge hbn (by omega))
            · refine mm_iload_n dX8_pieceEnd_74 rfl rfl ?_
              refine mm_if_eq 88 dX8_pieceEnd_75 (by decide) (fun c_75 => ?_) (fun c_75 => ?_)
              · refine mm_iload dX8_pieceEnd_88 rfl ?_
                refine mm_if_eq 109 dX8_pieceEnd_90 (by decide) (fun c_90 => ?_) (fun c_90 => ?_)
                · exact absurd c2 (bI_e0.mp c_90)
                · refine mm_aload_n dX8_pieceEnd_93 rfl rfl ?_
                  refine mm_iload dX8_pieceEnd_94 rfl ?_
                  refine mm_bald (b) dX8_pieceEnd_96 sh_1 rfl (by omega) ?_
                  refine mm_cast (st' := [.int (B b)]) rfl (by rw [eb]) rfl ?_
                  refine mm_cS (Y1 := YX8_isDigit) dX8_pieceEnd_97 lX8_53 sX8_isDigit (mX8_isDigit d h (B b)) rfl rfl (by simp [Value.category]) ?_
                  refine mm_if_eq 109 dX8_pieceEnd_100 (by decide) (fun c_100 => ?_) (fun c_100 => ?_)
                  · exact absurd cb (bI_e0.mp c_100)
                  · refine mm_iinc dX8_pieceEnd_103 rfl (nI_inc b) rfl ?_
                    refine mm_goto 68 dX8_pieceEnd_106 (by decide) ?_
                    exact K
              · exact absurd (bI_n0.mp c_75) c
          · have e : en B n p = b := by
              unfold en
              rw [if_neg h4, if_neg c, if_pos c2, ← h2 c2]; exact rE_out (Or.inr (fun z => cb (of_decide_eq_true z)))
            refine mm_iload dX8_pieceEnd_68 rfl ?_
            refine mm_iload_n dX8_pieceEnd_70 rfl rfl ?_
            refine mm_icmp_ge 109 dX8_pieceEnd_71 (by decide) (fun c_71 => ?_) (fun c_71 => ?_)
            · exact absurd c_71 (nI_ge hbn (by omega))
            · refine mm_iload_n dX8_pieceEnd_74 rfl rfl ?_
              refine mm_if_eq 88 dX8_pieceEnd_75 (by decide) (fun c_75 => ?_) (fun c_75 => ?_)
              · refine mm_iload dX8_pieceEnd_88 rfl ?_
                refine mm_if_eq 109 dX8_pieceEnd_90 (by decide) (fun c_90 => ?_) (fun c_90 => ?_)
                · exact absurd c2 (bI_e0.mp c_90)
                · refine mm_aload_n dX8_pieceEnd_93 rfl rfl ?_
                  refine mm_iload dX8_pieceEnd_94 rfl ?_
                  refine mm_bald (b) dX8_pieceEnd_96 sh_1 rfl (by omega) ?_
                  refine mm_cast (st' := [.int (B b)]) rfl (by rw [eb]) rfl ?_
                  refine mm_cS (Y1 := YX8_isDigit) dX8_pieceEnd_97 lX8_53 sX8_isDigit (mX8_isDigit d h (B b)) rfl rfl (by simp [Value.category]) ?_
                  refine mm_if_eq 109 dX8_pieceEnd_100 (by decide) (fun c_100 => ?_) (fun c_100 => ?_)
                  · refine mm_iload dX8_pieceEnd_109 rfl ?_
                    exact mm_iretE dX8_pieceEnd_111 rfl (by rw [e]) rfl
                  · exact absurd (bI_n0.mp c_100) cb
              · exact absurd (bI_n0.mp c_75) c
        · have e : en B n p = b := by
            unfold en
            rw [if_neg h4, if_neg c, if_neg c2]; exact (h3 ⟨c, c2⟩).symm
          refine mm_iload dX8_pieceEnd_68 rfl ?_
          refine mm_iload_n dX8_pieceEnd_70 rfl rfl ?_
          refine mm_icmp_ge 109 dX8_pieceEnd_71 (by decide) (fun c_71 => ?_) (fun c_71 => ?_)
          · exact absurd c_71 (nI_ge hbn (by omega))
          · refine mm_iload_n dX8_pieceEnd_74 rfl rfl ?_
            refine mm_if_eq 88 dX8_pieceEnd_75 (by decide) (fun c_75 => ?_) (fun c_75 => ?_)
            · refine mm_iload dX8_pieceEnd_88 rfl ?_
              refine mm_if_eq 109 dX8_pieceEnd_90 (by decide) (fun c_90 => ?_) (fun c_90 => ?_)
              · refine mm_iload dX8_pieceEnd_109 rfl ?_
                exact mm_iretE dX8_pieceEnd_111 rfl (by rw [e]) rfl
              · exact absurd (bI_n0.mp c_90) c2
            · exact absurd (bI_n0.mp c_75) c
  have K := fun hno => K68 (n - (p + 1)) (p + 1) (by omega) (by omega) (fun z => (rE_in hp (decide_eq_true z)).symm) (fun z => (rE_in hp (decide_eq_true z)).symm) (fun _ => rfl) hno
  have e2 : two B n p → en B n p = p + 2 := fun z => by unfold en; rw [if_pos z]
  refine mm_aload_n dX8_pieceEnd_0 rfl rfl ?_
  refine mm_iload_n dX8_pieceEnd_1 rfl rfl ?_
  refine mm_bald (p) dX8_pieceEnd_2 sh_1 rfl (by omega) ?_
  refine mm_cast (st' := [.int (B p)]) rfl (by rw [eB] <;> rfl) rfl ?_
  refine mm_cS (Y1 := YX8_isLetter) dX8_pieceEnd_3 lX8_49 sX8_isLetter (M1) rfl rfl (by simp [Value.category]) ?_
  refine mm_istore_n dX8_pieceEnd_6 rfl (by decide) rfl ?_
  refine mm_aload_n dX8_pieceEnd_7 rfl rfl ?_
  refine mm_iload_n dX8_pieceEnd_8 rfl rfl ?_
  refine mm_bald (p) dX8_pieceEnd_9 sh_1 rfl (by omega) ?_
  refine mm_cast (st' := [.int (B p)]) rfl (by rw [eB] <;> rfl) rfl ?_
  refine mm_cS (Y1 := YX8_isDigit) dX8_pieceEnd_10 lX8_53 sX8_isDigit (M2) rfl rfl (by simp [Value.category]) ?_
  refine mm_istore dX8_pieceEnd_13 (by decide) rfl ?_
  refine mm_aload_n dX8_pieceEnd_15 rfl rfl ?_
  refine mm_iload_n dX8_pieceEnd_16 rfl rfl ?_
  refine mm_bald (p) dX8_pieceEnd_17 sh_1 rfl (by omega) ?_
  refine mm_cast (st' := [.int (B p)]) rfl (by rw [eB] <;> rfl) rfl ?_
  refine mm_bipush (x := 60) dX8_pieceEnd_18 (by decide) ?_
  refine mm_icmp_eq 31 dX8_pieceEnd_20 (by decide) (fun c_20 => ?_) (fun c_20 => ?_)
  · refine mm_iconst (x := 1) dX8_pieceEnd_31 (by decide) ?_
    refine mm_goto 36 dX8_pieceEnd_32 (by decide) ?_
    refine mm_istore dX8_pieceEnd_36 (by decide) rfl ?_
    refine mm_iload_n dX8_pieceEnd_38 rfl rfl ?_
    refine mm_iconst (x := 1) dX8_pieceEnd_39 (by decide) ?_
    refine mm_iadd dX8_pieceEnd_40 ?_
    refine mm_cast (st' := [.int (nI (p + 1))]) rfl (by rw [nI_succ] <;> rfl) rfl ?_
    refine mm_istore dX8_pieceEnd_41 (by decide) rfl ?_
    refine mm_iload dX8_pieceEnd_43 rfl ?_
    refine mm_if_eq 68 dX8_pieceEnd_45 (by decide) (fun c_45 => ?_) (fun c_45 => ?_)
    · exact absurd c_45 (by decide)
    · refine mm_iload dX8_pieceEnd_48 rfl ?_
      refine mm_iload_n dX8_pieceEnd_50 rfl rfl ?_
      refine mm_icmp_ge 68 dX8_pieceEnd_51 (by decide) (fun c_51 => ?_) (fun c_51 => ?_)
      · refine K (fun z => ?_) _
        obtain ⟨z1, z2, z3⟩ := z
        first | exact absurd c_51 (nI_ge z2 (by omega)) | exact absurd z3 c_60 | exact z1.elim c_20 c_28
      · refine mm_aload_n dX8_pieceEnd_54 rfl rfl ?_
        refine mm_iload dX8_pieceEnd_55 rfl ?_
        refine mm_bald ((p + 1)) dX8_pieceEnd_57 sh_1 rfl (by have := Nat.lt_of_not_le (fun z => c_51 (nI_le (a := n) (b := p + 1) z (by omega))); omega) ?_
        refine mm_cast (st' := [.int (B (p + 1))]) rfl (by rw [hB (p + 1) (Nat.lt_of_not_le (fun z => c_51 (nI_le z (by omega))))] <;> rfl) rfl ?_
        refine mm_bipush (x := 61) dX8_pieceEnd_58 (by decide) ?_
        refine mm_icmp_ne 68 dX8_pieceEnd_60 (by decide) (fun c_60 => ?_) (fun c_60 => ?_)
        · refine K (fun z => ?_) _
          obtain ⟨z1, z2, z3⟩ := z
          first | exact absurd c_51 (nI_ge z2 (by omega)) | exact absurd z3 c_60 | exact z1.elim c_20 c_28
        · refine mm_iload dX8_pieceEnd_63 rfl ?_
          refine mm_iconst (x := 1) dX8_pieceEnd_65 (by decide) ?_
          refine mm_iadd dX8_pieceEnd_66 ?_
          exact mm_iretE dX8_pieceEnd_67 rfl (by rw [e2 ⟨by first | exact Or.inl c_20 | exact Or.inr c_28, Nat.lt_of_not_le (fun z => c_51 (nI_le z (by omega))), c_60⟩]; exact (nI_succ (p + 1)).symm) rfl
  · refine mm_aload_n dX8_pieceEnd_23 rfl rfl ?_
    refine mm_iload_n dX8_pieceEnd_24 rfl rfl ?_
    refine mm_bald (p) dX8_pieceEnd_25 sh_1 rfl (by omega) ?_
    refine mm_cast (st' := [.int (B p)]) rfl (by rw [eB] <;> rfl) rfl ?_
    refine mm_bipush (x := 62) dX8_pieceEnd_26 (by decide) ?_
    refine mm_icmp_ne 35 dX8_pieceEnd_28 (by decide) (fun c_28 => ?_) (fun c_28 => ?_)
    · refine mm_iconst (x := 0) dX8_pieceEnd_35 (by decide) ?_
      refine mm_istore dX8_pieceEnd_36 (by decide) rfl ?_
      refine mm_iload_n dX8_pieceEnd_38 rfl rfl ?_
      refine mm_iconst (x := 1) dX8_pieceEnd_39 (by decide) ?_
      refine mm_iadd dX8_pieceEnd_40 ?_
      refine mm_cast (st' := [.int (nI (p + 1))]) rfl (by rw [nI_succ] <;> rfl) rfl ?_
      refine mm_istore dX8_pieceEnd_41 (by decide) rfl ?_
      refine mm_iload dX8_pieceEnd_43 rfl ?_
      refine mm_if_eq 68 dX8_pieceEnd_45 (by decide) (fun c_45 => ?_) (fun c_45 => ?_)
      · refine K (fun z => ?_) _
        obtain ⟨z1, z2, z3⟩ := z
        first | exact absurd c_51 (nI_ge z2 (by omega)) | exact absurd z3 c_60 | exact z1.elim c_20 c_28
      · exact absurd c_45 (by decide)
    · refine mm_iconst (x := 1) dX8_pieceEnd_31 (by decide) ?_
      refine mm_goto 36 dX8_pieceEnd_32 (by decide) ?_
      refine mm_istore dX8_pieceEnd_36 (by decide) rfl ?_
      refine mm_iload_n dX8_pieceEnd_38 rfl rfl ?_
      refine mm_iconst (x := 1) dX8_pieceEnd_39 (by decide) ?_
      refine mm_iadd dX8_pieceEnd_40 ?_
      refine mm_cast (st' := [.int (nI (p + 1))]) rfl (by rw [nI_succ] <;> rfl) rfl ?_
      refine mm_istore dX8_pieceEnd_41 (by decide) rfl ?_
      refine mm_iload dX8_pieceEnd_43 rfl ?_
      refine mm_if_eq 68 dX8_pieceEnd_45 (by decide) (fun c_45 => ?_) (fun c_45 => ?_)
      · exact absurd c_45 (by decide)
      · refine mm_iload dX8_pieceEnd_48 rfl ?_
        refine mm_iload_n dX8_pieceEnd_50 rfl rfl ?_
        refine mm_icmp_ge 68 dX8_pieceEnd_51 (by decide) (fun c_51 => ?_) (fun c_51 => ?_)
        · refine K (fun z => ?_) _
          obtain ⟨z1, z2, z3⟩ := z
          first | exact absurd c_51 (nI_ge z2 (by omega)) | exact absurd z3 c_60 | exact z1.elim c_20 c_28
        · refine mm_aload_n dX8_pieceEnd_54 rfl rfl ?_
          refine mm_iload dX8_pieceEnd_55 rfl ?_
          refine mm_bald ((p + 1)) dX8_pieceEnd_57 sh_1 rfl (by have := Nat.lt_of_not_le (fun z => c_51 (nI_le (a := n) (b := p + 1) z (by omega))); omega) ?_
          refine mm_cast (st' := [.int (B (p + 1))]) rfl (by rw [hB (p + 1) (Nat.lt_of_not_le (fun z => c_51 (nI_le z (by omega))))] <;> rfl) rfl ?_
          refine mm_bipush (x := 61) dX8_pieceEnd_58 (by decide) ?_
          refine mm_icmp_ne 68 dX8_pieceEnd_60 (by decide) (fun c_60 => ?_) (fun c_60 => ?_)
          · refine K (fun z => ?_) _
            obtain ⟨z1, z2, z3⟩ := z
            first | exact absurd c_51 (nI_ge z2 (by omega)) | exact absurd z3 c_60 | exact z1.elim c_20 c_28
          · refine mm_iload dX8_pieceEnd_63 rfl ?_
            refine mm_iconst (x := 1) dX8_pieceEnd_65 (by decide) ?_
            refine mm_iadd dX8_pieceEnd_66 ?_
            exact mm_iretE dX8_pieceEnd_67 rfl (by rw [e2 ⟨by first | exact Or.inl c_20 | exact Or.inr c_28, Nat.lt_of_not_le (fun z => c_51 (nI_le z (by omega))), c_60⟩]; exact (nI_succ (p + 1)).symm) rfl
