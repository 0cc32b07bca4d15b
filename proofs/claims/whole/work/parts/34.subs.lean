/-! The sets within a set, in their order; learnWithin. -/
/-- s lies within W -/
abbrev sub (s W : Nat) : Prop := s &&& W = s
/-- the j-th set within W -/
def sb : Nat → Nat → Nat → Nat
  | 0, _, _ => 0
  | b + 1, W, j => if W % 2 = 1 then 2 * sb b (W / 2) (j / 2) + j % 2 else 2 * sb b (W / 2) j
/-- how many bits -/
def pb : Nat → Nat → Nat
  | 0, _ => 0
  | b + 1, W => pb b (W / 2) + W % 2
theorem sb_0 : ∀ b W, sb b W 0 = 0 := by
  intro b
  induction b with
  | zero => intro W; rfl
  | succ b ih => intro W; simp only [sb, ih]; split <;> rfl
theorem and_2 (a b x y : Nat) (hx : x < 2) (hy : y < 2) : (2 * a + x) &&& (2 * b + y) = 2 * (a &&& b) + x * y := by
  apply Nat.eq_of_testBit_eq
  intro i
  rw [Nat.testBit_and]
  cases i with
  | zero =>
    simp only [Nat.testBit_zero]
    rcases (show x = 0 ∨ x = 1 by omega) with rfl | rfl <;> rcases (show y = 0 ∨ y = 1 by omega) with rfl | rfl <;> simp [Nat.add_mod, Nat.mul_mod_right]
  | succ i =>
    simp only [Nat.testBit_succ]
    have h1 : (2 * a + x) / 2 = a := by omega
    have h2 : (2 * b + y) / 2 = b := by omega
    have h3 : (2 * (a &&& b) + x * y) / 2 = a &&& b := by
      rcases (show x = 0 ∨ x = 1 by omega) with rfl | rfl <;> rcases (show y = 0 ∨ y = 1 by omega) with rfl | rfl <;> omega
    rw [h1, h2, h3, Nat.testBit_and]
theorem sub_2 {s W : Nat} : sub s W ↔ sub (s / 2) (W / 2) ∧ (s % 2 = 1 → W % 2 = 1) := by
  unfold sub
  have e := and_2 (s / 2) (W / 2) (s % 2) (W % 2) (by omega) (by omega)
  rw [Nat.div_add_mod, Nat.div_add_mod] at e
  rw [e]
  rcases (show s % 2 = 0 ∨ s % 2 = 1 by omega) with z | z <;> rcases (show W % 2 = 0 ∨ W % 2 = 1 by omega) with y | y <;> rw [z, y] <;> simp <;> omega
theorem sb_sub : ∀ b W j, sub (sb b W j) W := by
  intro b
  induction b with
  | zero => intro W j; simp [sb, sub]
  | succ b ih =>
    intro W j
    rw [sub_2]
    simp only [sb]
    split
    · rename_i h
      have : (2 * sb b (W / 2) (j / 2) + j % 2) / 2 = sb b (W / 2) (j / 2) := by omega
      rw [this]
      exact ⟨ih _ _, fun _ => h⟩
    · have : 2 * sb b (W / 2) j / 2 = sb b (W / 2) j := by omega
      rw [this]
      exact ⟨ih _ _, fun z => by omega⟩
theorem sb_lt : ∀ b W j, W < 2 ^ b → sb b W j ≤ W := by
  intro b
  induction b with
  | zero => intro W j h; simp only [sb]; omega
  | succ b ih =>
    intro W j h
    rw [Nat.pow_succ] at h
    simp only [sb]
    split
    · have := ih (W / 2) (j / 2) (by omega); omega
    · have := ih (W / 2) j (by omega); omega
theorem sb_mono : ∀ b W i j, i < j → j < 2 ^ pb b W → sb b W i < sb b W j := by
  intro b
  induction b with
  | zero => intro W i j h1 h2; simp only [pb, Nat.pow_zero] at h2; omega
  | succ b ih =>
    intro W i j h1 h2
    simp only [pb] at h2
    simp only [sb]
    split
    · rename_i h
      rw [h, Nat.pow_succ] at h2
      by_cases e : i / 2 = j / 2
      · rw [e]; omega
      · have := ih (W / 2) (i / 2) (j / 2) (by omega) (by omega); omega
    · rename_i h
      have : W % 2 = 0 := by omega
      rw [this, Nat.add_zero] at h2
      have := ih (W / 2) i j h1 h2; omega
theorem sb_onto : ∀ b W t, W < 2 ^ b → sub t W → ∃ j, j < 2 ^ pb b W ∧ sb b W j = t := by
  intro b
  induction b with
  | zero =>
    intro W t h hs
    have : W = 0 := by omega
    subst this
    have ht : t = 0 := by unfold sub at hs; rw [Nat.and_zero] at hs; exact hs.symm
    subst ht
    exact ⟨0, by simp [pb], rfl⟩
  | succ b ih =>
    intro W t h hs
    rw [Nat.pow_succ] at h
    obtain ⟨s1, s2⟩ := sub_2.mp hs
    obtain ⟨j, hj, ej⟩ := ih (W / 2) (t / 2) (by omega) s1
    by_cases hw : W % 2 = 1
    · refine ⟨2 * j + t % 2, ?_, ?_⟩
      · simp only [pb]; rw [hw, Nat.pow_succ]; omega
      · simp only [sb]
        rw [if_pos hw]
        have : (2 * j + t % 2) / 2 = j := by omega
        rw [this, ej]
        omega
    · refine ⟨j, ?_, ?_⟩
      · simp only [pb]
        have : W % 2 = 0 := by omega
        rw [this]; exact hj
      · simp only [sb]
        rw [if_neg hw, ej]
        have : t % 2 = 0 := by
          rcases (show t % 2 = 0 ∨ t % 2 = 1 by omega) with z | z
          · exact z
          · exact absurd (s2 z) hw
        omega
/-- the next set within W, W's own next is the empty one -/
theorem sb_keep : ∀ b W s, W < 2 ^ b → sub s W → (s + 2 ^ b - 1 - W) &&& W = s := by
  intro b
  induction b with
  | zero =>
    intro W s h hs
    have : W = 0 := by omega
    subst this
    have ht : s = 0 := by unfold sub at hs; rw [Nat.and_zero] at hs; exact hs.symm
    subst ht
    rfl
  | succ b ih =>
    intro W s h hs
    rw [Nat.pow_succ] at h ⊢
    obtain ⟨s1, s2⟩ := sub_2.mp hs
    have q := ih (W / 2) (s / 2) (by omega) s1
    have e : s + 2 ^ b * 2 - 1 - W = 2 * (s / 2 + 2 ^ b - 1 - W / 2) + (s % 2 + 1 - W % 2) := by
      have : s % 2 ≤ W % 2 := by
        rcases (show s % 2 = 0 ∨ s % 2 = 1 by omega) with z | z
        · omega
        · rw [s2 z]; omega
      omega
    by_cases hw : W % 2 = 1
    · have e2 : s + 2 ^ b * 2 - 1 - W = 2 * (s / 2 + 2 ^ b - 1 - W / 2) + s % 2 := by omega
      have e3 := and_2 (s / 2 + 2 ^ b - 1 - W / 2) (W / 2) (s % 2) 1 (by omega) (by decide)
      have e4 : 2 * (W / 2) + 1 = W := by omega
      rw [e4, ← e2, q] at e3
      rw [e3]; omega
    · have hs0 : s % 2 = 0 := by
        rcases (show s % 2 = 0 ∨ s % 2 = 1 by omega) with z | z
        · exact z
        · exact absurd (s2 z) hw
      have e2 : s + 2 ^ b * 2 - 1 - W = 2 * (s / 2 + 2 ^ b - 1 - W / 2) + 1 := by omega
      have e3 := and_2 (s / 2 + 2 ^ b - 1 - W / 2) (W / 2) 1 0 (by decide) (by decide)
      have e4 : 2 * (W / 2) + 0 = W := by omega
      rw [e4, ← e2, q] at e3
      rw [e3]; omega
theorem sb_next : ∀ b W j P, W < 2 ^ b → P = 2 ^ pb b W → j < P → (sb b W j + 2 ^ b - W) &&& W = if j + 1 < P then sb b W (j + 1) else 0 := by
  intro b
  induction b with
  | zero =>
    intro W j P h hP hj
    have : W = 0 := by omega
    subst this
    simp [sb]
  | succ b ih =>
    intro W j P h hP hj
    rw [Nat.pow_succ] at h
    simp only [pb] at hP
    simp only [sb]
    by_cases hw : W % 2 = 1
    · rw [if_pos hw, if_pos hw]
      rw [hw, Nat.pow_succ] at hP
      obtain ⟨P1, hP1⟩ : ∃ p, p = 2 ^ pb b (W / 2) := ⟨_, rfl⟩
      rw [← hP1] at hP
      have hsl := sb_lt b (W / 2) (j / 2) (by omega)
      by_cases hj2 : j % 2 = 1
      · have q := ih (W / 2) (j / 2) P1 (by omega) hP1 (by omega)
        have e2 : 2 * sb b (W / 2) (j / 2) + j % 2 + 2 ^ (b + 1) - W = 2 * (sb b (W / 2) (j / 2) + 2 ^ b - W / 2) + 0 := by rw [Nat.pow_succ]; omega
        have e3 := and_2 (sb b (W / 2) (j / 2) + 2 ^ b - W / 2) (W / 2) 0 1 (by decide) (by decide)
        have e4 : 2 * (W / 2) + 1 = W := by omega
        rw [e4, ← e2, q] at e3
        rw [e3]
        have e5 : (j + 1) / 2 = j / 2 + 1 := by omega
        have e6 : (j + 1) % 2 = 0 := by omega
        rw [e5, e6]
        by_cases z : j / 2 + 1 < P1
        · rw [if_pos z, if_pos (by omega)]
        · rw [if_neg z, if_neg (by omega)]
      · have q := sb_keep b (W / 2) (sb b (W / 2) (j / 2)) (by omega) (sb_sub _ _ _)
        have e2 : 2 * sb b (W / 2) (j / 2) + j % 2 + 2 ^ (b + 1) - W = 2 * (sb b (W / 2) (j / 2) + 2 ^ b - 1 - W / 2) + 1 := by rw [Nat.pow_succ]; omega
        have e3 := and_2 (sb b (W / 2) (j / 2) + 2 ^ b - 1 - W / 2) (W / 2) 1 1 (by decide) (by decide)
        have e4 : 2 * (W / 2) + 1 = W := by omega
        rw [e4, ← e2, q] at e3
        rw [e3]
        have e5 : (j + 1) / 2 = j / 2 := by omega
        have e6 : (j + 1) % 2 = 1 := by omega
        rw [e5, e6, if_pos (by omega)]
    · rw [if_neg hw, if_neg hw]
      have hw0 : W % 2 = 0 := by omega
      rw [hw0, Nat.add_zero] at hP
      have hsl := sb_lt b (W / 2) j (by omega)
      have q := ih (W / 2) j P (by omega) hP hj
      have e2 : 2 * sb b (W / 2) j + 2 ^ (b + 1) - W = 2 * (sb b (W / 2) j + 2 ^ b - W / 2) + 0 := by rw [Nat.pow_succ]; omega
      have e3 := and_2 (sb b (W / 2) j + 2 ^ b - W / 2) (W / 2) 0 0 (by decide) (by decide)
      have e4 : 2 * (W / 2) + 0 = W := by omega
      rw [e4, ← e2, q] at e3
      rw [e3]
      split <;> omega
set_option maxRecDepth 100000 in
theorem pb_pc {W : Nat} (h : W < 4096) : pb 12 W = pc W := co_dec (N := 4096) (P := fun a => pb 12 a = pc a) (by decide +kernel) h
/-- the i-th set within W, of twelve coins -/
def sbs (W i : Nat) : Nat := if i < 2 ^ pc W then sb 12 W i else 0
theorem pb_32 (W : Nat) (h : W < 4096) : ∀ j, j < 2 ^ pc W → sb 32 W j = sb 12 W j := by
  have key : ∀ b c W j, W < 2 ^ b → b ≤ c → j < 2 ^ pb b W → sb c W j = sb b W j := by
    intro b
    induction b with
    | zero =>
      intro c W j h1 h2 h3
      have : W = 0 := by omega
      subst this
      simp only [pb, Nat.pow_zero] at h3
      have : j = 0 := by omega
      subst this
      rw [sb_0, sb_0]
    | succ b ih =>
      intro c W j h1 h2 h3
      rw [Nat.pow_succ] at h1
      obtain ⟨c, rfl⟩ : ∃ q, c = q + 1 := ⟨c - 1, by omega⟩
      simp only [sb]
      simp only [pb] at h3
      by_cases hw : W % 2 = 1
      · rw [if_pos hw, if_pos hw]
        rw [hw, Nat.pow_succ] at h3
        rw [ih c (W / 2) (j / 2) (by omega) (by omega) (by omega)]
      · rw [if_neg hw, if_neg hw]
        have hw0 : W % 2 = 0 := by omega
        rw [hw0, Nat.add_zero] at h3
        rw [ih c (W / 2) j (by omega) (by omega) h3]
  intro j hj
  rw [← pb_pc h] at hj
  exact key 12 32 W j h (by decide) hj
theorem pb_32c (W : Nat) (h : W < 4096) : pb 32 W = pc W := by
  have key : ∀ b c W, W < 2 ^ b → b ≤ c → pb c W = pb b W := by
    intro b
    induction b with
    | zero =>
      intro c W h1 h2
      have : W = 0 := by omega
      subst this
      have z : ∀ c, pb c 0 = 0 := by
        intro c
        induction c with
        | zero => rfl
        | succ c ih => simp only [pb]; simp [ih]
      rw [z, z]
    | succ b ih =>
      intro c W h1 h2
      rw [Nat.pow_succ] at h1
      obtain ⟨c, rfl⟩ : ∃ q, c = q + 1 := ⟨c - 1, by omega⟩
      simp only [pb]
      rw [ih c (W / 2) (by omega) (by omega)]
  rw [key 12 32 W h (by decide), pb_pc h]
/-- what the class computes for the next set -/
theorem nxt_sbs {W i : Nat} (h : W < 4096) (hi : i < 2 ^ pc W) : (nI (sbs W i) - nI W) &&& nI W = nI (sbs W (i + 1)) := by
  have e1 : sbs W i = sb 32 W i := by unfold sbs; rw [if_pos hi, pb_32 W h i hi]
  have e2 : sbs W (i + 1) = if i + 1 < 2 ^ pc W then sb 32 W (i + 1) else 0 := by
    unfold sbs
    by_cases z : i + 1 < 2 ^ pc W
    · rw [if_pos z, if_pos z, pb_32 W h _ z]
    · rw [if_neg z, if_neg z]
  have q := sb_next 32 W i (2 ^ pc W) (by omega) (by rw [pb_32c W h]) hi
  rw [← e1, ← e2] at q
  have hle : sbs W i ≤ W := by rw [e1]; exact sb_lt 32 W i (by omega)
  apply Int32.toBitVec_inj.mp
  apply BitVec.eq_of_toNat_eq
  have b1 : (nI W).toBitVec = BitVec.ofNat 32 W := rfl
  have b2 : (nI (sbs W i)).toBitVec = BitVec.ofNat 32 (sbs W i) := rfl
  have b3 : (nI (sbs W (i + 1))).toBitVec = BitVec.ofNat 32 (sbs W (i + 1)) := rfl
  rw [Int32.toBitVec_and, Int32.toBitVec_sub, b1, b2, b3, BitVec.toNat_and, BitVec.toNat_sub, BitVec.toNat_ofNat, BitVec.toNat_ofNat, BitVec.toNat_ofNat, ← q]
  have hq : (sbs W i + 2 ^ 32 - W) &&& W ≤ W := Nat.and_le_right
  have m1 : W % 2 ^ 32 = W := Nat.mod_eq_of_lt (by omega)
  have m2 : sbs W i % 2 ^ 32 = sbs W i := Nat.mod_eq_of_lt (by omega)
  rw [m1, m2]
  by_cases z : sbs W i = W
  · rw [z]
    have : (2 ^ 32 - W + W) % 2 ^ 32 = 0 := by omega
    rw [this]
    have : W + 2 ^ 32 - W = 2 ^ 32 := by omega
    rw [this]
    have : 2 ^ 32 &&& W = 0 := by
      apply Nat.eq_of_testBit_eq
      intro k
      rw [Nat.testBit_and, Nat.zero_testBit, Nat.testBit_two_pow]
      by_cases z2 : 32 = k
      · subst z2
        have : W.testBit 32 = false := Nat.testBit_lt_two_pow (by omega)
        simp [this]
      · simp [z2]
    rw [this]
    simp
  · have : (2 ^ 32 - W + sbs W i) % 2 ^ 32 = sbs W i + 2 ^ 32 - W := by
      rw [Nat.mod_eq_of_lt (by omega)]; omega
    rw [this, Nat.mod_eq_of_lt (by omega)]
theorem sbs_0 (W : Nat) : sbs W 0 = 0 := by
  unfold sbs
  split
  · exact sb_0 _ _
  · rfl
theorem sbs_le {W i : Nat} (h : W < 4096) : sbs W i ≤ W := by
  unfold sbs
  split
  · exact sb_lt 12 W i h
  · omega
theorem sbs_sub (W i : Nat) : sub (sbs W i) W := by
  unfold sbs
  split
  · exact sb_sub _ _ _
  · simp [sub]
theorem sbs_lt {W i j : Nat} (h : W < 4096) (hij : i < j) (hj : j < 2 ^ pc W) : sbs W i < sbs W j := by
  unfold sbs
  rw [if_pos (by omega), if_pos hj]
  rw [← pb_pc h] at hj
  exact sb_mono 12 W i j hij hj
theorem sbs_onto {W t : Nat} (h : W < 4096) (ht : sub t W) : ∃ j, j < 2 ^ pc W ∧ sbs W j = t := by
  obtain ⟨j, hj, e⟩ := sb_onto 12 W t h ht
  rw [pb_pc h] at hj
  exact ⟨j, hj, by unfold sbs; rw [if_pos hj]; exact e⟩
theorem sub_le {s W : Nat} (h : sub s W) : s ≤ W := by
  unfold sub at h
  have : s &&& W ≤ W := Nat.and_le_right
  omega
/-- a fold over all numbers that lie within W is one over the sets within W -/
def foldW {α : Type} (W : Nat) (st : α → Nat → α) (z : α) : Nat → α
  | 0 => z
  | s + 1 => if sub s W then st (foldW W st z s) s else foldW W st z s
def foldS {α : Type} (W : Nat) (st : α → Nat → α) (z : α) : Nat → α
  | 0 => z
  | i + 1 => st (foldS W st z i) (sbs W i)
theorem foldW_skip {α : Type} {W : Nat} {st : α → Nat → α} {z : α} {a : Nat} : ∀ b, a ≤ b → (∀ t, a ≤ t → t < b → ¬ sub t W) → foldW W st z b = foldW W st z a := by
  intro b
  induction b with
  | zero => intro h _; have : a = 0 := by omega
            subst this; rfl
  | succ b ih =>
    intro h hn
    by_cases e : a = b + 1
    · subst e; rfl
    · simp only [foldW]
      rw [if_neg (hn b (by omega) (by omega))]
      exact ih (by omega) (fun t h1 h2 => hn t h1 (by omega))
theorem fold_WS {α : Type} {W : Nat} (h : W < 4096) (st : α → Nat → α) (z : α) : ∀ i, i < 2 ^ pc W → foldS W st z i = foldW W st z (sbs W i) := by
  intro i
  induction i with
  | zero => intro _; rw [sbs_0]; rfl
  | succ i ih =>
    intro hi
    simp only [foldS]
    rw [ih (by omega)]
    have h1 := sbs_lt h (show i < i + 1 by omega) hi
    rw [foldW_skip (a := sbs W i + 1) (sbs W (i + 1)) (by omega) (fun t h2 h3 hs => by
      obtain ⟨j, hj, ej⟩ := sbs_onto h hs
      have c1 : i < j := by
        rcases (show j < i ∨ j = i ∨ i < j by omega) with z | z | z
        · have := sbs_lt h z (by omega); omega
        · subst z; omega
        · exact z
      rcases (show j < i + 1 ∨ j = i + 1 ∨ i + 1 < j by omega) with z | z | z
      · omega
      · subst z; omega
      · have := sbs_lt h z hj; omega)]
    simp only [foldW]
    rw [if_pos (sbs_sub W i)]
theorem two_pc (W : Nat) : 0 < 2 ^ pc W := Nat.pos_of_ne_zero (by simp)
theorem fold_all {α : Type} {W : Nat} (h : W < 4096) (st : α → Nat → α) (z : α) : foldS W st z (2 ^ pc W) = foldW W st z (W + 1) := by
  have hp := two_pc W
  obtain ⟨q, hq⟩ : ∃ q, 2 ^ pc W = q + 1 := ⟨2 ^ pc W - 1, by omega⟩
  have el : sbs W q = W := by
    obtain ⟨j, hj, ej⟩ := sbs_onto h (show sub W W by simp [sub])
    rcases (show j < q ∨ j = q by omega) with z | z
    · have := sbs_lt h z (by omega)
      have := sbs_le (i := q) h
      omega
    · subst z; exact ej
  rw [hq]
  simp only [foldS]
  rw [fold_WS h st z q (by omega), el]
  simp only [foldW]
  rw [if_pos (by simp [sub])]
