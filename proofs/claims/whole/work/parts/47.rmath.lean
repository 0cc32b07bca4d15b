/-! Rounds: how few quiet parts make up a set. -/
noncomputable def pI (P : Prop) : Int32 := by
  classical
  exact if P then 1 else 0
theorem pI_1 {P : Prop} (h : P) : pI P = 1 := by unfold pI; exact if_pos h
theorem pI_0 {P : Prop} (h : ¬ P) : pI P = 0 := by unfold pI; exact if_neg h
theorem pI_n0 {P : Prop} : (¬ pI P = 0) ↔ P := by
  by_cases h : P
  · rw [pI_1 h]; exact ⟨fun _ => h, fun _ => by decide⟩
  · rw [pI_0 h]; exact ⟨fun z => absurd rfl z, fun z => absurd z h⟩
theorem pI_e0 {P : Prop} : (pI P = 0) ↔ ¬ P := by
  by_cases h : P
  · rw [pI_1 h]; exact ⟨fun z => absurd z (by decide), fun z => absurd h z⟩
  · rw [pI_0 h]; exact ⟨fun _ => h, fun _ => rfl⟩
theorem pI_iff {P Q : Prop} (h : P ↔ Q) : pI P = pI Q := by rw [propext h]
theorem pI_nar (P : Prop) : narrow .boolean (.int (pI P)) = .int (pI P) := by
  by_cases h : P
  · rw [pI_1 h]; rfl
  · rw [pI_0 h]; rfl
theorem nI_land (a b : Nat) : nI a &&& nI b = nI (a &&& b) := by
  apply Int32.toBitVec_inj.mp
  rw [Int32.toBitVec_and]
  exact (BitVec.ofNat_and (w := 32) (x := a) (y := b)).symm
theorem nI_lor (a b : Nat) : nI a ||| nI b = nI (a ||| b) := by
  apply Int32.toBitVec_inj.mp
  rw [Int32.toBitVec_or]
  exact (BitVec.ofNat_or (w := 32) (x := a) (y := b)).symm
theorem nI_lxor (a b : Nat) : nI a ^^^ nI b = nI (a ^^^ b) := by
  apply Int32.toBitVec_inj.mp
  rw [Int32.toBitVec_xor]
  exact (BitVec.ofNat_xor (w := 32) (x := a) (y := b)).symm
theorem sub_iff {s W : Nat} : sub s W ↔ ∀ i, s.testBit i = true → W.testBit i = true := by
  constructor
  · intro h i hi; exact sub_bit h hi
  · intro h
    apply Nat.eq_of_testBit_eq
    intro i
    rw [Nat.testBit_and]
    by_cases c : s.testBit i = true
    · rw [c, h i c]; rfl
    · rw [Bool.not_eq_true] at c; rw [c]; rfl
theorem xor_bit {a b i : Nat} : (a ^^^ b).testBit i = true ↔ ¬ (a.testBit i = b.testBit i) := by
  rw [Nat.testBit_xor]
  cases a.testBit i <;> cases b.testBit i <;> simp
theorem xor_sub {S P : Nat} (h : sub P S) : sub (S ^^^ P) S := by
  rw [sub_iff]
  intro i hi
  rw [xor_bit] at hi
  by_cases c : S.testBit i = true
  · exact c
  · exfalso
    apply hi
    rw [Bool.not_eq_true] at c
    rw [c]
    by_cases e : P.testBit i = true
    · rw [sub_bit h e] at c; cases c
    · rw [Bool.not_eq_true] at e; exact e.symm
theorem xor_lt {S P : Nat} (h : sub P S) (h0 : ¬ P = 0) : S ^^^ P < S := by
  have h1 := sub_le (xor_sub h)
  refine Nat.lt_of_le_of_ne h1 (fun z => h0 ?_)
  have : S ^^^ P ^^^ S = S ^^^ S := by rw [z]
  rw [Nat.xor_comm, ← Nat.xor_assoc, Nat.xor_self, Nat.zero_xor] at this
  exact this
theorem xor_xor {S P : Nat} : S ^^^ (S ^^^ P) = P := by rw [← Nat.xor_assoc, Nat.xor_self, Nat.zero_xor]
/-- S is made up of n quiet parts -/
def cv (q : Nat → Prop) : Nat → Nat → Prop
  | 0, S => S = 0
  | n + 1, S => ∃ P, ¬ P = 0 ∧ sub P S ∧ q P ∧ cv q n (S ^^^ P)
theorem cv_top {q : Nat → Prop} {b : Nat} : ∀ n S, cv q n S → S.testBit b = true → ∃ m P, n = m + 1 ∧ P.testBit b = true ∧ sub P S ∧ q P ∧ cv q m (S ^^^ P) := by
  intro n
  induction n with
  | zero => intro S h hb; simp only [cv] at h; rw [h] at hb; simp at hb
  | succ n ih =>
    intro S h hb
    obtain ⟨P, h0, hs, hq, hc⟩ := h
    by_cases e : P.testBit b = true
    · exact ⟨n, P, rfl, e, hs, hq, hc⟩
    · obtain ⟨m, P2, rfl, c1, c2, c3, c4⟩ := ih (S ^^^ P) hc (by rw [xor_bit, hb]; exact fun z => e z.symm)
      have dj : ∀ i, P.testBit i = true → ¬ P2.testBit i = true := fun i h1 h2 => by
        have := sub_bit c2 h2
        rw [xor_bit, h1, sub_bit hs h1] at this
        exact this rfl
      refine ⟨m + 1, P2, rfl, c1, ?_, c3, P, h0, ?_, hq, ?_⟩
      · rw [sub_iff]; intro i hi; exact sub_bit (xor_sub hs) (sub_bit c2 hi)
      · rw [sub_iff]; intro i hi
        rw [xor_bit, sub_bit hs hi]
        exact fun z => dj i hi z.symm
      · rw [Nat.xor_assoc, Nat.xor_comm P2 P, ← Nat.xor_assoc]; exact c4
def lst (q : Nat → Prop) (n S : Nat) : Prop := cv q n S ∧ ∀ m, cv q m S → n ≤ m
theorem lst_uq {q : Nat → Prop} {n m S : Nat} (a : lst q n S) (b : lst q m S) : n = m := Nat.le_antisymm (a.2 m b.1) (b.2 n a.1)
theorem lst_0 {q : Nat → Prop} : lst q 0 0 := ⟨rfl, fun _ _ => Nat.zero_le _⟩
theorem lst_1 {q : Nat → Prop} {S : Nat} (h : q S) (h0 : ¬ S = 0) : lst q 1 S := by
  refine ⟨⟨S, h0, Nat.and_self S, h, Nat.xor_self S⟩, fun m hm => ?_⟩
  cases m with
  | zero => exact absurd hm h0
  | succ m => omega
set_option maxRecDepth 100000 in
theorem lg_top {a : Nat} (ha : a < 1024) : a = 0 ∨ (a.testBit a.log2 = true ∧ a ^^^ 2 ^ a.log2 = a - 2 ^ a.log2 ∧ 2 ^ a.log2 ≤ a ∧ a < 2 ^ (a.log2 + 1) ∧ pc (a ^^^ 2 ^ a.log2) + 1 = pc a ∧ a.log2 < 10 ∧ (a &&& 2 ^ a.log2) = 2 ^ a.log2) :=
  co_dec (N := 1024) (P := fun a => a = 0 ∨ (a.testBit a.log2 = true ∧ a ^^^ 2 ^ a.log2 = a - 2 ^ a.log2 ∧ 2 ^ a.log2 ≤ a ∧ a < 2 ^ (a.log2 + 1) ∧ pc (a ^^^ 2 ^ a.log2) + 1 = pc a ∧ a.log2 < 10 ∧ (a &&& 2 ^ a.log2) = 2 ^ a.log2)) (by decide +kernel) ha
set_option maxRecDepth 100000 in
theorem pc_10 {a : Nat} (ha : a < 1024) : pc a ≤ 10 := co_dec (N := 1024) (P := fun a => pc a ≤ 10) (by decide +kernel) ha
set_option maxRecDepth 100000 in
theorem pc_rm {a i : Nat} (ha : a < 1024) (hi : i < 10) (h : a.testBit i = true) : pc (a ^^^ 2 ^ i) + 1 = pc a := by
  have H : ∀ a, a < 1024 → ∀ i, i < 10 → a.testBit i = true → pc (a ^^^ 2 ^ i) + 1 = pc a := fun a ha => co_dec (N := 1024) (P := fun a => ∀ i, i < 10 → a.testBit i = true → pc (a ^^^ 2 ^ i) + 1 = pc a) (by decide +kernel) ha
  exact H a ha i hi h
theorem sub_p2 {a i : Nat} (h : a.testBit i = true) : sub (2 ^ i) a := by
  rw [sub_iff]
  intro j hj
  rw [Nat.testBit_two_pow] at hj
  have : i = j := of_decide_eq_true hj
  rw [← this]; exact h
theorem p2_ne (i : Nat) : ¬ 2 ^ i = 0 := by simp
theorem cv_pc {q : Nat → Prop} (h1 : ∀ i, i < 10 → q (2 ^ i)) : ∀ n S, S < n → S < 1024 → cv q (pc S) S := by
  intro n
  induction n with
  | zero => intro S h; omega
  | succ n ih =>
    intro S h hS
    rcases lg_top hS with rfl | ⟨t1, t2, t3, t4, t5, t6, t7⟩
    · show cv q 0 0
      exact rfl
    · rw [← t5]
      have hlt := xor_lt (sub_p2 t1) (p2_ne _)
      exact ⟨2 ^ S.log2, p2_ne _, sub_p2 t1, h1 _ t6, ih _ (by omega) (by omega)⟩
theorem lst_pc {q : Nat → Prop} (h1 : ∀ i, i < 10 → q (2 ^ i)) {n S : Nat} (hS : S < 1024) (h : lst q n S) : n ≤ pc S := h.2 _ (cv_pc h1 (S + 1) S (by omega) hS)
/-- the least over all parts -/
theorem lst_ref {q : Nat → Prop} (h1 : ∀ i, i < 10 → q (2 ^ i)) {S : Nat} (hS : S < 1024) (h0 : ¬ S = 0) {rd : Nat → Nat} (hr : ∀ T, T < S → lst q (rd T) T) {x : Nat} (a1 : x ≤ 10) (a2 : ∀ P, ¬ P = 0 → sub P S → q P → x ≤ 1 + rd (S ^^^ P)) (a3 : x = 10 ∨ ∃ P, ¬ P = 0 ∧ sub P S ∧ q P ∧ x = 1 + rd (S ^^^ P)) : lst q x S := by
  have ex : ∃ P, ¬ P = 0 ∧ sub P S ∧ q P ∧ x = 1 + rd (S ^^^ P) := by
    rcases a3 with e | e
    · rcases lg_top hS with z | ⟨t1, t2, t3, t4, t5, t6, t7⟩
      · exact absurd z h0
      · have hlt := xor_lt (sub_p2 t1) (p2_ne _)
        have b1 := a2 _ (p2_ne _) (sub_p2 t1) (h1 _ t6)
        have b2 := lst_pc h1 (by omega) (hr _ hlt)
        have b3 := pc_10 hS
        exact ⟨2 ^ S.log2, p2_ne _, sub_p2 t1, h1 _ t6, by omega⟩
    · exact e
  obtain ⟨P, c1, c2, c3, c4⟩ := ex
  refine ⟨?_, fun m hm => ?_⟩
  · rw [c4, Nat.add_comm]
    exact ⟨P, c1, c2, c3, (hr _ (xor_lt c2 c1)).1⟩
  · cases m with
    | zero => exact absurd hm h0
    | succ m =>
      obtain ⟨P, d1, d2, d3, d4⟩ := hm
      have := a2 P d1 d2 d3
      have := (hr _ (xor_lt d2 d1)).2 m d4
      omega
/-- the least over the parts with the highest -/
theorem lst_cls {q : Nat → Prop} (h1 : ∀ i, i < 10 → q (2 ^ i)) {S b : Nat} (hS : S < 1024) (hb : b < 10) (ht : S.testBit b = true) {rd : Nat → Nat} (hr : ∀ T, T < S → lst q (rd T) T) {x : Nat} (a1 : x ≤ 10) (a2 : ∀ L, sub L (S ^^^ 2 ^ b) → q (S ^^^ L) → x ≤ 1 + rd L) (a3 : x = 10 ∨ ∃ L, sub L (S ^^^ 2 ^ b) ∧ q (S ^^^ L) ∧ x = 1 + rd L) : lst q x S := by
  have h0 : ¬ S = 0 := fun z => by rw [z] at ht; simp at ht
  have key : ∀ L, sub L (S ^^^ 2 ^ b) → sub L S ∧ (S ^^^ L).testBit b = true ∧ L < S := fun L hL => by
    have h2 : sub L S := by
      rw [sub_iff]; intro i hi; exact sub_bit (xor_sub (sub_p2 ht)) (sub_bit hL hi)
    have h3 : ¬ L.testBit b = true := fun z => by
      have := sub_bit hL z
      rw [xor_bit, ht, Nat.testBit_two_pow_self] at this
      exact this rfl
    refine ⟨h2, by rw [xor_bit, ht]; exact fun z => h3 z.symm, ?_⟩
    refine Nat.lt_of_le_of_ne (sub_le h2) (fun z => h3 (by rw [z]; exact ht))
  have ex : ∃ L, sub L (S ^^^ 2 ^ b) ∧ q (S ^^^ L) ∧ x = 1 + rd L := by
    rcases a3 with e | e
    · have hs := Nat.and_self (S ^^^ 2 ^ b)
      have k := key _ hs
      have b1 := a2 _ hs (by rw [xor_xor]; exact h1 b hb)
      have b2 := lst_pc h1 (by omega) (hr _ k.2.2)
      have b3 := pc_10 hS
      have b4 : pc (S ^^^ 2 ^ b) + 1 = pc S := pc_rm hS hb ht
      exact ⟨_, hs, by rw [xor_xor]; exact h1 b hb, by omega⟩
    · exact e
  obtain ⟨L, c2, c3, c4⟩ := ex
  refine ⟨?_, fun m hm => ?_⟩
  · rw [c4, Nat.add_comm]
    obtain ⟨k1, k2, k3⟩ := key L c2
    refine ⟨S ^^^ L, fun z => by rw [z] at k2; simp at k2, xor_sub k1, c3, ?_⟩
    rw [xor_xor]
    exact (hr _ k3).1
  · obtain ⟨m, P, rfl, d1, d2, d3, d4⟩ := cv_top m S hm ht
    have hL : sub (S ^^^ P) (S ^^^ 2 ^ b) := by
      rw [sub_iff]
      intro i hi
      have hi2 := sub_bit (xor_sub d2) hi
      rw [xor_bit] at hi ⊢
      rw [hi2] at hi ⊢
      rw [Nat.testBit_two_pow]
      by_cases e : b = i
      · subst e; rw [d1] at hi; exact absurd rfl hi
      · simp [e]
    have e1 := a2 _ hL (by rw [xor_xor]; exact d3)
    have e2 := (hr _ (key _ hL).2.2).2 m d4
    omega
