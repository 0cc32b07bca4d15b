/-! The class reads a law: facts and tests at every depth. -/
theorem mX4_reads (B : Nat → Int32) (n : Nat) (hn : n ≤ 400) (r : Nat) (hr : r < 6) : ∀ k, k ≤ 10 → ∀ d, zl_FA B n r (d + 3 + 2 * k) (10 - k) ∧ zl_TE B n r (d + 4 + 2 * k) (10 - k) := by
  intro k
  induction k with
  | zero =>
    intro _ d
    have a : zl_FA B n r (d + 3) 10 := mX4_readFact_of B n hn r hr d 10 (by decide) (fun z => absurd z (by decide)) (fun z => absurd z (by decide))
    exact ⟨a, mX4_readTest_of B n hn r hr (d + 2) 10 a⟩
  | succ k ih =>
    intro hk d
    have a : ∀ d, zl_FA B n r (d + 3 + 2 * (k + 1)) (10 - (k + 1)) := fun d => by
      have e1 := (ih (by omega) (d + 1)).1
      have e2 := (ih (by omega) d).2
      have q : 10 - k = 10 - (k + 1) + 1 := by omega
      rw [q] at e1 e2
      have w : d + 3 + 2 * (k + 1) = (d + 2 + 2 * k) + 3 := by omega
      rw [w]
      refine mX4_readFact_of B n hn r hr (d + 2 + 2 * k) (10 - (k + 1)) (by omega) (fun _ => ?_) (fun _ => ?_)
      · rw [show d + 2 + 2 * k + 2 = d + 1 + 3 + 2 * k by omega]; exact e1
      · rw [show d + 2 + 2 * k + 2 = d + 4 + 2 * k by omega]; exact e2
    refine ⟨a d, ?_⟩
    have b := a d
    rw [show d + 3 + 2 * (k + 1) = (d + 2 + 2 * (k + 1)) + 1 by omega] at b
    rw [show d + 4 + 2 * (k + 1) = (d + 2 + 2 * (k + 1)) + 2 by omega]
    exact mX4_readTest_of B n hn r hr _ _ b
/-- a whole test, from outside -/
theorem mX4_readTest_0 (B : Nat → Int32) (n : Nat) (hn : n ≤ 400) (r : Nat) (hr : r < 6) (d : Nat) : zl_TE B n r (d + 24) 0 := (mX4_reads B n hn r hr 10 (Nat.le_refl _) d).2
