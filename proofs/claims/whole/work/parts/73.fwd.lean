/-! Facts and tests go forward. -/
theorem zl_x_fwd {B : Nat → Int32} {n : Nat} : ∀ f,
    (∀ d (s t : zl_S), s.1 ≤ n → s.2.1 ≤ 60 → zl_x B n f 0 d s = .ok t → zl_f n s t 12) ∧
    (∀ d (s t : zl_S), s.1 ≤ n → s.2.1 ≤ 60 → zl_x B n f 1 d s = .ok t → zl_f n s t 12) ∧
    (∀ m d (s t : zl_S), s.1 ≤ n → s.2.1 ≤ 60 → zl_x B n f (m + 2) d s = .ok t → t.1 ≤ n ∧ s.1 ≤ t.1 ∧ t.2.1 ≤ 60 ∧ ∀ y, zl_J (y + (if m = 0 then 0 else 3)) s → zl_J y t) := by
  intro f
  induction f with
  | zero =>
    have z : ∀ m d (s t : zl_S), ¬ zl_x B n 0 m d s = .ok t := fun m d s t h => by unfold zl_x at h; cases h
    exact ⟨fun d s t _ _ h => absurd h (z _ _ _ _), fun d s t _ _ h => absurd h (z _ _ _ _), fun m d s t _ _ h => absurd h (z _ _ _ _)⟩
  | succ f ih =>
    obtain ⟨i0, i1, i2⟩ := ih
    refine ⟨fun d s t hp hv h => ?_, fun d s t hp hv h => ?_, fun m d s t hp hv h => ?_⟩
    · simp only [zl_x] at h
      split at h
      · obtain ⟨s1, a1, h⟩ := zl_b_inv h
        obtain ⟨s2, a2, h⟩ := zl_b_inv h
        obtain ⟨s3, a3, h⟩ := zl_b_inv h
        cases h
        have b1 := zl_m_fwd hp a1
        have b2 := zl_g_fwd b1.1 a2
        have b3 := zl_m_fwd b2.1 a3
        exact ((b1.trans b2).trans b3).zl_e
      · rename_i hk
        split at h
        · cases h
        · split at h
          · rename_i hk30
            obtain ⟨s1, a1, h⟩ := zl_b_inv h
            cases h
            obtain ⟨c1, c2, c3⟩ := zl_a_bd (B := B) hp (by omega)
            have n3 := nx_30 (B := B) hp (Or.inl hk30)
            obtain ⟨e1, e2, e3, e4⟩ := i0 _ _ _ c1 hv a1
            refine ⟨e1, by have : nx B n s.1 < s1.1 := e2; show s.1 < s1.1; omega, e3, fun y hy => zl_e_J (e4 (y + 3) ?_ |> fun w => by unfold zl_J at w ⊢; omega)⟩
            unfold zl_J at hy ⊢
            show 3 * s.2.2.length + (y + 3) ≤ 6 * s.2.1 + nx B n s.1
            omega
          · obtain ⟨s1, a1, h⟩ := zl_b_inv h
            obtain ⟨c1, c2, c3⟩ := zl_a_bd (B := B) hp (by omega)
            obtain ⟨e1, e2, e3, e4⟩ := i1 _ _ _ c1 hv a1
            split at h
            · rename_i h5
              cases h
              obtain ⟨g1, g2, g3⟩ := zl_a_bd (B := B) (s := s1) e1 (by omega)
              refine ⟨g1, by have : nx B n s.1 < s1.1 := e2; have := c2; show s.1 < _; omega, e3, fun y hy => ?_⟩
              have := g3 _ (e4 _ (c3 y hy))
              unfold zl_J at this ⊢; omega
            · cases h
    · simp only [zl_x] at h
      obtain ⟨s1, a1, h⟩ := zl_b_inv h
      obtain ⟨e1, e2, e3, e4⟩ := i0 _ _ _ hp hv a1
      obtain ⟨g1, g2, g3, g4⟩ := i2 0 _ _ _ e1 e3 h
      exact ⟨g1, by omega, g3, fun y hy => g4 _ (by rw [if_pos rfl]; exact e4 y hy)⟩
    · simp only [zl_x] at h
      obtain ⟨W, eW⟩ : ∃ W, W = (if m = 0 then 0 else 32) := ⟨_, rfl⟩
      rw [← eW] at h
      obtain ⟨p2, v2⟩ : (zl_e0 W s).1 = s.1 ∧ (zl_e0 W s).2.1 = s.2.1 := by unfold zl_e0; split <;> exact ⟨rfl, rfl⟩
      have J : ∀ y, zl_J (y + (if m = 0 then 0 else 3)) s → zl_J y (zl_e0 W s) := fun y hy => by
        unfold zl_e0
        by_cases z : m = 0
        · rw [if_pos z] at hy eW
          rw [if_pos eW]; exact hy
        · rw [if_neg z] at hy eW
          rw [if_neg (by omega)]; exact zl_e_J hy
      by_cases k31 : kd B n s.1 = 31
      · rw [if_pos k31] at h
        obtain ⟨s1, a1, h⟩ := zl_b_inv h
        obtain ⟨c1, c2, c3⟩ := zl_a_bd (B := B) hp (by omega)
        obtain ⟨e1, e2, e3, e4⟩ := i0 _ _ _ c1 hv a1
        obtain ⟨g1, g2, g3, g4⟩ := i2 m _ (zl_e 31 s1) _ e1 e3 h
        refine ⟨g1, by have : nx B n s.1 < s1.1 := e2; have : s1.1 ≤ t.1 := g2; have : s.1 < nx B n s.1 := c2; omega, g3, fun y hy => g4 y (zl_e_J ?_)⟩
        have := e4 _ (c3 _ hy)
        unfold zl_J at this ⊢; omega
      · rw [if_neg k31] at h
        by_cases k32 : kd B n s.1 = 32
        · rw [if_pos k32] at h
          obtain ⟨s1, a1, h⟩ := zl_b_inv h
          obtain ⟨c1, c2, c3⟩ := zl_a_bd (B := B) (s := zl_e0 W s) (by rw [p2]; exact hp) (by rw [p2]; omega)
          obtain ⟨e1, e2, e3, e4⟩ := i0 _ _ _ c1 (by show (zl_e0 W s).2.1 ≤ 60; rw [v2]; exact hv) a1
          obtain ⟨g1, g2, g3, g4⟩ := i2 1 _ _ _ e1 e3 h
          refine ⟨g1, by rw [p2] at c2; omega, g3, fun y hy => g4 y ?_⟩
          have := e4 _ (c3 _ (J y hy))
          rw [if_neg (by decide)]
          unfold zl_J at this ⊢; omega
        · rw [if_neg k32] at h
          cases h
          exact ⟨by rw [p2]; exact hp, by rw [p2]; exact Nat.le_refl _, by rw [v2]; exact hv, J⟩
