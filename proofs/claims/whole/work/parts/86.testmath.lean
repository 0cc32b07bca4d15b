/-! A test by a machine that keeps what waits: it answers as the recursion does. -/
def zs_q (st : List Nat) (s : zl_S) : List Nat × zl_S := zs_p 10 31 (zs_p 9 30 st s).1 (zs_p 9 30 st s).2
/-- nothing below waits for an answer -/
def zs_b (b : List Nat) : Prop := b = [] ∨ ∃ c, b = 12 :: c
def zs_w (m : Nat) (b : List Nat) : List Nat := if m = 0 then b else 11 :: b
theorem zs_p_b {k t : Nat} {b : List Nat} {s : zl_S} (hb : zs_b b) (hk : ¬ k = 12) : zs_p k t b s = (b, s) := by
  rcases hb with rfl | ⟨c, rfl⟩
  · rfl
  · show (if 12 = k then _ else _) = _
    rw [if_neg (by omega)]
theorem zs_p_n {k t x : Nat} {b : List Nat} {s : zl_S} (h : ¬ x = k) : zs_p k t (x :: b) s = (x :: b, s) := if_neg h
theorem zs_p_y {k t : Nat} {b : List Nat} {s : zl_S} : zs_p k t (k :: b) s = zs_p k t b (zl_e t s) := if_pos rfl
theorem zs_p_w {k t m : Nat} {b : List Nat} {s : zl_S} (hb : zs_b b) (hk : k = 9 ∨ k = 10) : zs_p k t (zs_w m b) s = (zs_w m b, s) := by
  unfold zs_w
  split
  · exact zs_p_b hb (by omega)
  · exact zs_p_n (by omega)
theorem zs_q_w {m : Nat} {b : List Nat} {s : zl_S} (hb : zs_b b) : zs_q (zs_w m b) s = (zs_w m b, s) := by
  unfold zs_q
  rw [zs_p_w hb (Or.inl rfl)]
  exact zs_p_w hb (Or.inr rfl)
theorem zs_q_a {m : Nat} {b : List Nat} {s : zl_S} (hb : zs_b b) : zs_q (10 :: zs_w m b) s = (zs_w m b, zl_e 31 s) := by
  unfold zs_q
  rw [zs_p_n (show ¬ 10 = 9 by decide)]
  rw [zs_p_y]
  exact zs_p_w hb (Or.inr rfl)
theorem zs_q_n {st : List Nat} {s : zl_S} : zs_q (9 :: st) s = zs_q st (zl_e 30 s) := by
  unfold zs_q
  rw [zs_p_y]
theorem zs_p_o {m : Nat} {b : List Nat} {s : zl_S} (hb : zs_b b) : zs_p 11 32 (zs_w m b) s = (b, zl_e0 (if m = 0 then 0 else 32) s) := by
  unfold zs_w zl_e0
  by_cases z : m = 0
  · rw [if_pos z, if_pos z, if_pos rfl]; exact zs_p_b hb (by decide)
  · rw [if_neg z, if_neg z, if_neg (by decide), zs_p_y]; exact zs_p_b hb (by decide)
theorem zs_d_w {m : Nat} {b : List Nat} : zs_d (zs_w m b) = zs_d b := by
  unfold zs_w
  split
  · rfl
  · show (if 11 = 9 ∨ 11 = 12 then 1 else 0) + zs_d b = _
    rw [if_neg (by decide), Nat.zero_add]
theorem zs_d_1 {k : Nat} {b : List Nat} (h : k = 9 ∨ k = 12) : zs_d (k :: b) = zs_d b + 1 := by
  show (if k = 9 ∨ k = 12 then 1 else 0) + zs_d b = _
  rw [if_pos h, Nat.add_comm]
theorem zs_d_0 {k : Nat} {b : List Nat} (h : k = 10 ∨ k = 11) : zs_d (k :: b) = zs_d b := by
  show (if k = 9 ∨ k = 12 then 1 else 0) + zs_d b = _
  rw [if_neg (by omega), Nat.zero_add]
def zs_E {α : Type} (P : α → Prop) (Q : Nat → Prop) (q : Except Nat α) : Prop := match q with
  | .ok t => P t
  | .error c => Q c
theorem zt_main {B : Nat → Int32} {n : Nat} (Z1 Z2 Z3 : List Nat → zl_S → Prop) (ZE : Nat → Prop)
    (r1 : ∀ st s, kd B n s.1 = 30 → zs_d st < 10 → Z1 (9 :: st) (zl_a B n s) → Z1 st s)
    (r2 : ∀ st s, kd B n s.1 = 30 ∨ kd B n s.1 = 4 → zs_d st = 10 → ZE (1 + 8 * s.1 + 2) → Z1 st s)
    (r3 : ∀ st s, kd B n s.1 = 4 → zs_d st < 10 → Z1 (12 :: st) (zl_a B n s) → Z1 st s)
    (r4 : ∀ st s fu, n ≤ fu → ¬ kd B n s.1 = 30 → ¬ kd B n s.1 = 4 → zs_E (fun t => Z2 (zs_q st t).1 (zs_q st t).2) ZE (zl_k B n fu s) → Z1 st s)
    (r5 : ∀ st s, kd B n s.1 = 31 → Z1 (10 :: st) (zl_a B n s) → Z2 st s)
    (r6 : ∀ st s, kd B n s.1 = 32 → Z1 (11 :: (zs_p 11 32 st s).1) (zl_a B n (zs_p 11 32 st s).2) → Z2 st s)
    (r7 : ∀ st s, ¬ kd B n s.1 = 31 → ¬ kd B n s.1 = 32 → Z3 (zs_p 11 32 st s).1 (zs_p 11 32 st s).2 → Z2 st s)
    (r8 : ∀ st s, kd B n s.1 = 5 → Z2 (zs_q st (zl_a B n s)).1 (zs_q st (zl_a B n s)).2 → Z3 (12 :: st) s)
    (r9 : ∀ st s, ¬ kd B n s.1 = 5 → ZE (1 + 8 * s.1) → Z3 (12 :: st) s) : ∀ f,
    (∀ st (s : zl_S), zs_d st ≤ 10 → s.1 ≤ n → s.2.1 ≤ 60 → n + 3 * (n - s.1) + 4 ≤ f → zs_E (fun t => Z2 (zs_q st t).1 (zs_q st t).2) ZE (zl_x B n f 0 (zs_d st) s) → Z1 st s) ∧
    (∀ b (s : zl_S), zs_b b → zs_d b ≤ 10 → s.1 ≤ n → s.2.1 ≤ 60 → n + 3 * (n - s.1) + 5 ≤ f → zs_E (Z3 b) ZE (zl_x B n f 1 (zs_d b) s) → Z1 b s) ∧
    (∀ m b (s : zl_S), zs_b b → zs_d b ≤ 10 → s.1 ≤ n → s.2.1 ≤ 60 → n + 3 * (n - s.1) + 4 ≤ f → zs_E (Z3 b) ZE (zl_x B n f (m + 2) (zs_d b) s) → Z2 (zs_w m b) s) := by
  intro f
  induction f with
  | zero => exact ⟨fun st s _ _ _ h => by omega, fun b s _ _ _ _ h => by omega, fun m b s _ _ _ _ h => by omega⟩
  | succ f ih =>
    obtain ⟨i0, i1, i2⟩ := ih
    refine ⟨fun st s hd hp hv hf H => ?_, fun b s hb hd hp hv hf H => ?_, fun m b s hb hd hp hv hf H => ?_⟩
    · simp only [zl_x] at H
      by_cases c : ¬ kd B n s.1 = 30 ∧ ¬ kd B n s.1 = 4
      · rw [if_pos c] at H
        exact r4 st s f (by omega) c.1 c.2 H
      · rw [if_neg c] at H
        obtain ⟨c1, c2, c3⟩ := zl_a_bd (B := B) (s := s) hp (by omega)
        by_cases c10 : 10 ≤ zs_d st
        · rw [if_pos c10] at H
          exact r2 st s (by omega) (by omega) H
        · rw [if_neg c10] at H
          by_cases k30 : kd B n s.1 = 30
          · rw [if_pos k30] at H
            refine r1 st s k30 (by omega) (i0 (9 :: st) (zl_a B n s) (by rw [zs_d_1 (Or.inl rfl)]; omega) c1 hv (by omega) ?_)
            rw [zs_d_1 (Or.inl rfl)]
            cases e : zl_x B n f 0 (zs_d st + 1) (zl_a B n s) with
            | error c => rw [e] at H; exact H
            | ok t =>
              rw [e] at H
              show Z2 (zs_q (9 :: st) t).1 (zs_q (9 :: st) t).2
              rw [zs_q_n]
              exact H
          · rw [if_neg k30] at H
            refine r3 st s (by omega) (by omega) (i1 (12 :: st) (zl_a B n s) (Or.inr ⟨st, rfl⟩) (by rw [zs_d_1 (Or.inr rfl)]; omega) c1 hv (by omega) ?_)
            rw [zs_d_1 (Or.inr rfl)]
            cases e : zl_x B n f 1 (zs_d st + 1) (zl_a B n s) with
            | error c => rw [e] at H; exact H
            | ok t =>
              rw [e, zl_b_k] at H
              show Z3 (12 :: st) t
              by_cases k5 : kd B n t.1 = 5
              · rw [if_pos k5] at H; exact r8 st t k5 H
              · rw [if_neg k5] at H; exact r9 st t k5 H
    · simp only [zl_x] at H
      refine i0 b s hd hp hv (by omega) ?_
      cases e : zl_x B n f 0 (zs_d b) s with
      | error c => rw [e] at H; exact H
      | ok t =>
        rw [e, zl_b_k] at H
        obtain ⟨q1, q2, q3, -⟩ := (zl_x_fwd f).1 _ _ _ hp hv e
        have := i2 0 b t hb hd q1 q3 (by omega) H
        show Z2 (zs_q b t).1 (zs_q b t).2
        rw [show zs_q b t = (b, t) from zs_q_w (m := 0) hb]
        exact this
    · simp only [zl_x] at H
      by_cases k31 : kd B n s.1 = 31
      · rw [if_pos k31] at H
        obtain ⟨c1, c2, c3⟩ := zl_a_bd (B := B) (s := s) hp (by omega)
        refine r5 _ s k31 (i0 (10 :: zs_w m b) (zl_a B n s) (by rw [zs_d_0 (Or.inl rfl), zs_d_w]; exact hd) c1 hv (by omega) ?_)
        rw [zs_d_0 (Or.inl rfl), zs_d_w]
        cases e : zl_x B n f 0 (zs_d b) (zl_a B n s) with
        | error c => rw [e] at H; exact H
        | ok t =>
          rw [e, zl_b_k] at H
          obtain ⟨q1, q2, q3, -⟩ := (zl_x_fwd f).1 _ _ _ c1 hv e
          have := i2 m b (zl_e 31 t) hb hd q1 q3 (by show n + 3 * (n - t.1) + 4 ≤ f; omega) H
          show Z2 (zs_q (10 :: zs_w m b) t).1 (zs_q (10 :: zs_w m b) t).2
          rw [zs_q_a hb]
          exact this
      · rw [if_neg k31] at H
        by_cases k32 : kd B n s.1 = 32
        · rw [if_pos k32] at H
          refine r6 _ s k32 ?_
          rw [zs_p_o hb]
          obtain ⟨u, eu⟩ : ∃ u, u = zl_e0 (if m = 0 then 0 else 32) s := ⟨_, rfl⟩
          obtain ⟨p2, v2⟩ : u.1 = s.1 ∧ u.2.1 = s.2.1 := by rw [eu]; unfold zl_e0; split <;> exact ⟨rfl, rfl⟩
          rw [← eu] at H ⊢
          obtain ⟨c1, c2, c3⟩ := zl_a_bd (B := B) (s := u) (by rw [p2]; exact hp) (by rw [p2]; omega)
          refine i0 (11 :: b) (zl_a B n u) (by rw [zs_d_0 (Or.inr rfl)]; exact hd) c1 (by show u.2.1 ≤ 60; rw [v2]; exact hv) (by rw [p2] at c2; omega) ?_
          rw [zs_d_0 (Or.inr rfl)]
          cases e : zl_x B n f 0 (zs_d b) (zl_a B n u) with
          | error c => rw [e] at H; exact H
          | ok t =>
            rw [e, zl_b_k] at H
            obtain ⟨q1, q2, q3, -⟩ := (zl_x_fwd f).1 _ _ _ c1 (by show u.2.1 ≤ 60; rw [v2]; exact hv) e
            have := i2 1 b t hb hd q1 q3 (by rw [p2] at c2; omega) H
            show Z2 (zs_q (11 :: b) t).1 (zs_q (11 :: b) t).2
            rw [show zs_q (11 :: b) t = (11 :: b, t) from zs_q_w (m := 1) hb]
            exact this
        · rw [if_neg k32] at H
          refine r7 _ s k31 k32 ?_
          rw [zs_p_o hb]
          exact H
