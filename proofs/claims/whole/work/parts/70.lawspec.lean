/-! A law's text: what it says, as code. -/
/-- how far, how many values, the code -/
abbrev zl_S : Type := Nat × Nat × List Nat
def zl_b {α β : Type} (r : Except Nat α) (f : α → Except Nat β) : Except Nat β := match r with
  | .error c => .error c
  | .ok s => f s
theorem zl_b_e {α β : Type} {c : Nat} {f : α → Except Nat β} : zl_b (.error c) f = .error c := rfl
theorem zl_b_k {α β : Type} {s : α} {f : α → Except Nat β} : zl_b (.ok s) f = f s := rfl
theorem zl_b_inv {α β : Type} {r : Except Nat α} {f : α → Except Nat β} {t : β} (h : zl_b r f = .ok t) : ∃ s, r = .ok s ∧ f s = .ok t := by
  cases r with
  | error c => cases h
  | ok s => exact ⟨s, rfl, h⟩
def zl_e (k : Nat) (s : zl_S) : zl_S := (s.1, s.2.1, s.2.2 ++ [100000 + k])
def zl_e0 (w : Nat) (s : zl_S) : zl_S := if w = 0 then s else zl_e w s
def zl_a (B : Nat → Int32) (n : Nat) (s : zl_S) : zl_S := (nx B n s.1, s.2)
/-- a number or a word -/
def zl_v (B : Nat → Int32) (n : Nat) (s : zl_S) : Except Nat zl_S :=
  if ¬ (kd B n s.1 = 2 ∨ (16 ≤ kd B n s.1 ∧ kd B n s.1 ≤ 25)) then .error (1 + 8 * s.1)
  else if kd B n s.1 = 2 ∧ num B n s.1 < 0 then .error (1 + 8 * s.1 + 1)
  else if 60 ≤ s.2.1 then .error (1 + 8 * s.1 + 3)
  else .ok (nx B n s.1, s.2.1 + 1, s.2.2 ++ [if kd B n s.1 = 2 then (num B n s.1).toNatClampNeg else 100000 + kd B n s.1])
/-- what is multiplied, divided -/
def zl_t (B : Nat → Int32) (n : Nat) : Nat → zl_S → Except Nat zl_S
  | 0, _ => .error 0
  | f + 1, s => if 8 ≤ kd B n s.1 ∧ kd B n s.1 ≤ 10 then zl_b (zl_v B n (zl_a B n s)) (fun s1 => zl_t B n f (zl_e (kd B n s.1) s1)) else .ok s
/-- what is added, taken away -/
def zl_s (B : Nat → Int32) (n : Nat) : Nat → zl_S → Except Nat zl_S
  | 0, _ => .error 0
  | f + 1, s => if kd B n s.1 = 6 ∨ kd B n s.1 = 7 then zl_b (zl_v B n (zl_a B n s)) (fun s1 => zl_b (zl_t B n f s1) (fun s2 => zl_s B n f (zl_e (kd B n s.1) s2))) else .ok s
def zl_m (B : Nat → Int32) (n f : Nat) (s : zl_S) : Except Nat zl_S := zl_b (zl_v B n s) (fun s1 => zl_b (zl_t B n f s1) (fun s2 => zl_s B n f s2))
/-- the sign of a comparison -/
def zl_g (B : Nat → Int32) (n : Nat) (s : zl_S) : Except Nat zl_S :=
  if ¬ (11 ≤ kd B n s.1 ∧ kd B n s.1 ≤ 15) then .error (1 + 8 * s.1)
  else if 60 ≤ s.2.1 then .error (1 + 8 * s.1 + 3)
  else .ok (nx B n s.1, s.2.1 + 1, s.2.2)
/-- mode 0: a fact; 1: a test; 2, 3: behind its first fact, without and with an or that waits -/
def zl_x (B : Nat → Int32) (n : Nat) : Nat → Nat → Nat → zl_S → Except Nat zl_S
  | 0, _, _, _ => .error 0
  | f + 1, 0, d, s =>
    if ¬ kd B n s.1 = 30 ∧ ¬ kd B n s.1 = 4 then zl_b (zl_m B n f s) (fun s1 => zl_b (zl_g B n s1) (fun s2 => zl_b (zl_m B n f s2) (fun s3 => .ok (zl_e (kd B n s1.1) s3))))
    else if 10 ≤ d then .error (1 + 8 * s.1 + 2)
    else if kd B n s.1 = 30 then zl_b (zl_x B n f 0 (d + 1) (zl_a B n s)) (fun s1 => .ok (zl_e 30 s1))
    else zl_b (zl_x B n f 1 (d + 1) (zl_a B n s)) (fun s1 => if kd B n s1.1 = 5 then .ok (zl_a B n s1) else .error (1 + 8 * s1.1))
  | f + 1, 1, d, s => zl_b (zl_x B n f 0 d s) (fun s1 => zl_x B n f 2 d s1)
  | f + 1, m + 2, d, s =>
    if kd B n s.1 = 31 then zl_b (zl_x B n f 0 d (zl_a B n s)) (fun s1 => zl_x B n f (m + 2) d (zl_e 31 s1))
    else if kd B n s.1 = 32 then zl_b (zl_x B n f 0 d (zl_a B n (zl_e0 (if m = 0 then 0 else 32) s))) (fun s1 => zl_x B n f 3 d s1)
    else .ok (zl_e0 (if m = 0 then 0 else 32) s)
/-- how much room the code leaves -/
def zl_J (z : Nat) (s : zl_S) : Prop := 3 * s.2.2.length + z ≤ 6 * s.2.1 + s.1
theorem kd_pos {B : Nat → Int32} {n p : Nat} (hp : p ≤ n) (h : ¬ kd B n p = 0) : p < n := Nat.lt_of_le_of_ne hp (fun z => h ((kd_0 hp).mpr z))
theorem zl_v_ok {B : Nat → Int32} {n : Nat} {s t : zl_S} (h : zl_v B n s = .ok t) : ¬ kd B n s.1 = 0 ∧ ¬ 60 ≤ s.2.1 ∧ t = (nx B n s.1, s.2.1 + 1, s.2.2 ++ [if kd B n s.1 = 2 then (num B n s.1).toNatClampNeg else 100000 + kd B n s.1]) := by
  unfold zl_v at h
  split at h
  · cases h
  · split at h
    · cases h
    · split at h
      · cases h
      · rename_i a b c
        cases h
        exact ⟨by omega, c, rfl⟩
/-- positions stay in the text and go on; values stay few; the room -/
def zl_f (n : Nat) (s t : zl_S) (z : Nat) : Prop := t.1 ≤ n ∧ s.1 < t.1 ∧ t.2.1 ≤ 60 ∧ ∀ y, zl_J y s → zl_J (y + z) t
theorem zl_v_fwd {B : Nat → Int32} {n : Nat} {s t : zl_S} (hp : s.1 ≤ n) (h : zl_v B n s = .ok t) : zl_f n s t 4 := by
  obtain ⟨a, b, rfl⟩ := zl_v_ok h
  have := nx_bd (B := B) (kd_pos hp a)
  refine ⟨this.2, this.1, by show s.2.1 + 1 ≤ 60; omega, fun y hy => ?_⟩
  unfold zl_J at hy ⊢
  simp only [List.length_append, List.length_cons, List.length_nil]
  omega
theorem zl_a_bd {B : Nat → Int32} {n : Nat} {s : zl_S} (hp : s.1 ≤ n) (h : ¬ kd B n s.1 = 0) : (zl_a B n s).1 ≤ n ∧ s.1 < (zl_a B n s).1 ∧ ∀ y, zl_J y s → zl_J (y + 1) (zl_a B n s) := by
  have := nx_bd (B := B) (kd_pos hp h)
  refine ⟨this.2, this.1, fun y hy => ?_⟩
  unfold zl_J at hy ⊢
  show 3 * s.2.2.length + (y + 1) ≤ 6 * s.2.1 + nx B n s.1
  omega
theorem zl_e_J {k y : Nat} {s : zl_S} (h : zl_J (y + 3) s) : zl_J y (zl_e k s) := by
  unfold zl_J at h ⊢
  simp only [zl_e, List.length_append, List.length_cons, List.length_nil]
  omega
/-- the same, where nothing need be read -/
def zl_f0 (n : Nat) (s t : zl_S) : Prop := t.1 ≤ n ∧ s.1 ≤ t.1 ∧ t.2.1 ≤ 60 ∧ ∀ y, zl_J y s → zl_J y t
theorem zl_t_fwd {B : Nat → Int32} {n : Nat} : ∀ f (s t : zl_S), s.1 ≤ n → s.2.1 ≤ 60 → zl_t B n f s = .ok t → zl_f0 n s t ∧ ¬ (8 ≤ kd B n t.1 ∧ kd B n t.1 ≤ 10) := by
  intro f
  induction f with
  | zero => intro s t _ _ h; simp only [zl_t] at h; cases h
  | succ f ih =>
    intro s t hp hv h
    simp only [zl_t] at h
    by_cases c : 8 ≤ kd B n s.1 ∧ kd B n s.1 ≤ 10
    · rw [if_pos c] at h
      obtain ⟨s1, a1, a2⟩ := zl_b_inv h
      obtain ⟨b1, b2, b3⟩ := zl_a_bd (B := B) hp (by omega)
      obtain ⟨c1, c2, c3, c4⟩ := zl_v_fwd b1 a1
      obtain ⟨⟨d1, d2, d3, d4⟩, d5⟩ := ih (zl_e (kd B n s.1) s1) t c1 c3 a2
      refine ⟨⟨d1, ?_, d3, fun y hy => d4 y (zl_e_J ?_)⟩, d5⟩
      · have : s1.1 ≤ t.1 := d2
        omega
      · have := c4 _ (b3 y hy)
        unfold zl_J at this ⊢; omega
    · rw [if_neg c] at h
      cases h
      exact ⟨⟨hp, Nat.le_refl _, hv, fun y hy => hy⟩, c⟩
theorem zl_s_fwd {B : Nat → Int32} {n : Nat} : ∀ f (s t : zl_S), s.1 ≤ n → s.2.1 ≤ 60 → zl_s B n f s = .ok t → zl_f0 n s t := by
  intro f
  induction f with
  | zero => intro s t _ _ h; simp only [zl_s] at h; cases h
  | succ f ih =>
    intro s t hp hv h
    simp only [zl_s] at h
    by_cases c : kd B n s.1 = 6 ∨ kd B n s.1 = 7
    · rw [if_pos c] at h
      obtain ⟨s1, a1, a2⟩ := zl_b_inv h
      obtain ⟨s2, a3, a4⟩ := zl_b_inv a2
      obtain ⟨b1, b2, b3⟩ := zl_a_bd (B := B) hp (by omega)
      obtain ⟨c1, c2, c3, c4⟩ := zl_v_fwd b1 a1
      obtain ⟨⟨e1, e2, e3, e4⟩, -⟩ := zl_t_fwd f s1 s2 c1 c3 a3
      obtain ⟨d1, d2, d3, d4⟩ := ih (zl_e (kd B n s.1) s2) t e1 e3 a4
      refine ⟨d1, ?_, d3, fun y hy => d4 y (zl_e_J ?_)⟩
      · have : s2.1 ≤ t.1 := d2
        omega
      · have := e4 _ (c4 _ (b3 y hy))
        unfold zl_J at this ⊢; omega
    · rw [if_neg c] at h
      cases h
      exact ⟨hp, Nat.le_refl _, hv, fun y hy => hy⟩
theorem zl_m_fwd {B : Nat → Int32} {n f : Nat} {s t : zl_S} (hp : s.1 ≤ n) (h : zl_m B n f s = .ok t) : zl_f n s t 4 := by
  unfold zl_m at h
  obtain ⟨s1, a1, a2⟩ := zl_b_inv h
  obtain ⟨s2, a3, a4⟩ := zl_b_inv a2
  obtain ⟨c1, c2, c3, c4⟩ := zl_v_fwd hp a1
  obtain ⟨⟨e1, e2, e3, e4⟩, -⟩ := zl_t_fwd f s1 s2 c1 c3 a3
  obtain ⟨d1, d2, d3, d4⟩ := zl_s_fwd f s2 t e1 e3 a4
  exact ⟨d1, by omega, d3, fun y hy => d4 _ (e4 _ (c4 y hy))⟩
theorem zl_g_ok {B : Nat → Int32} {n : Nat} {s t : zl_S} (h : zl_g B n s = .ok t) : (11 ≤ kd B n s.1 ∧ kd B n s.1 ≤ 15) ∧ ¬ 60 ≤ s.2.1 ∧ t = (nx B n s.1, s.2.1 + 1, s.2.2) := by
  unfold zl_g at h
  split at h
  · cases h
  · split at h
    · cases h
    · rename_i a b
      cases h
      exact ⟨Decidable.not_not.mp a, b, rfl⟩
theorem zl_g_fwd {B : Nat → Int32} {n : Nat} {s t : zl_S} (hp : s.1 ≤ n) (h : zl_g B n s = .ok t) : zl_f n s t 7 := by
  obtain ⟨a, b, rfl⟩ := zl_g_ok h
  have := nx_bd (B := B) (kd_pos (B := B) hp (by omega))
  refine ⟨this.2, this.1, by show s.2.1 + 1 ≤ 60; omega, fun y hy => ?_⟩
  unfold zl_J at hy ⊢
  show 3 * s.2.2.length + (y + 7) ≤ 6 * (s.2.1 + 1) + nx B n s.1
  omega
/-- two of them, one behind the other -/
theorem zl_f.trans {n : Nat} {s t u : zl_S} {a b : Nat} (x : zl_f n s t a) (y : zl_f n t u b) : zl_f n s u (a + b) := ⟨y.1, Nat.lt_trans x.2.1 y.2.1, y.2.2.1, fun k hk => by have := y.2.2.2 _ (x.2.2.2 k hk); rw [Nat.add_assoc] at this; exact this⟩
theorem zl_f.zl_e {n : Nat} {s t : zl_S} {a k : Nat} (x : zl_f n s t (a + 3)) : zl_f n s (zl_e k t) a := ⟨x.1, x.2.1, x.2.2.1, fun y hy => zl_e_J (by have := x.2.2.2 y hy; rw [← Nat.add_assoc] at this; exact this)⟩
theorem zl_f.less {n : Nat} {s t : zl_S} {a b : Nat} (x : zl_f n s t a) (h : b ≤ a) : zl_f n s t b := ⟨x.1, x.2.1, x.2.2.1, fun y hy => by have := x.2.2.2 y hy; unfold zl_J at this ⊢; omega⟩
theorem zl_e0_fwd {n w : Nat} {s t : zl_S} {a : Nat} (x : zl_f n s t (a + 3)) : zl_f n s (zl_e0 w t) a := by
  unfold zl_e0
  split
  · exact x.less (by omega)
  · exact x.zl_e
/-- a NOT is three bytes long -/
theorem nx_30 {B : Nat → Int32} {n p : Nat} (hp : p ≤ n) (h : kd B n p = 30 ∨ kd B n p = 31) : p + 3 ≤ nx B n p := by
  have key : ∀ i, 1 ≤ i → i < 18 → mm_sl.getD i 0 = 3 → kd B n p = ki i → p + 3 ≤ nx B n p := fun i h1 h2 h3 hk => by
    obtain ⟨a, b⟩ := en_w hp h1 h2 hk
    unfold nx
    rw [if_neg (by omega), b, h3]
    have := en_bd (B := B) a
    have := sk_ge (B := B) (n := n) (p := p + 3) (by rw [b, h3] at this; omega)
    omega
  rcases h with h | h
  · exact key 14 (by decide) (by decide) (by decide) h
  · exact key 15 (by decide) (by decide) (by decide) h
