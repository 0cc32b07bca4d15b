/-! A law's text: what it says, as code. -/
/-- how far, how many values, the code -/
abbrev LS : Type := Nat × Nat × List Nat
def bnd {α β : Type} (r : Except Nat α) (f : α → Except Nat β) : Except Nat β := match r with
  | .error c => .error c
  | .ok s => f s
theorem bnd_e {α β : Type} {c : Nat} {f : α → Except Nat β} : bnd (.error c) f = .error c := rfl
theorem bnd_k {α β : Type} {s : α} {f : α → Except Nat β} : bnd (.ok s) f = f s := rfl
theorem bnd_inv {α β : Type} {r : Except Nat α} {f : α → Except Nat β} {t : β} (h : bnd r f = .ok t) : ∃ s, r = .ok s ∧ f s = .ok t := by
  cases r with
  | error c => cases h
  | ok s => exact ⟨s, rfl, h⟩
def em (k : Nat) (s : LS) : LS := (s.1, s.2.1, s.2.2 ++ [100000 + k])
def em0 (w : Nat) (s : LS) : LS := if w = 0 then s else em w s
def adv (B : Nat → Int32) (n : Nat) (s : LS) : LS := (nx B n s.1, s.2)
/-- a number or a word -/
def vl (B : Nat → Int32) (n : Nat) (s : LS) : Except Nat LS :=
  if ¬ (kd B n s.1 = 2 ∨ (16 ≤ kd B n s.1 ∧ kd B n s.1 ≤ 25)) then .error (1 + 8 * s.1)
  else if kd B n s.1 = 2 ∧ num B n s.1 < 0 then .error (1 + 8 * s.1 + 1)
  else if 60 ≤ s.2.1 then .error (1 + 8 * s.1 + 3)
  else .ok (nx B n s.1, s.2.1 + 1, s.2.2 ++ [if kd B n s.1 = 2 then (num B n s.1).toNatClampNeg else 100000 + kd B n s.1])
/-- what is multiplied, divided -/
def tl (B : Nat → Int32) (n : Nat) : Nat → LS → Except Nat LS
  | 0, _ => .error 0
  | f + 1, s => if 8 ≤ kd B n s.1 ∧ kd B n s.1 ≤ 10 then bnd (vl B n (adv B n s)) (fun s1 => tl B n f (em (kd B n s.1) s1)) else .ok s
/-- what is added, taken away -/
def sl (B : Nat → Int32) (n : Nat) : Nat → LS → Except Nat LS
  | 0, _ => .error 0
  | f + 1, s => if kd B n s.1 = 6 ∨ kd B n s.1 = 7 then bnd (vl B n (adv B n s)) (fun s1 => bnd (tl B n f s1) (fun s2 => sl B n f (em (kd B n s.1) s2))) else .ok s
def sm (B : Nat → Int32) (n f : Nat) (s : LS) : Except Nat LS := bnd (vl B n s) (fun s1 => bnd (tl B n f s1) (fun s2 => sl B n f s2))
/-- the sign of a comparison -/
def tsg (B : Nat → Int32) (n : Nat) (s : LS) : Except Nat LS :=
  if ¬ (11 ≤ kd B n s.1 ∧ kd B n s.1 ≤ 15) then .error (1 + 8 * s.1)
  else if 60 ≤ s.2.1 then .error (1 + 8 * s.1 + 3)
  else .ok (nx B n s.1, s.2.1 + 1, s.2.2)
/-- mode 0: a fact; 1: a test; 2, 3: behind its first fact, without and with an or that waits -/
def tst (B : Nat → Int32) (n : Nat) : Nat → Nat → Nat → LS → Except Nat LS
  | 0, _, _, _ => .error 0
  | f + 1, 0, d, s =>
    if ¬ kd B n s.1 = 30 ∧ ¬ kd B n s.1 = 4 then bnd (sm B n f s) (fun s1 => bnd (tsg B n s1) (fun s2 => bnd (sm B n f s2) (fun s3 => .ok (em (kd B n s1.1) s3))))
    else if 10 ≤ d then .error (1 + 8 * s.1 + 2)
    else if kd B n s.1 = 30 then bnd (tst B n f 0 (d + 1) (adv B n s)) (fun s1 => .ok (em 30 s1))
    else bnd (tst B n f 1 (d + 1) (adv B n s)) (fun s1 => if kd B n s1.1 = 5 then .ok (adv B n s1) else .error (1 + 8 * s1.1))
  | f + 1, 1, d, s => bnd (tst B n f 0 d s) (fun s1 => tst B n f 2 d s1)
  | f + 1, m + 2, d, s =>
    if kd B n s.1 = 31 then bnd (tst B n f 0 d (adv B n s)) (fun s1 => tst B n f (m + 2) d (em 31 s1))
    else if kd B n s.1 = 32 then bnd (tst B n f 0 d (adv B n (em0 (if m = 0 then 0 else 32) s))) (fun s1 => tst B n f 3 d s1)
    else .ok (em0 (if m = 0 then 0 else 32) s)
/-- how much room the code leaves -/
def Jb (z : Nat) (s : LS) : Prop := 3 * s.2.2.length + z ≤ 6 * s.2.1 + s.1
theorem kd_pos {B : Nat → Int32} {n p : Nat} (hp : p ≤ n) (h : ¬ kd B n p = 0) : p < n := Nat.lt_of_le_of_ne hp (fun z => h ((kd_0 hp).mpr z))
theorem vl_ok {B : Nat → Int32} {n : Nat} {s t : LS} (h : vl B n s = .ok t) : ¬ kd B n s.1 = 0 ∧ ¬ 60 ≤ s.2.1 ∧ t = (nx B n s.1, s.2.1 + 1, s.2.2 ++ [if kd B n s.1 = 2 then (num B n s.1).toNatClampNeg else 100000 + kd B n s.1]) := by
  unfold vl at h
  split at h
  · cases h
  · split at h
    · cases h
    · split at h
      · cases h
      · rename_i a b c
        cases h
        exact ⟨by omega, c, rfl⟩
/-- positions stay in the text and go on; values stay few; the room -/
def fwd (n : Nat) (s t : LS) (z : Nat) : Prop := t.1 ≤ n ∧ s.1 < t.1 ∧ t.2.1 ≤ 60 ∧ ∀ y, Jb y s → Jb (y + z) t
theorem vl_fwd {B : Nat → Int32} {n : Nat} {s t : LS} (hp : s.1 ≤ n) (h : vl B n s = .ok t) : fwd n s t 4 := by
  obtain ⟨a, b, rfl⟩ := vl_ok h
  have := nx_bd (B := B) (kd_pos hp a)
  refine ⟨this.2, this.1, by show s.2.1 + 1 ≤ 60; omega, fun y hy => ?_⟩
  unfold Jb at hy ⊢
  simp only [List.length_append, List.length_cons, List.length_nil]
  omega
theorem adv_bd {B : Nat → Int32} {n : Nat} {s : LS} (hp : s.1 ≤ n) (h : ¬ kd B n s.1 = 0) : (adv B n s).1 ≤ n ∧ s.1 < (adv B n s).1 ∧ ∀ y, Jb y s → Jb (y + 1) (adv B n s) := by
  have := nx_bd (B := B) (kd_pos hp h)
  refine ⟨this.2, this.1, fun y hy => ?_⟩
  unfold Jb at hy ⊢
  show 3 * s.2.2.length + (y + 1) ≤ 6 * s.2.1 + nx B n s.1
  omega
theorem em_J {k y : Nat} {s : LS} (h : Jb (y + 3) s) : Jb y (em k s) := by
  unfold Jb at h ⊢
  simp only [em, List.length_append, List.length_cons, List.length_nil]
  omega
/-- the same, where nothing need be read -/
def fwd0 (n : Nat) (s t : LS) : Prop := t.1 ≤ n ∧ s.1 ≤ t.1 ∧ t.2.1 ≤ 60 ∧ ∀ y, Jb y s → Jb y t
theorem tl_fwd {B : Nat → Int32} {n : Nat} : ∀ f (s t : LS), s.1 ≤ n → s.2.1 ≤ 60 → tl B n f s = .ok t → fwd0 n s t ∧ ¬ (8 ≤ kd B n t.1 ∧ kd B n t.1 ≤ 10) := by
  intro f
  induction f with
  | zero => intro s t _ _ h; simp only [tl] at h; cases h
  | succ f ih =>
    intro s t hp hv h
    simp only [tl] at h
    by_cases c : 8 ≤ kd B n s.1 ∧ kd B n s.1 ≤ 10
    · rw [if_pos c] at h
      obtain ⟨s1, a1, a2⟩ := bnd_inv h
      obtain ⟨b1, b2, b3⟩ := adv_bd (B := B) hp (by omega)
      obtain ⟨c1, c2, c3, c4⟩ := vl_fwd b1 a1
      obtain ⟨⟨d1, d2, d3, d4⟩, d5⟩ := ih (em (kd B n s.1) s1) t c1 c3 a2
      refine ⟨⟨d1, ?_, d3, fun y hy => d4 y (em_J ?_)⟩, d5⟩
      · have : s1.1 ≤ t.1 := d2
        omega
      · have := c4 _ (b3 y hy)
        unfold Jb at this ⊢; omega
    · rw [if_neg c] at h
      cases h
      exact ⟨⟨hp, Nat.le_refl _, hv, fun y hy => hy⟩, c⟩
theorem sl_fwd {B : Nat → Int32} {n : Nat} : ∀ f (s t : LS), s.1 ≤ n → s.2.1 ≤ 60 → sl B n f s = .ok t → fwd0 n s t := by
  intro f
  induction f with
  | zero => intro s t _ _ h; simp only [sl] at h; cases h
  | succ f ih =>
    intro s t hp hv h
    simp only [sl] at h
    by_cases c : kd B n s.1 = 6 ∨ kd B n s.1 = 7
    · rw [if_pos c] at h
      obtain ⟨s1, a1, a2⟩ := bnd_inv h
      obtain ⟨s2, a3, a4⟩ := bnd_inv a2
      obtain ⟨b1, b2, b3⟩ := adv_bd (B := B) hp (by omega)
      obtain ⟨c1, c2, c3, c4⟩ := vl_fwd b1 a1
      obtain ⟨⟨e1, e2, e3, e4⟩, -⟩ := tl_fwd f s1 s2 c1 c3 a3
      obtain ⟨d1, d2, d3, d4⟩ := ih (em (kd B n s.1) s2) t e1 e3 a4
      refine ⟨d1, ?_, d3, fun y hy => d4 y (em_J ?_)⟩
      · have : s2.1 ≤ t.1 := d2
        omega
      · have := e4 _ (c4 _ (b3 y hy))
        unfold Jb at this ⊢; omega
    · rw [if_neg c] at h
      cases h
      exact ⟨hp, Nat.le_refl _, hv, fun y hy => hy⟩
theorem sm_fwd {B : Nat → Int32} {n f : Nat} {s t : LS} (hp : s.1 ≤ n) (h : sm B n f s = .ok t) : fwd n s t 4 := by
  unfold sm at h
  obtain ⟨s1, a1, a2⟩ := bnd_inv h
  obtain ⟨s2, a3, a4⟩ := bnd_inv a2
  obtain ⟨c1, c2, c3, c4⟩ := vl_fwd hp a1
  obtain ⟨⟨e1, e2, e3, e4⟩, -⟩ := tl_fwd f s1 s2 c1 c3 a3
  obtain ⟨d1, d2, d3, d4⟩ := sl_fwd f s2 t e1 e3 a4
  exact ⟨d1, by omega, d3, fun y hy => d4 _ (e4 _ (c4 y hy))⟩
theorem tsg_ok {B : Nat → Int32} {n : Nat} {s t : LS} (h : tsg B n s = .ok t) : (11 ≤ kd B n s.1 ∧ kd B n s.1 ≤ 15) ∧ ¬ 60 ≤ s.2.1 ∧ t = (nx B n s.1, s.2.1 + 1, s.2.2) := by
  unfold tsg at h
  split at h
  · cases h
  · split at h
    · cases h
    · rename_i a b
      cases h
      exact ⟨Decidable.not_not.mp a, b, rfl⟩
theorem tsg_fwd {B : Nat → Int32} {n : Nat} {s t : LS} (hp : s.1 ≤ n) (h : tsg B n s = .ok t) : fwd n s t 7 := by
  obtain ⟨a, b, rfl⟩ := tsg_ok h
  have := nx_bd (B := B) (kd_pos hp (by omega))
  refine ⟨this.2, this.1, by show s.2.1 + 1 ≤ 60; omega, fun y hy => ?_⟩
  unfold Jb at hy ⊢
  show 3 * s.2.2.length + (y + 7) ≤ 6 * (s.2.1 + 1) + nx B n s.1
  omega
/-- two of them, one behind the other -/
theorem fwd.trans {n : Nat} {s t u : LS} {a b : Nat} (x : fwd n s t a) (y : fwd n t u b) : fwd n s u (a + b) := ⟨y.1, Nat.lt_trans x.2.1 y.2.1, y.2.2.1, fun k hk => by have := y.2.2.2 _ (x.2.2.2 k hk); rw [Nat.add_assoc] at this; exact this⟩
theorem fwd.em {n : Nat} {s t : LS} {a k : Nat} (x : fwd n s t (a + 3)) : fwd n s (em k t) a := ⟨x.1, x.2.1, x.2.2.1, fun y hy => em_J (by have := x.2.2.2 y hy; rw [← Nat.add_assoc] at this; exact this)⟩
theorem fwd.less {n : Nat} {s t : LS} {a b : Nat} (x : fwd n s t a) (h : b ≤ a) : fwd n s t b := ⟨x.1, x.2.1, x.2.2.1, fun y hy => by have := x.2.2.2 y hy; unfold Jb at this ⊢; omega⟩
theorem em0_fwd {n w : Nat} {s t : LS} {a : Nat} (x : fwd n s t (a + 3)) : fwd n s (em0 w t) a := by
  unfold em0
  split
  · exact x.less (by omega)
  · exact x.em
/-- a NOT is three bytes long -/
theorem nx_30 {B : Nat → Int32} {n p : Nat} (hp : p ≤ n) (h : kd B n p = 30 ∨ kd B n p = 31) : p + 3 ≤ nx B n p := by
  have key : ∀ i, 1 ≤ i → i < 18 → mm_sl.getD i 0 = 3 → kd B n p = ki i → p + 3 ≤ nx B n p := fun i h1 h2 h3 hk => by
    obtain ⟨a, b⟩ := en_w hp h1 h2 hk
    unfold nx
    rw [if_neg (by omega), b, h3]
    have := en_bd (B := B) a
    have := sk_ge (B := B) (n := n) (p := p + 3) (by rw [b, h3] at this; omega)
    omega
  rcases h with h | h
  · exact key 14 (by decide) (by decide) (by decide) h
  · exact key 15 (by decide) (by decide) (by decide) h
