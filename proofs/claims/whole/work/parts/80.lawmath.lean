/-! A law's code is well made. -/
def zb_k (t m : Nat) : Prop := (t < 100000 ∨ (100016 ≤ t ∧ t ≤ 100025)) ∨ (t = 100030 ∧ 1 ≤ m) ∨ (100000 ≤ t ∧ isBin (t - 100000) ∧ 2 ≤ m)
def zb_s (t m : Nat) : Nat := if t < 100000 ∨ (100016 ≤ t ∧ t ≤ 100025) then m + 1 else if t = 100030 then m else m - 1
def zb_ok : List Nat → Nat → Prop
  | [], _ => True
  | t :: L, m => zb_k t m ∧ zb_ok L (zb_s t m)
def zb_r : List Nat → Nat → Nat
  | [], m => m
  | t :: L, m => zb_r L (zb_s t m)
def zb_v (w : Nat → Int64) (t : Nat) (st : List Int64) : List Int64 :=
  if t < 100000 then (nI t).toInt64 :: st
  else if 100016 ≤ t ∧ t ≤ 100025 then w (t - 100016) :: st
  else if t = 100030 then (1 - st.getD 0 0) :: st.tail
  else jn (t - 100000) (st.getD 1 0) (st.getD 0 0) :: st.tail.tail
def zb_e (w : Nat → Int64) : List Nat → List Int64 → List Int64
  | [], st => st
  | t :: L, st => zb_e w L (zb_v w t st)
/-- how many values -/
def zb_n : List Nat → Nat
  | [] => 0
  | t :: L => (if t < 100000 ∨ (100016 ≤ t ∧ t ≤ 100025) then 1 else 0) + zb_n L
theorem zb_ok_app {L M : List Nat} : ∀ {m : Nat}, zb_ok (L ++ M) m ↔ zb_ok L m ∧ zb_ok M (zb_r L m) := by
  induction L with
  | nil => intro m; exact ⟨fun h => ⟨True.intro, h⟩, fun h => h.2⟩
  | cons t L ih =>
    intro m
    show (zb_k t m ∧ zb_ok (L ++ M) (zb_s t m)) ↔ (zb_k t m ∧ zb_ok L (zb_s t m)) ∧ zb_ok M (zb_r L (zb_s t m))
    rw [ih]
    exact ⟨fun h => ⟨⟨h.1, h.2.1⟩, h.2.2⟩, fun h => ⟨h.1.1, h.1.2, h.2⟩⟩
theorem zb_r_app {L M : List Nat} : ∀ {m : Nat}, zb_r (L ++ M) m = zb_r M (zb_r L m) := by
  induction L with
  | nil => intro m; rfl
  | cons t L ih => intro m; exact ih
theorem zb_e_app {w : Nat → Int64} {L M : List Nat} : ∀ {st : List Int64}, zb_e w (L ++ M) st = zb_e w M (zb_e w L st) := by
  induction L with
  | nil => intro st; rfl
  | cons t L ih => intro st; exact ih
theorem zb_n_app {L M : List Nat} : zb_n (L ++ M) = zb_n L + zb_n M := by
  induction L with
  | nil => show zb_n M = 0 + zb_n M; omega
  | cons t L ih =>
    show (if t < 100000 ∨ (100016 ≤ t ∧ t ≤ 100025) then 1 else 0) + zb_n (L ++ M) = ((if t < 100000 ∨ (100016 ≤ t ∧ t ≤ 100025) then 1 else 0) + zb_n L) + zb_n M
    rw [ih]; omega
theorem zb_r_le {L : List Nat} : ∀ {m : Nat}, zb_r L m ≤ m + zb_n L := by
  induction L with
  | nil => intro m; exact Nat.le_refl _
  | cons t L ih =>
    intro m
    have := ih (m := zb_s t m)
    show zb_r L (zb_s t m) ≤ m + ((if t < 100000 ∨ (100016 ≤ t ∧ t ≤ 100025) then 1 else 0) + zb_n L)
    unfold zb_s at this ⊢
    by_cases c : t < 100000 ∨ (100016 ≤ t ∧ t ≤ 100025)
    · rw [if_pos c] at this ⊢; rw [if_pos c]; omega
    · rw [if_neg c] at this ⊢; rw [if_neg c]
      split at this
      · rename_i e; rw [if_pos e]; omega
      · rename_i e; rw [if_neg e]; omega
/-- a value; a truth -/
def zb_b (L : List Nat) : Prop := (∀ m, zb_ok L m ∧ zb_r L m = m + 1) ∧ ∀ w st, ∃ x, zb_e w L st = x :: st
def zb_t (L : List Nat) : Prop := (∀ m, zb_ok L m ∧ zb_r L m = m + 1) ∧ ∀ w st, ∃ x, (x = 0 ∨ x = 1) ∧ zb_e w L st = x :: st
theorem zb_t.b {L : List Nat} (h : zb_t L) : zb_b L := ⟨h.1, fun w st => (h.2 w st).imp (fun _ q => q.2)⟩
theorem zb_1 {t : Nat} (h : t < 100000 ∨ (100016 ≤ t ∧ t ≤ 100025)) : zb_b [t] := by
  refine ⟨fun m => ⟨⟨Or.inl h, True.intro⟩, if_pos h⟩, fun w st => ?_⟩
  show ∃ x, zb_v w t st = x :: st
  unfold zb_v
  by_cases c : t < 100000
  · rw [if_pos c]; exact ⟨_, rfl⟩
  · rw [if_neg c, if_pos (h.resolve_left c)]; exact ⟨_, rfl⟩
theorem zb_bin {k : Nat} (h : isBin k) : ¬ (100000 + k < 100000 ∨ (100016 ≤ 100000 + k ∧ 100000 + k ≤ 100025)) ∧ ¬ 100000 + k = 100030 ∧ ¬ 100000 + k < 100000 ∧ ¬ (100016 ≤ 100000 + k ∧ 100000 + k ≤ 100025) ∧ 100000 + k - 100000 = k := by unfold isBin at h; omega
theorem zb_j1 {L M : List Nat} {k : Nat} (a : ∀ m, zb_ok L m ∧ zb_r L m = m + 1) (b : ∀ m, zb_ok M m ∧ zb_r M m = m + 1) (h : isBin k) : ∀ m, zb_ok (L ++ M ++ [100000 + k]) m ∧ zb_r (L ++ M ++ [100000 + k]) m = m + 1 := by
  intro m
  obtain ⟨q1, q2, q3, q4, q5⟩ := zb_bin h
  have e : zb_r (L ++ M) m = m + 2 := by rw [zb_r_app, (a m).2, (b (m + 1)).2]
  refine ⟨zb_ok_app.mpr ⟨zb_ok_app.mpr ⟨(a m).1, (b _).1⟩, ?_, True.intro⟩, ?_⟩
  · rw [e]; exact Or.inr (Or.inr ⟨by omega, by rw [q5]; exact h, by omega⟩)
  · rw [zb_r_app, e]
    show zb_s (100000 + k) (m + 2) = m + 1
    unfold zb_s; rw [if_neg q1, if_neg q2]; rfl
theorem zb_j2 {w : Nat → Int64} {L M : List Nat} {st : List Int64} {x y : Int64} {k : Nat} (a : zb_e w L st = x :: st) (b : zb_e w M (x :: st) = y :: x :: st) (h : isBin k) : zb_e w (L ++ M ++ [100000 + k]) st = jn k x y :: st := by
  obtain ⟨q1, q2, q3, q4, q5⟩ := zb_bin h
  rw [zb_e_app, zb_e_app, a, b]
  show zb_v w (100000 + k) (y :: x :: st) = _
  unfold zb_v
  rw [if_neg q3, if_neg q4, if_neg q2, q5]; rfl
theorem zb_bj {L M : List Nat} {k : Nat} (a : zb_b L) (b : zb_b M) (h : isBin k) : zb_b (L ++ M ++ [100000 + k]) := by
  refine ⟨zb_j1 a.1 b.1 h, fun w st => ?_⟩
  obtain ⟨x, hx⟩ := a.2 w st
  obtain ⟨y, hy⟩ := b.2 w (x :: st)
  exact ⟨_, zb_j2 hx hy h⟩
theorem zb_tc {L M : List Nat} {k : Nat} (a : zb_b L) (b : zb_b M) (h : 11 ≤ k ∧ k ≤ 15) : zb_t (L ++ M ++ [100000 + k]) := by
  have hb : isBin k := Or.inl (by omega)
  refine ⟨zb_j1 a.1 b.1 hb, fun w st => ?_⟩
  obtain ⟨x, hx⟩ := a.2 w st
  obtain ⟨y, hy⟩ := b.2 w (x :: st)
  refine ⟨_, ?_, zb_j2 hx hy hb⟩
  obtain rfl | rfl | rfl | rfl | rfl : k = 11 ∨ k = 12 ∨ k = 13 ∨ k = 14 ∨ k = 15 := by omega
  · show (if x < y then (1 : Int64) else 0) = 0 ∨ (if x < y then (1 : Int64) else 0) = 1
    split
    · exact Or.inr rfl
    · exact Or.inl rfl
  · show (if x ≤ y then (1 : Int64) else 0) = 0 ∨ (if x ≤ y then (1 : Int64) else 0) = 1
    split
    · exact Or.inr rfl
    · exact Or.inl rfl
  · show (if x = y then (1 : Int64) else 0) = 0 ∨ (if x = y then (1 : Int64) else 0) = 1
    split
    · exact Or.inr rfl
    · exact Or.inl rfl
  · show (if y ≤ x then (1 : Int64) else 0) = 0 ∨ (if y ≤ x then (1 : Int64) else 0) = 1
    split
    · exact Or.inr rfl
    · exact Or.inl rfl
  · show (if y < x then (1 : Int64) else 0) = 0 ∨ (if y < x then (1 : Int64) else 0) = 1
    split
    · exact Or.inr rfl
    · exact Or.inl rfl
theorem zb_ta {L M : List Nat} {k : Nat} (a : zb_t L) (b : zb_t M) (h : k = 31 ∨ k = 32) : zb_t (L ++ M ++ [100000 + k]) := by
  have hb : isBin k := Or.inr h
  refine ⟨zb_j1 a.1 b.1 hb, fun w st => ?_⟩
  obtain ⟨x, ex, hx⟩ := a.2 w st
  obtain ⟨y, ey, hy⟩ := b.2 w (x :: st)
  refine ⟨_, ?_, zb_j2 hx hy hb⟩
  rcases h with rfl | rfl
  · show x &&& y = 0 ∨ x &&& y = 1
    rcases ex with rfl | rfl <;> rcases ey with rfl | rfl <;> decide
  · show x ||| y = 0 ∨ x ||| y = 1
    rcases ex with rfl | rfl <;> rcases ey with rfl | rfl <;> decide
theorem zb_tn {L : List Nat} (a : zb_t L) : zb_t (L ++ [100030]) := by
  refine ⟨fun m => ⟨zb_ok_app.mpr ⟨(a.1 m).1, Or.inr (Or.inl ⟨rfl, by rw [(a.1 m).2]; omega⟩), True.intro⟩, ?_⟩, fun w st => ?_⟩
  · rw [zb_r_app, (a.1 m).2]; rfl
  · obtain ⟨x, ex, hx⟩ := a.2 w st
    refine ⟨1 - x, by rcases ex with rfl | rfl <;> decide, ?_⟩
    rw [zb_e_app, hx]; rfl
/-- from s to t the code L was written -/
def zb_x (s t : zl_S) (L : List Nat) : Prop := t.2.2 = s.2.2 ++ L ∧ zb_n L + s.2.1 ≤ t.2.1
theorem zb_n1 {k : Nat} (h : isBin k ∨ k = 30) : zb_n [100000 + k] = 0 := by
  show (if 100000 + k < 100000 ∨ (100016 ≤ 100000 + k ∧ 100000 + k ≤ 100025) then 1 else 0) + 0 = 0
  rw [if_neg (by unfold isBin at h; omega)]
theorem zb_xe {u s : zl_S} {L : List Nat} {k : Nat} (h : zb_x u s L) (hk : isBin k ∨ k = 30) : zb_x u (zl_e k s) (L ++ [100000 + k]) := by
  refine ⟨by show s.2.2 ++ [100000 + k] = _; rw [h.1, List.append_assoc], ?_⟩
  rw [zb_n_app, zb_n1 hk]; exact h.2
theorem zb_xx {u s t : zl_S} {L M : List Nat} (a : zb_x u s L) (b : zb_x s t M) : zb_x u t (L ++ M) := by
  refine ⟨by rw [b.1, a.1, List.append_assoc], ?_⟩
  rw [zb_n_app]; have := a.2; have := b.2; omega
theorem zb_xa {B : Nat → Int32} {n : Nat} {s t : zl_S} {L : List Nat} (h : zb_x (zl_a B n s) t L) : zb_x s t L := h
theorem zb_vv {B : Nat → Int32} {n : Nat} {s t : zl_S} (h : zl_v B n s = .ok t) : ∃ L, zb_x s t L ∧ zb_b L := by
  unfold zl_v at h
  split at h
  · cases h
  · split at h
    · cases h
    · split at h
      · cases h
      · rename_i a b c
        cases h
        have hk : (if kd B n s.1 = 2 then (num B n s.1).toNatClampNeg else 100000 + kd B n s.1) < 100000 ∨ (100016 ≤ (if kd B n s.1 = 2 then (num B n s.1).toNatClampNeg else 100000 + kd B n s.1) ∧ (if kd B n s.1 = 2 then (num B n s.1).toNatClampNeg else 100000 + kd B n s.1) ≤ 100025) := by
          by_cases k2 : kd B n s.1 = 2
          · rw [if_pos k2]
            obtain ⟨q, q1, q2⟩ := num_ex (B := B) (n := n) (p := s.1) (Int32.not_lt.mp (fun z => b ⟨k2, z⟩))
            exact Or.inl (by rw [q2, nI_clamp (by omega)]; exact q1)
          · rw [if_neg k2]; omega
        refine ⟨_, ⟨rfl, ?_⟩, zb_1 hk⟩
        show ((if _ then 1 else 0) + 0) + s.2.1 ≤ s.2.1 + 1
        rw [if_pos hk]; omega
theorem zb_vt {B : Nat → Int32} {n : Nat} : ∀ f (s t : zl_S), zl_t B n f s = .ok t → ∀ u L, zb_x u s L → zb_b L → ∃ M, zb_x u t M ∧ zb_b M := by
  intro f
  induction f with
  | zero => intro s t h; simp only [zl_t] at h; cases h
  | succ f ih =>
    intro s t h u L hx hb
    simp only [zl_t] at h
    by_cases c : 8 ≤ kd B n s.1 ∧ kd B n s.1 ≤ 10
    · rw [if_pos c] at h
      obtain ⟨s1, a1, a2⟩ := zl_b_inv h
      obtain ⟨K, k1, k2⟩ := zb_vv a1
      have hB : isBin (kd B n s.1) := Or.inl (by omega)
      exact ih _ _ a2 u _ (zb_xe (zb_xx hx (zb_xa k1)) (Or.inl hB)) (zb_bj hb k2 hB)
    · rw [if_neg c] at h
      cases h
      exact ⟨L, hx, hb⟩
theorem zb_vs {B : Nat → Int32} {n : Nat} : ∀ f (s t : zl_S), zl_s B n f s = .ok t → ∀ u L, zb_x u s L → zb_b L → ∃ M, zb_x u t M ∧ zb_b M := by
  intro f
  induction f with
  | zero => intro s t h; simp only [zl_s] at h; cases h
  | succ f ih =>
    intro s t h u L hx hb
    simp only [zl_s] at h
    by_cases c : kd B n s.1 = 6 ∨ kd B n s.1 = 7
    · rw [if_pos c] at h
      obtain ⟨s1, a1, a2⟩ := zl_b_inv h
      obtain ⟨s2, a3, a4⟩ := zl_b_inv a2
      obtain ⟨K, k1, k2⟩ := zb_vv a1
      obtain ⟨K2, k3, k4⟩ := zb_vt f s1 s2 a3 _ _ k1 k2
      have hB : isBin (kd B n s.1) := Or.inl (by omega)
      exact ih _ _ a4 u _ (zb_xe (zb_xx hx (zb_xa k3)) (Or.inl hB)) (zb_bj hb k4 hB)
    · rw [if_neg c] at h
      cases h
      exact ⟨L, hx, hb⟩
theorem zb_vm {B : Nat → Int32} {n f : Nat} {s t : zl_S} (h : zl_m B n f s = .ok t) : ∃ L, zb_x s t L ∧ zb_b L := by
  unfold zl_m at h
  obtain ⟨s1, a1, a2⟩ := zl_b_inv h
  obtain ⟨s2, a3, a4⟩ := zl_b_inv a2
  obtain ⟨K, k1, k2⟩ := zb_vv a1
  obtain ⟨K2, k3, k4⟩ := zb_vt f s1 s2 a3 _ _ k1 k2
  exact zb_vs f s2 t a4 _ _ k3 k4
theorem zb_vx {B : Nat → Int32} {n : Nat} : ∀ f,
    (∀ d (s t : zl_S), zl_x B n f 0 d s = .ok t → ∃ L, zb_x s t L ∧ zb_t L) ∧
    (∀ d (s t : zl_S), zl_x B n f 1 d s = .ok t → ∃ L, zb_x s t L ∧ zb_t L) ∧
    (∀ m d (s t u : zl_S), (∃ L M, zb_x u s (L ++ M) ∧ (if m = 0 then L = [] else zb_t L) ∧ zb_t M) → zl_x B n f (m + 2) d s = .ok t → ∃ L, zb_x u t L ∧ zb_t L) := by
  intro f
  induction f with
  | zero =>
    have z : ∀ m d (s t : zl_S), ¬ zl_x B n 0 m d s = .ok t := fun m d s t h => by unfold zl_x at h; cases h
    exact ⟨fun d s t h => absurd h (z _ _ _ _), fun d s t h => absurd h (z _ _ _ _), fun m d s t u _ h => absurd h (z _ _ _ _)⟩
  | succ f ih =>
    obtain ⟨i0, i1, i2⟩ := ih
    refine ⟨fun d s t h => ?_, fun d s t h => ?_, fun m d s t u hu h => ?_⟩
    · simp only [zl_x] at h
      split at h
      · obtain ⟨s1, a1, h⟩ := zl_b_inv h
        obtain ⟨s2, a2, h⟩ := zl_b_inv h
        obtain ⟨s3, a3, h⟩ := zl_b_inv h
        cases h
        obtain ⟨L, l1, l2⟩ := zb_vm a1
        obtain ⟨M, m1, m2⟩ := zb_vm a3
        obtain ⟨g1, g2, rfl⟩ := zl_g_ok a2
        have hm : zb_x s1 s3 M := ⟨m1.1, by have := m1.2; dsimp only at this; omega⟩
        exact ⟨_, zb_xe (zb_xx l1 hm) (Or.inl (Or.inl (by omega))), zb_tc l2 m2 g1⟩
      · split at h
        · cases h
        · split at h
          · obtain ⟨s1, a1, h⟩ := zl_b_inv h
            cases h
            obtain ⟨L, l1, l2⟩ := i0 _ _ _ a1
            exact ⟨_, zb_xe (zb_xa l1) (Or.inr rfl), zb_tn l2⟩
          · obtain ⟨s1, a1, h⟩ := zl_b_inv h
            obtain ⟨L, l1, l2⟩ := i1 _ _ _ a1
            split at h
            · cases h
              exact ⟨L, l1, l2⟩
            · cases h
    · simp only [zl_x] at h
      obtain ⟨s1, a1, h⟩ := zl_b_inv h
      obtain ⟨L, l1, l2⟩ := i0 _ _ _ a1
      exact i2 0 _ _ _ _ ⟨[], L, l1, by rw [if_pos rfl], l2⟩ h
    · simp only [zl_x] at h
      obtain ⟨W, eW⟩ : ∃ W, W = (if m = 0 then 0 else 32) := ⟨_, rfl⟩
      rw [← eW] at h
      obtain ⟨L, M, x1, x2, x3⟩ := hu
      have hw : ∃ K, zb_x u (zl_e0 W s) K ∧ zb_t K := by
        unfold zl_e0
        by_cases z : m = 0
        · rw [if_pos z] at eW x2
          rw [if_pos eW]
          rw [x2] at x1
          exact ⟨M, x1, x3⟩
        · rw [if_neg z] at eW x2
          rw [if_neg (by omega), eW]
          exact ⟨_, zb_xe x1 (Or.inl (Or.inr (Or.inr rfl))), zb_ta x2 x3 (Or.inr rfl)⟩
      by_cases k31 : kd B n s.1 = 31
      · rw [if_pos k31] at h
        obtain ⟨s1, a1, h⟩ := zl_b_inv h
        obtain ⟨K, l1, l2⟩ := i0 _ _ _ a1
        refine i2 m _ _ _ _ ⟨L, M ++ K ++ [100000 + 31], ?_, x2, zb_ta x3 l2 (Or.inl rfl)⟩ h
        have := zb_xe (zb_xx x1 (zb_xa l1)) (k := 31) (Or.inl (Or.inr (Or.inl rfl)))
        rw [List.append_assoc L M K, List.append_assoc L (M ++ K)] at this
        exact this
      · rw [if_neg k31] at h
        by_cases k32 : kd B n s.1 = 32
        · rw [if_pos k32] at h
          obtain ⟨s1, a1, h⟩ := zl_b_inv h
          obtain ⟨K, l1, l2⟩ := i0 _ _ _ a1
          obtain ⟨K0, y1, y2⟩ := hw
          exact i2 1 _ _ _ _ ⟨K0, K, zb_xx y1 (zb_xa l1), by rw [if_neg (by decide)]; exact y2, l2⟩ h
        · rw [if_neg k32] at h
          cases h
          exact hw
theorem zb_take {L : List Nat} {k : Nat} (h : k < L.length) : L.take (k + 1) = L.take k ++ [L.getD k 0] := by
  rw [List.take_succ, List.getD_eq_getElem?_getD, List.getElem?_eq_getElem h]; rfl
theorem zb_cut {L : List Nat} {k : Nat} (h : k < L.length) : L = L.take k ++ (L.getD k 0 :: L.drop (k + 1)) := by
  have := List.take_append_drop (k + 1) L
  rw [zb_take h, List.append_assoc] at this
  exact this.symm
theorem zb_dpt {T : Nat → Nat} {a : Nat} {L : List Nat} (hT : ∀ k, k < L.length → T (a + k) = L.getD k 0) : ∀ k, k ≤ L.length → dpt T a k = zb_r (L.take k) 0 := by
  intro k
  induction k with
  | zero => intro _; rfl
  | succ k ih =>
    intro hk
    rw [zb_take (by omega), zb_r_app, ← ih (by omega), ← hT k (by omega)]; rfl
theorem zb_tok {L : List Nat} (ho : zb_ok L 0) (hn : zb_n L ≤ 60) {k : Nat} (hk : k < L.length) : tok_ok (L.getD k 0) (zb_r (L.take k) 0) := by
  have e := zb_cut hk
  rw [e, zb_ok_app] at ho
  rw [e, zb_n_app] at hn
  have h1 := zb_r_le (L := L.take k) (m := 0)
  have hn' : zb_n (L.take k) + ((if L.getD k 0 < 100000 ∨ (100016 ≤ L.getD k 0 ∧ L.getD k 0 ≤ 100025) then 1 else 0) + zb_n (L.drop (k + 1))) ≤ 60 := hn
  rcases ho.2.1 with q | q | q
  · rw [if_pos q] at hn'
    rcases q with q | q
    · exact Or.inl ⟨q, by omega⟩
    · exact Or.inr (Or.inl ⟨q.1, q.2, by omega⟩)
  · exact Or.inr (Or.inr (Or.inl q))
  · exact Or.inr (Or.inr (Or.inr q))
theorem zb_seg {T : Nat → Nat} {a : Nat} {L : List Nat} (hT : ∀ k, k < L.length → T (a + k) = L.getD k 0) (hb : ∀ m, zb_ok L m ∧ zb_r L m = m + 1) (hn : zb_n L ≤ 60) : seg T a (a + L.length) := by
  refine ⟨by omega, fun k hk => ?_, ?_⟩
  · rw [zb_dpt hT k (by omega), hT k (by omega)]
    exact zb_tok (hb 0).1 hn (by omega)
  · rw [show a + L.length - a = L.length by omega, zb_dpt hT _ (Nat.le_refl _), List.take_length, (hb 0).2]
theorem zb_evs {w : Nat → Int64} {T : Nat → Nat} {a : Nat} {L : List Nat} (hT : ∀ k, k < L.length → T (a + k) = L.getD k 0) (ho : zb_ok L 0) (hn : zb_n L ≤ 60) : ∀ k, k ≤ L.length → (zb_e w (L.take k) []).length = dpt T a k ∧ ∀ j, j < dpt T a k → evs w (fun _ => 0) T a k j = (zb_e w (L.take k) []).getD (dpt T a k - 1 - j) 0 := by
  intro k
  induction k with
  | zero => intro _; exact ⟨rfl, fun j hj => absurd hj (Nat.not_lt_zero j)⟩
  | succ k ih =>
    intro hk
    obtain ⟨i1, i2⟩ := ih (by omega)
    have tk := zb_tok ho hn (show k < L.length by omega)
    rw [← zb_dpt hT k (by omega), ← hT k (by omega)] at tk
    rw [zb_take (by omega), zb_e_app, ← hT k (by omega)]
    obtain ⟨st, est⟩ : ∃ st, st = zb_e w (L.take k) [] := ⟨_, rfl⟩
    rw [← est] at i1 i2 ⊢
    show (zb_v w (T (a + k)) st).length = dpt T a (k + 1) ∧ ∀ j, j < dpt T a (k + 1) → evs w (fun _ => 0) T a (k + 1) j = (zb_v w (T (a + k)) st).getD (dpt T a (k + 1) - 1 - j) 0
    obtain ⟨D, eD⟩ : ∃ D, D = dpt T a k := ⟨_, rfl⟩
    simp only [dpt, evs, zb_v]
    rw [← eD] at i1 i2 tk ⊢
    have push : ∀ x : Int64, (x :: st).length = D + 1 ∧ ∀ j, j < D + 1 → vp_updL (evs w (fun _ => 0) T a k) D x j = (x :: st).getD (D + 1 - 1 - j) 0 := by
      intro x
      refine ⟨by rw [List.length_cons, i1], fun j hj => ?_⟩
      simp only [vp_updL]
      by_cases e : j = D
      · rw [if_pos e, e, show D + 1 - 1 - D = 0 by omega]; rfl
      · rw [if_neg e, i2 j (by omega), show D + 1 - 1 - j = (D - 1 - j) + 1 by omega]; rfl
    by_cases c1 : T (a + k) < 100000
    · rw [if_pos c1, if_pos c1, if_pos (Or.inl c1)]; exact push _
    · rw [if_neg c1, if_neg c1]
      by_cases c2 : 100016 ≤ T (a + k) ∧ T (a + k) ≤ 100025
      · rw [if_pos c2, if_pos c2, if_pos (Or.inr c2)]; exact push _
      · rw [if_neg c2, if_neg c2, if_neg (show ¬ (T (a + k) < 100000 ∨ (100016 ≤ T (a + k) ∧ T (a + k) ≤ 100025)) from fun z => z.elim c1 c2)]
        by_cases c3 : T (a + k) = 100030
        · rw [if_pos c3, if_pos c3, if_pos c3]
          have hD : 1 ≤ D := by
            rcases tk with z | z | z | z
            · exact absurd z.1 c1
            · exact absurd ⟨z.1, z.2.1⟩ c2
            · exact z.2
            · omega
          cases st with
          | nil => rw [List.length_nil] at i1; omega
          | cons y st =>
            rw [List.length_cons] at i1
            refine ⟨by show st.length + 1 = D; exact i1, fun j hj => ?_⟩
            simp only [vp_updL]
            by_cases e : j = D - 1
            · rw [if_pos e, e, i2 (D - 1) (by omega), show D - 1 - (D - 1) = 0 by omega]; rfl
            · rw [if_neg e, i2 j (by omega), show D - 1 - j = (D - 2 - j) + 1 by omega]; rfl
        · rw [if_neg c3, if_neg c3, if_neg c3]
          have hD : 2 ≤ D := by
            rcases tk with z | z | z | z
            · exact absurd z.1 c1
            · exact absurd ⟨z.1, z.2.1⟩ c2
            · exact absurd z.1 c3
            · exact z.2.2
          cases st with
          | nil => rw [List.length_nil] at i1; omega
          | cons y st =>
            cases st with
            | nil => rw [List.length_cons, List.length_nil] at i1; omega
            | cons x st =>
              rw [List.length_cons, List.length_cons] at i1
              refine ⟨by show st.length + 1 = D - 1; omega, fun j hj => ?_⟩
              simp only [vp_updL]
              by_cases e : j = D - 2
              · rw [if_pos e, e, i2 (D - 1) (by omega), i2 (D - 2) (by omega), show D - 1 - (D - 1) = 0 by omega, show D - 1 - (D - 2) = 1 by omega, show D - 1 - 1 - (D - 2) = 0 by omega, List.getD_cons_zero, List.getD_cons_zero]
              · rw [if_neg e, i2 j (by omega), show D - 1 - j = (D - 3 - j) + 2 by omega, show D - 1 - 1 - j = (D - 3 - j) + 1 by omega, List.getD_cons_succ, List.getD_cons_succ, List.getD_cons_succ, List.tail_cons, List.tail_cons]
theorem zb_val {w : Nat → Int64} {T : Nat → Nat} {a : Nat} {L : List Nat} (hT : ∀ k, k < L.length → T (a + k) = L.getD k 0) (hb : zb_t L) (hn : zb_n L ≤ 60) : val w T a (a + L.length) = 0 ∨ val w T a (a + L.length) = 1 := by
  have d1 : dpt T a L.length = 1 := by rw [zb_dpt hT _ (Nat.le_refl _), List.take_length, (hb.1 0).2]
  have h := (zb_evs (w := w) hT (hb.1 0).1 hn L.length (Nat.le_refl _)).2 0 (by rw [d1]; decide)
  rw [d1, List.take_length] at h
  obtain ⟨x, ex, hx⟩ := hb.2 w []
  rw [hx] at h
  unfold val
  rw [show a + L.length - a = L.length by omega, h]
  exact ex
/-- a clause within the code -/
def zb_C (code : List Nat) (q : zl_C) : Prop := q.1 ≤ 1 ∧ ∃ P L M R, code = P ++ (L ++ (M ++ R)) ∧ q.2.1 = P.length ∧ q.2.2.1 = P.length + L.length ∧ q.2.2.2 = P.length + L.length + M.length ∧ zb_b L ∧ (M = [] ∨ zb_t M)
theorem zb_C.more {code X : List Nat} {q : zl_C} (h : zb_C code q) : zb_C (code ++ X) q := by
  obtain ⟨h1, P, L, M, R, e, h2⟩ := h
  exact ⟨h1, P, L, M, R ++ X, by rw [e, List.append_assoc, List.append_assoc, List.append_assoc], h2⟩
theorem zb_c {B : Nat → Int32} {n m : Nat} {s : zl_S} {q : zl_S × zl_C} (h : zl_c B n m s = .ok q) (hp : s.1 ≤ n) (hv : s.2.1 ≤ 60) (hJ : zl_J 0 s) : m < 12 ∧ q.1.1 ≤ n ∧ q.1.2.1 ≤ 60 ∧ zl_J 0 q.1 ∧ zb_C q.1.2.2 q.2 ∧ ∃ X, zb_x s q.1 X := by
  unfold zl_c at h
  split at h
  · cases h
  · split at h
    · cases h
    · rename_i k1 k2
      have k1 := Decidable.not_not.mp k1
      obtain ⟨s1, a1, h⟩ := zl_b_inv h
      obtain ⟨s2, a2, h⟩ := zl_b_inv h
      cases h
      obtain ⟨c1, c2, c3⟩ := zl_a_bd (B := B) (s := s) hp (by omega)
      obtain ⟨e1, e2, e3, e4⟩ := zl_m_fwd c1 a1
      have J1 := e4 _ (c3 _ hJ)
      obtain ⟨L, l1, l2⟩ := zb_vm a1
      have l1 := zb_xa l1
      refine ⟨by omega, ?_⟩
      have key : s2.1 ≤ n ∧ s2.2.1 ≤ 60 ∧ zl_J 0 s2 ∧ ∃ M, zb_x s1 s2 M ∧ (M = [] ∨ zb_t M) := by
        by_cases k29 : kd B n s1.1 = 29
        · rw [if_pos k29] at a2
          obtain ⟨d1, d2, d3⟩ := zl_a_bd (B := B) (s := s1) e1 (by omega)
          obtain ⟨f1, f2, f3, f4⟩ := (zl_x_fwd _).2.1 _ _ _ d1 e3 a2
          obtain ⟨M, m1, m2⟩ := (zb_vx _).2.1 _ _ _ a2
          exact ⟨f1, f3, zl_J_le (f4 _ (d3 _ J1)) (by omega), M, zb_xa m1, Or.inr m2⟩
        · rw [if_neg k29] at a2
          cases a2
          exact ⟨e1, e3, zl_J_le J1 (by omega), [], ⟨(List.append_nil _).symm, by show 0 + _ ≤ _; omega⟩, Or.inl rfl⟩
      obtain ⟨g1, g2, g3, M, g4, g5⟩ := key
      refine ⟨g1, g2, g3, ⟨by show kd B n s.1 - 16 ≤ 1; omega, s.2.2, L, M, [], ?_, rfl, ?_, ?_, l2, g5⟩, L ++ M, zb_xx l1 g4⟩
      · show s2.2.2 = _; rw [g4.1, l1.1, List.append_nil, List.append_assoc]
      · show s1.2.2.length = _; rw [l1.1, List.length_append]
      · show s2.2.2.length = _; rw [g4.1, l1.1, List.length_append, List.length_append]
/-- what was read of a law so far -/
def zb_I (n : Nat) (s : zl_S) (cs : List zl_C) : Prop := s.1 ≤ n ∧ s.2.1 ≤ 60 ∧ zl_J 0 s ∧ zb_n s.2.2 ≤ s.2.1 ∧ ∀ q, q ∈ cs → zb_C s.2.2 q
theorem zb_I.c {B : Nat → Int32} {n m : Nat} {s : zl_S} {cs : List zl_C} {q : zl_S × zl_C} (I : zb_I n s cs) (h : zl_c B n m s = .ok q) : m < 12 ∧ zb_I n q.1 (cs ++ [q.2]) := by
  obtain ⟨i1, i2, i3, i4, i5⟩ := I
  obtain ⟨h0, h1, h2, h3, h4, X, h5⟩ := zb_c h i1 i2 i3
  refine ⟨h0, h1, h2, h3, ?_, fun z hz => ?_⟩
  · rw [h5.1, zb_n_app]; have := h5.2; omega
  · rcases List.mem_append.mp hz with y | y
    · rw [h5.1]; exact (i5 z y).more
    · rw [List.mem_singleton.mp y]; exact h4
theorem zb_I.a {B : Nat → Int32} {n : Nat} {s : zl_S} {cs : List zl_C} (I : zb_I n s cs) (h : ¬ kd B n s.1 = 0) : zb_I n (zl_a B n s) cs := by
  obtain ⟨i1, i2, i3, i4, i5⟩ := I
  obtain ⟨c1, c2, c3⟩ := zl_a_bd (B := B) (s := s) i1 h
  exact ⟨c1, i2, zl_J_le (c3 _ i3) (by omega), i4, i5⟩
theorem zb_q {B : Nat → Int32} {n : Nat} : ∀ f s cs q, cs.length ≤ 12 → zb_I n s cs → zl_q B n f s cs = .ok q → zb_I n q.1 q.2 ∧ q.2.length ≤ 12 := by
  intro f
  induction f with
  | zero => intro s cs q _ _ h; simp only [zl_q] at h; cases h
  | succ f ih =>
    intro s cs q hc I h
    simp only [zl_q] at h
    obtain ⟨z, a1, h⟩ := zl_b_inv h
    obtain ⟨b1, b2⟩ := I.c a1
    have hl : (cs ++ [z.2]).length ≤ 12 := by rw [List.length_append]; show cs.length + 1 ≤ 12; omega
    split at h
    · rename_i k3
      exact ih _ _ _ hl (b2.a (by omega)) h
    · split at h
      · cases h; exact ⟨b2, hl⟩
      · cases h
/-- a law that was read -/
def zl_LD (q : zl_S × List zl_C) : LD := (fun k => q.1.2.2.getD k 0, fun c => (q.2.getD c (0, 0, 0, 0)).1, fun c => (q.2.getD c (0, 0, 0, 0)).2.1, fun c => (q.2.getD c (0, 0, 0, 0)).2.2.1, fun c => (q.2.getD c (0, 0, 0, 0)).2.2.2, q.2.length, q.1.2.2.length)
theorem gD_mid {P L R : List Nat} {k : Nat} (h : k < L.length) : (P ++ (L ++ R)).getD (P.length + k) 0 = L.getD k 0 := by
  rw [List.getD_eq_getElem?_getD, List.getD_eq_getElem?_getD, List.getElem?_append_right (by omega), show P.length + k - P.length = k by omega, List.getElem?_append_left h]
theorem zb_n_mid {P L R : List Nat} {m : Nat} (h : zb_n (P ++ (L ++ R)) ≤ m) : zb_n L ≤ m := by rw [zb_n_app, zb_n_app] at h; omega
theorem zl_LD_ok {n : Nat} (hn : n ≤ 400) {q : zl_S × List zl_C} (I : zb_I n q.1 q.2) (h12 : q.2.length ≤ 12) : lawOK (zl_LD q) := by
  obtain ⟨i1, i2, i3, i4, i5⟩ := I
  have hl := zl_J_len hn i1 i2 i3
  refine ⟨h12, by show q.1.2.2.length ≤ 300; omega, fun c hc => ?_⟩
  have hc' : c < q.2.length := hc
  have hm : q.2.getD c (0, 0, 0, 0) ∈ q.2 := by
    rw [List.getD_eq_getElem?_getD, List.getElem?_eq_getElem hc']; exact List.getElem_mem hc'
  obtain ⟨z1, P, L, M, R, e, z2, z3, z4, z5, z6⟩ := i5 _ hm
  obtain ⟨T, eT⟩ : ∃ T : Nat → Nat, T = fun k => q.1.2.2.getD k 0 := ⟨_, rfl⟩
  have hn60 : zb_n q.1.2.2 ≤ 60 := by omega
  show (q.2.getD c (0, 0, 0, 0)).1 ≤ 1 ∧ seg (fun k => q.1.2.2.getD k 0) (q.2.getD c (0, 0, 0, 0)).2.1 (q.2.getD c (0, 0, 0, 0)).2.2.1 ∧ (q.2.getD c (0, 0, 0, 0)).2.2.1 ≤ (q.2.getD c (0, 0, 0, 0)).2.2.2 ∧ (q.2.getD c (0, 0, 0, 0)).2.2.2 ≤ q.1.2.2.length ∧ ((q.2.getD c (0, 0, 0, 0)).2.2.1 = (q.2.getD c (0, 0, 0, 0)).2.2.2 ∨ (seg (fun k => q.1.2.2.getD k 0) (q.2.getD c (0, 0, 0, 0)).2.2.1 (q.2.getD c (0, 0, 0, 0)).2.2.2 ∧ ∀ w, val w (fun k => q.1.2.2.getD k 0) (q.2.getD c (0, 0, 0, 0)).2.2.1 (q.2.getD c (0, 0, 0, 0)).2.2.2 = 0 ∨ val w (fun k => q.1.2.2.getD k 0) (q.2.getD c (0, 0, 0, 0)).2.2.1 (q.2.getD c (0, 0, 0, 0)).2.2.2 = 1))
  rw [← eT, z2, z3, z4]
  have t1 : ∀ k, k < L.length → T (P.length + k) = L.getD k 0 := fun k hk => by rw [eT]; dsimp only; rw [e]; exact gD_mid hk
  have t2 : ∀ k, k < M.length → T (P.length + L.length + k) = M.getD k 0 := fun k hk => by
    rw [eT]; dsimp only
    rw [e, ← List.append_assoc, show P.length + L.length = (P ++ L).length by rw [List.length_append]]
    exact gD_mid hk
  have n1 : zb_n L ≤ 60 := zb_n_mid (by rw [← e]; exact hn60)
  have n2 : zb_n M ≤ 60 := zb_n_mid (P := P ++ L) (R := R) (by rw [List.append_assoc, ← e]; exact hn60)
  refine ⟨z1, zb_seg t1 z5.1 n1, by omega, by rw [e, List.length_append, List.length_append, List.length_append]; omega, ?_⟩
  rcases z6 with z6 | z6
  · exact Or.inl (by rw [z6]; rfl)
  · exact Or.inr ⟨zb_seg t2 z6.1 n2, fun w => zb_val t2 z6 n2⟩
theorem zb_I0 {n p : Nat} (hp : p ≤ n) : zb_I n (p, 0, []) [] := ⟨hp, Nat.zero_le 60, by unfold zl_J; show 3 * 0 + 0 ≤ 6 * 0 + p; omega, Nat.le_refl _, fun q hq => absurd hq List.not_mem_nil⟩
