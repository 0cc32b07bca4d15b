/-! The reference reads a law: terms, sums. -/
theorem kd_c {B : Nat → Int32} {n p : Nat} {c : Int32} (h : p < n ∧ B p = c) (h1 : ¬ isD c) (h2 : ¬ isLt c) : kd B n p = sgn c (two B n p) := by
  obtain ⟨h0, rfl⟩ := h
  unfold kd; rw [if_neg (by omega), if_neg h1, if_neg h2]
theorem kd_inv {B : Nat → Int32} {n p : Nat} (h : 3 ≤ kd B n p ∧ kd B n p ≤ 15) : p < n ∧ kd B n p = sgn (B p) (two B n p) ∧ ¬ isD (B p) ∧ ¬ isLt (B p) := by
  obtain ⟨k, ek⟩ : ∃ k, k = kd B n p := ⟨_, rfl⟩
  rw [← ek] at h ⊢
  unfold kd at ek
  by_cases c1 : n ≤ p
  · rw [if_pos c1] at ek; omega
  · rw [if_neg c1] at ek
    by_cases c2 : isD (B p)
    · rw [if_pos c2] at ek; omega
    · rw [if_neg c2] at ek
      by_cases c3 : isLt (B p)
      · rw [if_pos c3] at ek
        have := wk_bd B p (en B n p)
        omega
      · rw [if_neg c3] at ek
        exact ⟨by omega, ek, c2, c3⟩
theorem sgn_v3 (t : Prop) [Decidable t] : sgn 59 t = 3 := by unfold sgn; rw [if_pos rfl]
theorem sgn_i3 {x : Int32} {t : Prop} [Decidable t] (h : sgn x t = 3) : x = 59 := by
  unfold sgn at h
  by_cases a0 : x = 59
  · exact a0
  rw [if_neg a0] at h
  by_cases a1 : x = 91
  · rw [if_pos a1] at h; exfalso; omega
  rw [if_neg a1] at h
  by_cases a2 : x = 93
  · rw [if_pos a2] at h; exfalso; omega
  rw [if_neg a2] at h
  by_cases a3 : x = 43
  · rw [if_pos a3] at h; exfalso; omega
  rw [if_neg a3] at h
  by_cases a4 : x = 45
  · rw [if_pos a4] at h; exfalso; omega
  rw [if_neg a4] at h
  by_cases a5 : x = 42
  · rw [if_pos a5] at h; exfalso; omega
  rw [if_neg a5] at h
  by_cases a6 : x = 47
  · rw [if_pos a6] at h; exfalso; omega
  rw [if_neg a6] at h
  by_cases a7 : x = 37
  · rw [if_pos a7] at h; exfalso; omega
  rw [if_neg a7] at h
  by_cases a8 : x = 60
  · rw [if_pos a8] at h; exfalso; split at h <;> omega
  rw [if_neg a8] at h
  by_cases a9 : x = 61
  · rw [if_pos a9] at h; exfalso; omega
  rw [if_neg a9] at h
  by_cases a10 : x = 62
  · rw [if_pos a10] at h; exfalso; split at h <;> omega
  rw [if_neg a10] at h
  exfalso; omega
theorem sg_3 {B : Nat → Int32} {n p : Nat} (hb : ∀ i, byt (B i)) : sgV B n p = 59 ↔ kd B n p = 3 := by
  rw [sgV_eq hb (by decide)]
  refine ⟨fun z => ?_, fun z => ?_⟩
  · rw [kd_c z (by decide) (by decide)]; exact sgn_v3 _
  · obtain ⟨a, b, -⟩ := kd_inv (B := B) (n := n) (p := p) (by omega)
    exact ⟨a, sgn_i3 (b.symm.trans z)⟩
theorem sgn_v4 (t : Prop) [Decidable t] : sgn 91 t = 4 := by unfold sgn; rw [if_neg (by decide), if_pos rfl]
theorem sgn_i4 {x : Int32} {t : Prop} [Decidable t] (h : sgn x t = 4) : x = 91 := by
  unfold sgn at h
  by_cases a0 : x = 59
  · rw [if_pos a0] at h; exfalso; omega
  rw [if_neg a0] at h
  by_cases a1 : x = 91
  · exact a1
  rw [if_neg a1] at h
  by_cases a2 : x = 93
  · rw [if_pos a2] at h; exfalso; omega
  rw [if_neg a2] at h
  by_cases a3 : x = 43
  · rw [if_pos a3] at h; exfalso; omega
  rw [if_neg a3] at h
  by_cases a4 : x = 45
  · rw [if_pos a4] at h; exfalso; omega
  rw [if_neg a4] at h
  by_cases a5 : x = 42
  · rw [if_pos a5] at h; exfalso; omega
  rw [if_neg a5] at h
  by_cases a6 : x = 47
  · rw [if_pos a6] at h; exfalso; omega
  rw [if_neg a6] at h
  by_cases a7 : x = 37
  · rw [if_pos a7] at h; exfalso; omega
  rw [if_neg a7] at h
  by_cases a8 : x = 60
  · rw [if_pos a8] at h; exfalso; split at h <;> omega
  rw [if_neg a8] at h
  by_cases a9 : x = 61
  · rw [if_pos a9] at h; exfalso; omega
  rw [if_neg a9] at h
  by_cases a10 : x = 62
  · rw [if_pos a10] at h; exfalso; split at h <;> omega
  rw [if_neg a10] at h
  exfalso; omega
theorem sg_4 {B : Nat → Int32} {n p : Nat} (hb : ∀ i, byt (B i)) : sgV B n p = 91 ↔ kd B n p = 4 := by
  rw [sgV_eq hb (by decide)]
  refine ⟨fun z => ?_, fun z => ?_⟩
  · rw [kd_c z (by decide) (by decide)]; exact sgn_v4 _
  · obtain ⟨a, b, -⟩ := kd_inv (B := B) (n := n) (p := p) (by omega)
    exact ⟨a, sgn_i4 (b.symm.trans z)⟩
theorem sgn_v5 (t : Prop) [Decidable t] : sgn 93 t = 5 := by unfold sgn; rw [if_neg (by decide), if_neg (by decide), if_pos rfl]
theorem sgn_i5 {x : Int32} {t : Prop} [Decidable t] (h : sgn x t = 5) : x = 93 := by
  unfold sgn at h
  by_cases a0 : x = 59
  · rw [if_pos a0] at h; exfalso; omega
  rw [if_neg a0] at h
  by_cases a1 : x = 91
  · rw [if_pos a1] at h; exfalso; omega
  rw [if_neg a1] at h
  by_cases a2 : x = 93
  · exact a2
  rw [if_neg a2] at h
  by_cases a3 : x = 43
  · rw [if_pos a3] at h; exfalso; omega
  rw [if_neg a3] at h
  by_cases a4 : x = 45
  · rw [if_pos a4] at h; exfalso; omega
  rw [if_neg a4] at h
  by_cases a5 : x = 42
  · rw [if_pos a5] at h; exfalso; omega
  rw [if_neg a5] at h
  by_cases a6 : x = 47
  · rw [if_pos a6] at h; exfalso; omega
  rw [if_neg a6] at h
  by_cases a7 : x = 37
  · rw [if_pos a7] at h; exfalso; omega
  rw [if_neg a7] at h
  by_cases a8 : x = 60
  · rw [if_pos a8] at h; exfalso; split at h <;> omega
  rw [if_neg a8] at h
  by_cases a9 : x = 61
  · rw [if_pos a9] at h; exfalso; omega
  rw [if_neg a9] at h
  by_cases a10 : x = 62
  · rw [if_pos a10] at h; exfalso; split at h <;> omega
  rw [if_neg a10] at h
  exfalso; omega
theorem sg_5 {B : Nat → Int32} {n p : Nat} (hb : ∀ i, byt (B i)) : sgV B n p = 93 ↔ kd B n p = 5 := by
  rw [sgV_eq hb (by decide)]
  refine ⟨fun z => ?_, fun z => ?_⟩
  · rw [kd_c z (by decide) (by decide)]; exact sgn_v5 _
  · obtain ⟨a, b, -⟩ := kd_inv (B := B) (n := n) (p := p) (by omega)
    exact ⟨a, sgn_i5 (b.symm.trans z)⟩
theorem sgn_v6 (t : Prop) [Decidable t] : sgn 43 t = 6 := by unfold sgn; rw [if_neg (by decide), if_neg (by decide), if_neg (by decide), if_pos rfl]
theorem sgn_i6 {x : Int32} {t : Prop} [Decidable t] (h : sgn x t = 6) : x = 43 := by
  unfold sgn at h
  by_cases a0 : x = 59
  · rw [if_pos a0] at h; exfalso; omega
  rw [if_neg a0] at h
  by_cases a1 : x = 91
  · rw [if_pos a1] at h; exfalso; omega
  rw [if_neg a1] at h
  by_cases a2 : x = 93
  · rw [if_pos a2] at h; exfalso; omega
  rw [if_neg a2] at h
  by_cases a3 : x = 43
  · exact a3
  rw [if_neg a3] at h
  by_cases a4 : x = 45
  · rw [if_pos a4] at h; exfalso; omega
  rw [if_neg a4] at h
  by_cases a5 : x = 42
  · rw [if_pos a5] at h; exfalso; omega
  rw [if_neg a5] at h
  by_cases a6 : x = 47
  · rw [if_pos a6] at h; exfalso; omega
  rw [if_neg a6] at h
  by_cases a7 : x = 37
  · rw [if_pos a7] at h; exfalso; omega
  rw [if_neg a7] at h
  by_cases a8 : x = 60
  · rw [if_pos a8] at h; exfalso; split at h <;> omega
  rw [if_neg a8] at h
  by_cases a9 : x = 61
  · rw [if_pos a9] at h; exfalso; omega
  rw [if_neg a9] at h
  by_cases a10 : x = 62
  · rw [if_pos a10] at h; exfalso; split at h <;> omega
  rw [if_neg a10] at h
  exfalso; omega
theorem sg_6 {B : Nat → Int32} {n p : Nat} (hb : ∀ i, byt (B i)) : sgV B n p = 43 ↔ kd B n p = 6 := by
  rw [sgV_eq hb (by decide)]
  refine ⟨fun z => ?_, fun z => ?_⟩
  · rw [kd_c z (by decide) (by decide)]; exact sgn_v6 _
  · obtain ⟨a, b, -⟩ := kd_inv (B := B) (n := n) (p := p) (by omega)
    exact ⟨a, sgn_i6 (b.symm.trans z)⟩
theorem sgn_v7 (t : Prop) [Decidable t] : sgn 45 t = 7 := by unfold sgn; rw [if_neg (by decide), if_neg (by decide), if_neg (by decide), if_neg (by decide), if_pos rfl]
theorem sgn_i7 {x : Int32} {t : Prop} [Decidable t] (h : sgn x t = 7) : x = 45 := by
  unfold sgn at h
  by_cases a0 : x = 59
  · rw [if_pos a0] at h; exfalso; omega
  rw [if_neg a0] at h
  by_cases a1 : x = 91
  · rw [if_pos a1] at h; exfalso; omega
  rw [if_neg a1] at h
  by_cases a2 : x = 93
  · rw [if_pos a2] at h; exfalso; omega
  rw [if_neg a2] at h
  by_cases a3 : x = 43
  · rw [if_pos a3] at h; exfalso; omega
  rw [if_neg a3] at h
  by_cases a4 : x = 45
  · exact a4
  rw [if_neg a4] at h
  by_cases a5 : x = 42
  · rw [if_pos a5] at h; exfalso; omega
  rw [if_neg a5] at h
  by_cases a6 : x = 47
  · rw [if_pos a6] at h; exfalso; omega
  rw [if_neg a6] at h
  by_cases a7 : x = 37
  · rw [if_pos a7] at h; exfalso; omega
  rw [if_neg a7] at h
  by_cases a8 : x = 60
  · rw [if_pos a8] at h; exfalso; split at h <;> omega
  rw [if_neg a8] at h
  by_cases a9 : x = 61
  · rw [if_pos a9] at h; exfalso; omega
  rw [if_neg a9] at h
  by_cases a10 : x = 62
  · rw [if_pos a10] at h; exfalso; split at h <;> omega
  rw [if_neg a10] at h
  exfalso; omega
theorem sg_7 {B : Nat → Int32} {n p : Nat} (hb : ∀ i, byt (B i)) : sgV B n p = 45 ↔ kd B n p = 7 := by
  rw [sgV_eq hb (by decide)]
  refine ⟨fun z => ?_, fun z => ?_⟩
  · rw [kd_c z (by decide) (by decide)]; exact sgn_v7 _
  · obtain ⟨a, b, -⟩ := kd_inv (B := B) (n := n) (p := p) (by omega)
    exact ⟨a, sgn_i7 (b.symm.trans z)⟩
theorem sgn_v8 (t : Prop) [Decidable t] : sgn 42 t = 8 := by unfold sgn; rw [if_neg (by decide), if_neg (by decide), if_neg (by decide), if_neg (by decide), if_neg (by decide), if_pos rfl]
theorem sgn_i8 {x : Int32} {t : Prop} [Decidable t] (h : sgn x t = 8) : x = 42 := by
  unfold sgn at h
  by_cases a0 : x = 59
  · rw [if_pos a0] at h; exfalso; omega
  rw [if_neg a0] at h
  by_cases a1 : x = 91
  · rw [if_pos a1] at h; exfalso; omega
  rw [if_neg a1] at h
  by_cases a2 : x = 93
  · rw [if_pos a2] at h; exfalso; omega
  rw [if_neg a2] at h
  by_cases a3 : x = 43
  · rw [if_pos a3] at h; exfalso; omega
  rw [if_neg a3] at h
  by_cases a4 : x = 45
  · rw [if_pos a4] at h; exfalso; omega
  rw [if_neg a4] at h
  by_cases a5 : x = 42
  · exact a5
  rw [if_neg a5] at h
  by_cases a6 : x = 47
  · rw [if_pos a6] at h; exfalso; omega
  rw [if_neg a6] at h
  by_cases a7 : x = 37
  · rw [if_pos a7] at h; exfalso; omega
  rw [if_neg a7] at h
  by_cases a8 : x = 60
  · rw [if_pos a8] at h; exfalso; split at h <;> omega
  rw [if_neg a8] at h
  by_cases a9 : x = 61
  · rw [if_pos a9] at h; exfalso; omega
  rw [if_neg a9] at h
  by_cases a10 : x = 62
  · rw [if_pos a10] at h; exfalso; split at h <;> omega
  rw [if_neg a10] at h
  exfalso; omega
theorem sg_8 {B : Nat → Int32} {n p : Nat} (hb : ∀ i, byt (B i)) : sgV B n p = 42 ↔ kd B n p = 8 := by
  rw [sgV_eq hb (by decide)]
  refine ⟨fun z => ?_, fun z => ?_⟩
  · rw [kd_c z (by decide) (by decide)]; exact sgn_v8 _
  · obtain ⟨a, b, -⟩ := kd_inv (B := B) (n := n) (p := p) (by omega)
    exact ⟨a, sgn_i8 (b.symm.trans z)⟩
theorem sgn_v9 (t : Prop) [Decidable t] : sgn 47 t = 9 := by unfold sgn; rw [if_neg (by decide), if_neg (by decide), if_neg (by decide), if_neg (by decide), if_neg (by decide), if_neg (by decide), if_pos rfl]
theorem sgn_i9 {x : Int32} {t : Prop} [Decidable t] (h : sgn x t = 9) : x = 47 := by
  unfold sgn at h
  by_cases a0 : x = 59
  · rw [if_pos a0] at h; exfalso; omega
  rw [if_neg a0] at h
  by_cases a1 : x = 91
  · rw [if_pos a1] at h; exfalso; omega
  rw [if_neg a1] at h
  by_cases a2 : x = 93
  · rw [if_pos a2] at h; exfalso; omega
  rw [if_neg a2] at h
  by_cases a3 : x = 43
  · rw [if_pos a3] at h; exfalso; omega
  rw [if_neg a3] at h
  by_cases a4 : x = 45
  · rw [if_pos a4] at h; exfalso; omega
  rw [if_neg a4] at h
  by_cases a5 : x = 42
  · rw [if_pos a5] at h; exfalso; omega
  rw [if_neg a5] at h
  by_cases a6 : x = 47
  · exact a6
  rw [if_neg a6] at h
  by_cases a7 : x = 37
  · rw [if_pos a7] at h; exfalso; omega
  rw [if_neg a7] at h
  by_cases a8 : x = 60
  · rw [if_pos a8] at h; exfalso; split at h <;> omega
  rw [if_neg a8] at h
  by_cases a9 : x = 61
  · rw [if_pos a9] at h; exfalso; omega
  rw [if_neg a9] at h
  by_cases a10 : x = 62
  · rw [if_pos a10] at h; exfalso; split at h <;> omega
  rw [if_neg a10] at h
  exfalso; omega
theorem sg_9 {B : Nat → Int32} {n p : Nat} (hb : ∀ i, byt (B i)) : sgV B n p = 47 ↔ kd B n p = 9 := by
  rw [sgV_eq hb (by decide)]
  refine ⟨fun z => ?_, fun z => ?_⟩
  · rw [kd_c z (by decide) (by decide)]; exact sgn_v9 _
  · obtain ⟨a, b, -⟩ := kd_inv (B := B) (n := n) (p := p) (by omega)
    exact ⟨a, sgn_i9 (b.symm.trans z)⟩
theorem sgn_v10 (t : Prop) [Decidable t] : sgn 37 t = 10 := by unfold sgn; rw [if_neg (by decide), if_neg (by decide), if_neg (by decide), if_neg (by decide), if_neg (by decide), if_neg (by decide), if_neg (by decide), if_pos rfl]
theorem sgn_i10 {x : Int32} {t : Prop} [Decidable t] (h : sgn x t = 10) : x = 37 := by
  unfold sgn at h
  by_cases a0 : x = 59
  · rw [if_pos a0] at h; exfalso; omega
  rw [if_neg a0] at h
  by_cases a1 : x = 91
  · rw [if_pos a1] at h; exfalso; omega
  rw [if_neg a1] at h
  by_cases a2 : x = 93
  · rw [if_pos a2] at h; exfalso; omega
  rw [if_neg a2] at h
  by_cases a3 : x = 43
  · rw [if_pos a3] at h; exfalso; omega
  rw [if_neg a3] at h
  by_cases a4 : x = 45
  · rw [if_pos a4] at h; exfalso; omega
  rw [if_neg a4] at h
  by_cases a5 : x = 42
  · rw [if_pos a5] at h; exfalso; omega
  rw [if_neg a5] at h
  by_cases a6 : x = 47
  · rw [if_pos a6] at h; exfalso; omega
  rw [if_neg a6] at h
  by_cases a7 : x = 37
  · exact a7
  rw [if_neg a7] at h
  by_cases a8 : x = 60
  · rw [if_pos a8] at h; exfalso; split at h <;> omega
  rw [if_neg a8] at h
  by_cases a9 : x = 61
  · rw [if_pos a9] at h; exfalso; omega
  rw [if_neg a9] at h
  by_cases a10 : x = 62
  · rw [if_pos a10] at h; exfalso; split at h <;> omega
  rw [if_neg a10] at h
  exfalso; omega
theorem sg_10 {B : Nat → Int32} {n p : Nat} (hb : ∀ i, byt (B i)) : sgV B n p = 37 ↔ kd B n p = 10 := by
  rw [sgV_eq hb (by decide)]
  refine ⟨fun z => ?_, fun z => ?_⟩
  · rw [kd_c z (by decide) (by decide)]; exact sgn_v10 _
  · obtain ⟨a, b, -⟩ := kd_inv (B := B) (n := n) (p := p) (by omega)
    exact ⟨a, sgn_i10 (b.symm.trans z)⟩
theorem sgn_v13 (t : Prop) [Decidable t] : sgn 61 t = 13 := by unfold sgn; rw [if_neg (by decide), if_neg (by decide), if_neg (by decide), if_neg (by decide), if_neg (by decide), if_neg (by decide), if_neg (by decide), if_neg (by decide), if_neg (by decide), if_pos rfl]
theorem sgn_i13 {x : Int32} {t : Prop} [Decidable t] (h : sgn x t = 13) : x = 61 := by
  unfold sgn at h
  by_cases a0 : x = 59
  · rw [if_pos a0] at h; exfalso; omega
  rw [if_neg a0] at h
  by_cases a1 : x = 91
  · rw [if_pos a1] at h; exfalso; omega
  rw [if_neg a1] at h
  by_cases a2 : x = 93
  · rw [if_pos a2] at h; exfalso; omega
  rw [if_neg a2] at h
  by_cases a3 : x = 43
  · rw [if_pos a3] at h; exfalso; omega
  rw [if_neg a3] at h
  by_cases a4 : x = 45
  · rw [if_pos a4] at h; exfalso; omega
  rw [if_neg a4] at h
  by_cases a5 : x = 42
  · rw [if_pos a5] at h; exfalso; omega
  rw [if_neg a5] at h
  by_cases a6 : x = 47
  · rw [if_pos a6] at h; exfalso; omega
  rw [if_neg a6] at h
  by_cases a7 : x = 37
  · rw [if_pos a7] at h; exfalso; omega
  rw [if_neg a7] at h
  by_cases a8 : x = 60
  · rw [if_pos a8] at h; exfalso; split at h <;> omega
  rw [if_neg a8] at h
  by_cases a9 : x = 61
  · exact a9
  rw [if_neg a9] at h
  by_cases a10 : x = 62
  · rw [if_pos a10] at h; exfalso; split at h <;> omega
  rw [if_neg a10] at h
  exfalso; omega
theorem sg_13 {B : Nat → Int32} {n p : Nat} (hb : ∀ i, byt (B i)) : sgV B n p = 61 ↔ kd B n p = 13 := by
  rw [sgV_eq hb (by decide)]
  refine ⟨fun z => ?_, fun z => ?_⟩
  · rw [kd_c z (by decide) (by decide)]; exact sgn_v13 _
  · obtain ⟨a, b, -⟩ := kd_inv (B := B) (n := n) (p := p) (by omega)
    exact ⟨a, sgn_i13 (b.symm.trans z)⟩
theorem sgn_v11 {t : Prop} [Decidable t] : sgn 60 t = if t then 12 else 11 := by unfold sgn; rw [if_neg (by decide), if_neg (by decide), if_neg (by decide), if_neg (by decide), if_neg (by decide), if_neg (by decide), if_neg (by decide), if_neg (by decide), if_pos rfl]
theorem sgn_i11 {x : Int32} {t : Prop} [Decidable t] (h : sgn x t = 11 ∨ sgn x t = 12) : x = 60 := by
  unfold sgn at h
  by_cases a0 : x = 59
  · rw [if_pos a0] at h; exfalso; omega
  rw [if_neg a0] at h
  by_cases a1 : x = 91
  · rw [if_pos a1] at h; exfalso; omega
  rw [if_neg a1] at h
  by_cases a2 : x = 93
  · rw [if_pos a2] at h; exfalso; omega
  rw [if_neg a2] at h
  by_cases a3 : x = 43
  · rw [if_pos a3] at h; exfalso; omega
  rw [if_neg a3] at h
  by_cases a4 : x = 45
  · rw [if_pos a4] at h; exfalso; omega
  rw [if_neg a4] at h
  by_cases a5 : x = 42
  · rw [if_pos a5] at h; exfalso; omega
  rw [if_neg a5] at h
  by_cases a6 : x = 47
  · rw [if_pos a6] at h; exfalso; omega
  rw [if_neg a6] at h
  by_cases a7 : x = 37
  · rw [if_pos a7] at h; exfalso; omega
  rw [if_neg a7] at h
  by_cases a8 : x = 60
  · exact a8
  rw [if_neg a8] at h
  by_cases a9 : x = 61
  · rw [if_pos a9] at h; exfalso; omega
  rw [if_neg a9] at h
  by_cases a10 : x = 62
  · rw [if_pos a10] at h; exfalso; split at h <;> omega
  rw [if_neg a10] at h
  exfalso; omega
theorem sg_11 {B : Nat → Int32} {n p : Nat} (hb : ∀ i, byt (B i)) : sgV B n p = 60 ↔ kd B n p = 11 ∨ kd B n p = 12 := by
  rw [sgV_eq hb (by decide)]
  refine ⟨fun z => ?_, fun z => ?_⟩
  · rw [kd_c z (by decide) (by decide), sgn_v11]; split <;> omega
  · obtain ⟨a, b, -⟩ := kd_inv (B := B) (n := n) (p := p) (by omega)
    exact ⟨a, sgn_i11 (by rw [← b]; exact z)⟩
theorem sgn_v15 {t : Prop} [Decidable t] : sgn 62 t = if t then 14 else 15 := by unfold sgn; rw [if_neg (by decide), if_neg (by decide), if_neg (by decide), if_neg (by decide), if_neg (by decide), if_neg (by decide), if_neg (by decide), if_neg (by decide), if_neg (by decide), if_neg (by decide), if_pos rfl]
theorem sgn_i15 {x : Int32} {t : Prop} [Decidable t] (h : sgn x t = 15 ∨ sgn x t = 14) : x = 62 := by
  unfold sgn at h
  by_cases a0 : x = 59
  · rw [if_pos a0] at h; exfalso; omega
  rw [if_neg a0] at h
  by_cases a1 : x = 91
  · rw [if_pos a1] at h; exfalso; omega
  rw [if_neg a1] at h
  by_cases a2 : x = 93
  · rw [if_pos a2] at h; exfalso; omega
  rw [if_neg a2] at h
  by_cases a3 : x = 43
  · rw [if_pos a3] at h; exfalso; omega
  rw [if_neg a3] at h
  by_cases a4 : x = 45
  · rw [if_pos a4] at h; exfalso; omega
  rw [if_neg a4] at h
  by_cases a5 : x = 42
  · rw [if_pos a5] at h; exfalso; omega
  rw [if_neg a5] at h
  by_cases a6 : x = 47
  · rw [if_pos a6] at h; exfalso; omega
  rw [if_neg a6] at h
  by_cases a7 : x = 37
  · rw [if_pos a7] at h; exfalso; omega
  rw [if_neg a7] at h
  by_cases a8 : x = 60
  · rw [if_pos a8] at h; exfalso; split at h <;> omega
  rw [if_neg a8] at h
  by_cases a9 : x = 61
  · rw [if_pos a9] at h; exfalso; omega
  rw [if_neg a9] at h
  by_cases a10 : x = 62
  · exact a10
  rw [if_neg a10] at h
  exfalso; omega
theorem sg_15 {B : Nat → Int32} {n p : Nat} (hb : ∀ i, byt (B i)) : sgV B n p = 62 ↔ kd B n p = 15 ∨ kd B n p = 14 := by
  rw [sgV_eq hb (by decide)]
  refine ⟨fun z => ?_, fun z => ?_⟩
  · rw [kd_c z (by decide) (by decide), sgn_v15]; split <;> omega
  · obtain ⟨a, b, -⟩ := kd_inv (B := B) (n := n) (p := p) (by omega)
    exact ⟨a, sgn_i15 (by rw [← b]; exact z)⟩
theorem en_s {B : Nat → Int32} {n p : Nat} (h : 3 ≤ kd B n p ∧ kd B n p ≤ 15) : en B n p = if two B n p then p + 2 else p + 1 := by
  obtain ⟨a, b, c, d⟩ := kd_inv h
  unfold en
  rw [if_neg d, if_neg c]
theorem en_1 {B : Nat → Int32} {n p : Nat} (h : 3 ≤ kd B n p ∧ kd B n p ≤ 10) : p < n ∧ en B n p = p + 1 ∧ sk B n (p + 1) = nx B n p := by
  obtain ⟨a, b, c, d⟩ := kd_inv (B := B) (n := n) (p := p) (by omega)
  have t : ¬ two B n p := fun z => by
    rcases z.1 with w | w
    · have := (kd_c (n := n) ⟨a, w⟩ (by decide) (by decide)).trans sgn_v11
      split at this <;> omega
    · have := (kd_c (n := n) ⟨a, w⟩ (by decide) (by decide)).trans sgn_v15
      split at this <;> omega
  have e : en B n p = p + 1 := by rw [en_s (by omega), if_neg t]
  exact ⟨a, e, by unfold nx; rw [if_neg (by omega), e]⟩
def MR0 (B : Nat → Int32) (n : Nat) (g : mm_H) (r : Nat) (q : Except Nat zl_S) : Prop := match q with
  | .ok s => zm_S B n g r s s.1
  | .error c => ME B n g r c
theorem zl_b_a {α β γ : Type} {q : Except Nat α} {f : α → Except Nat β} {g : β → Except Nat γ} : zl_b (zl_b q f) g = zl_b q (fun s => zl_b (f s) g) := by cases q <;> rfl
theorem zm_S.le {B : Nat → Int32} {n r p : Nat} {h : mm_H} {s : zl_S} (S : zm_S B n h r s p) : s.1 ≤ n := by
  obtain ⟨-, hp, e, -⟩ := S
  have := sk_ge (B := B) hp
  omega
theorem zm_S.sk {B : Nat → Int32} {n r p : Nat} {h : mm_H} {s : zl_S} (S : zm_S B n h r s p) : sk B n s.1 = s.1 := by
  obtain ⟨-, hp, e, -⟩ := S
  rw [← e]; exact sk_sk hp
theorem mX11_blanks_s (d : Nat) (h : mm_H) (B : Nat → Int32) (n r p : Nat) (s : zl_S) (S : zm_S B n h r s p) : ∃ g, mm_M (d + 1) YX11_blanks [.ref 165] h none g ∧ mt_fr h g ∧ zm_S B n g r s s.1 := by
  have hn4 := S.1.2.2.2.2.1
  have hp := S.2.1
  have e := S.2.2.1
  have M := mX11_blanks d h B n p 0 S.1 (by omega)
  refine ⟨_, M, mt_p h _, ?_⟩
  rw [e]
  exact S.p (mt_p h _) (S.1.p _) S.le S.sk
theorem mX11_blanks_e (d : Nat) (h : mm_H) (B : Nat → Int32) (n r c : Nat) (S : ME B n h r c) : ∃ g, mm_M (d + 1) YX11_blanks [.ref 165] h none g ∧ mt_fr h g ∧ ME B n g r c := by
  have S0 := S
  obtain ⟨p, t, hp, -⟩ := S
  have hn4 := t.2.2.2.2.1
  exact ⟨_, mX11_blanks d h B n p c t (by omega), mt_p h _, S0.fr (mt_p h _).mc (t.p _) (sk_ge hp).2⟩
theorem rs_b {k : Nat} : isBin k ∨ k = 30 → rn (100000 + k) = 0 := by
  intro h
  unfold rn; unfold isBin at h; rw [if_neg (by omega), if_neg (by omega)]
set_option maxRecDepth 100000 in
set_option maxHeartbeats 4000000 in
theorem mX11_term (d : Nat) (h : mm_H) (B : Nat → Int32) (n r p : Nat) (hr : r < 6) (s : zl_S) (S : zm_S B n h r s p) (hJ : zl_J 0 s) (fu : Nat) (hfu : n - s.1 ≤ fu) : ∃ g, mm_M (d + 6) YX11_term [.ref 165] h none g ∧ mv_fr r h g ∧ MR0 B n g r (zl_b (zl_v B n s) (fun s1 => zl_t B n fu s1)) := by
  have hn4 := S.1.2.2.2.2.1
  have hby := S.1.2.2.2.2.2
  have hle := S.le
  have hv := S.2.2.2.2.2.2.2.2
  suffices hE : mm_E (d + 6) YX11_term 0 [some (.ref 165), none] [] h (fun v g => v = none ∧ mv_fr r h g ∧ MR0 B n g r (zl_b (zl_v B n s) (fun s1 => zl_t B n fu s1))) by
    obtain ⟨v, g, hR, rfl, h1⟩ := hE
    exact ⟨g, mm_M.of _ rfl rfl (Nat.le_of_ble_eq_true rfl) hR, h1⟩
  have KE : ∀ gg x1 c, mv_fr r h gg → ME B n gg r c → mm_E (d + 6) YX11_term 8 [some (.ref 165), x1] [] gg (fun v g => v = none ∧ mv_fr r h g ∧ MR0 B n g r (.error c)) := by
    intro gg x1 c fg E
    have f0 := E.f0
    refine mm_Es (fun _ _ => mm_aload_n dX11_term_8 rfl rfl) ?_
    refine mm_Es (fun _ _ => mm_getI dX11_term_9 fX11_208 sh_165 rfl) ?_
    refine mm_Ebn (fun _ _ => mm_if_ne 100 dX11_term_12 (by decide)) (fun c_12 => ?_) (fun c_12 => ?_)
    · refine mm_Er (mm_return dX11_term_100 rfl) ?_
      exact ⟨rfl, fg, E⟩
    · exact absurd c_12 f0
  have K8 : ∀ f s1 gg x1, n - s1.1 < f → mv_fr r h gg → zm_S B n gg r s1 s1.1 → zl_J 0 s1 → mm_E (d + 6) YX11_term 8 [some (.ref 165), x1] [] gg (fun v g => v = none ∧ mv_fr r h g ∧ MR0 B n g r (zl_t B n f s1)) := by
    intro f
    induction f with
    | zero => intro s1 gg x1 z; omega
    | succ f ih =>
    intro s1 gg x1 hf fg S1 hJ1
    have hle1 := S1.le
    have hv1 := S1.2.2.2.2.2.2.2.2
    have f0 := S1.f0
    have hl1 := zl_J_len hn4 hle1 hv1 hJ1
    have MG := mX11_sign (d + 5) gg B n s1.1 0 S1.1 (by omega)
    have ex : zl_t B n (f + 1) s1 = if 8 ≤ kd B n s1.1 ∧ kd B n s1.1 ≤ 10 then zl_b (zl_v B n (zl_a B n s1)) (fun s2 => zl_t B n f (zl_e (kd B n s1.1) s2)) else .ok s1 := by simp only [zl_t]
    rw [ex]
    by_cases hk : 8 ≤ kd B n s1.1 ∧ kd B n s1.1 ≤ 10
    · rw [if_pos hk]
      obtain ⟨q1, q2, q3⟩ := en_1 (B := B) (n := n) (p := s1.1) (by omega)
      obtain ⟨g2, eg2⟩ : ∃ g : mm_H, g = (mm_up gg.1 165 21 (nI (s1.1 + 1)), gg.2.1, gg.2.2) := ⟨_, rfl⟩
      have f2 : mt_fr gg g2 := by rw [eg2]; exact mt_p gg _
      have S2 : zm_S B n g2 r (zl_a B n s1) (s1.1 + 1) := S1.a f2 (by rw [eg2]; exact S1.1.p _) (by omega) q3
      have ep : gg.1 165 21 = nI s1.1 := S1.1.2.1
      obtain ⟨ad1, ad2, ad3⟩ := zl_a_bd (B := B) (s := s1) hle1 (by omega)
      have J2 := ad3 _ hJ1
      obtain ⟨g3, M3, f3, R3⟩ := mX11_value d g2 B n r (s1.1 + 1) hr (zl_a B n s1) S2 (by show s1.2.2.length < 300; omega)
      have fA := (fg.trans f2.mc.mv).trans f3
      have hB : isBin (kd B n s1.1) := Or.inl (by omega)
      obtain ⟨kk, ekk⟩ : ∃ kk, kk = nI (rs (100000 + kd B n s1.1)) := ⟨_, rfl⟩
      have T : ∀ P, mm_E (d + 6) YX11_term 73 [some (.ref 165), some (.int kk)] [] gg P → mm_E (d + 6) YX11_term 8 [some (.ref 165), x1] [] gg P := by
        intro P K
        rcases (show kd B n s1.1 = 8 ∨ kd B n s1.1 = 9 ∨ kd B n s1.1 = 10 by omega) with z | z | z
        · rw [(sg_8 hby).mpr z] at MG
          rw [z] at ekk
          have ekk : kk = 13 := ekk
          rw [ekk] at K
          refine mm_Es (fun _ _ => mm_aload_n dX11_term_8 rfl rfl) ?_
          refine mm_Es (fun _ _ => mm_getI dX11_term_9 fX11_208 sh_165 rfl) ?_
          refine mm_Ebn (fun _ _ => mm_if_ne 100 dX11_term_12 (by decide)) (fun c_12 => ?_) (fun c_12 => ?_)
          · exact absurd f0 c_12
          · refine mm_Es (fun _ _ => mm_aload_n dX11_term_15 rfl rfl) ?_
            refine mm_Es (fun _ _ => mm_cV (Y1 := YX11_sign) dX11_term_16 lX11_214 vX11_sign (MG) sh_165 rfl rfl (by simp [Value.category])) ?_
            refine mm_Es (fun _ _ => mm_bipush (x := 42) dX11_term_19 (by decide)) ?_
            refine mm_Eb (fun _ _ => mm_icmp_eq 42 dX11_term_21 (by decide)) (fun c_21 => ?_) (fun c_21 => ?_)
            · refine mm_Es (fun _ _ => mm_aload_n dX11_term_42 rfl rfl) ?_
              refine mm_Es (fun _ _ => mm_cV (Y1 := YX11_sign) dX11_term_43 lX11_214 vX11_sign (MG) sh_165 rfl rfl (by simp [Value.category])) ?_
              refine mm_Es (fun _ _ => mm_bipush (x := 42) dX11_term_46 (by decide)) ?_
              refine mm_Ebn (fun _ _ => mm_icmp_ne 56 dX11_term_48 (by decide)) (fun c_48 => ?_) (fun c_48 => ?_)
              · exact absurd c_48 (by decide)
              · refine mm_Es (fun _ _ => mm_bipush (x := 13) dX11_term_51 (by decide)) ?_
                refine mm_Es (fun _ _ => mm_goto 72 dX11_term_53 (by decide)) ?_
                refine mm_Es (fun _ _ => mm_istore_n dX11_term_72 rfl (by decide) rfl) ?_
                exact K
            · exact absurd c_21 (by decide)
        · rw [(sg_9 hby).mpr z] at MG
          rw [z] at ekk
          have ekk : kk = 14 := ekk
          rw [ekk] at K
          refine mm_Es (fun _ _ => mm_aload_n dX11_term_8 rfl rfl) ?_
          refine mm_Es (fun _ _ => mm_getI dX11_term_9 fX11_208 sh_165 rfl) ?_
          refine mm_Ebn (fun _ _ => mm_if_ne 100 dX11_term_12 (by decide)) (fun c_12 => ?_) (fun c_12 => ?_)
          · exact absurd f0 c_12
          · refine mm_Es (fun _ _ => mm_aload_n dX11_term_15 rfl rfl) ?_
            refine mm_Es (fun _ _ => mm_cV (Y1 := YX11_sign) dX11_term_16 lX11_214 vX11_sign (MG) sh_165 rfl rfl (by simp [Value.category])) ?_
            refine mm_Es (fun _ _ => mm_bipush (x := 42) dX11_term_19 (by decide)) ?_
            refine mm_Eb (fun _ _ => mm_icmp_eq 42 dX11_term_21 (by decide)) (fun c_21 => ?_) (fun c_21 => ?_)
            · exact absurd c_21 (by decide)
            · refine mm_Es (fun _ _ => mm_aload_n dX11_term_24 rfl rfl) ?_
              refine mm_Es (fun _ _ => mm_cV (Y1 := YX11_sign) dX11_term_25 lX11_214 vX11_sign (MG) sh_165 rfl rfl (by simp [Value.category])) ?_
              refine mm_Es (fun _ _ => mm_bipush (x := 47) dX11_term_28 (by decide)) ?_
              refine mm_Eb (fun _ _ => mm_icmp_eq 42 dX11_term_30 (by decide)) (fun c_30 => ?_) (fun c_30 => ?_)
              · refine mm_Es (fun _ _ => mm_aload_n dX11_term_42 rfl rfl) ?_
                refine mm_Es (fun _ _ => mm_cV (Y1 := YX11_sign) dX11_term_43 lX11_214 vX11_sign (MG) sh_165 rfl rfl (by simp [Value.category])) ?_
                refine mm_Es (fun _ _ => mm_bipush (x := 42) dX11_term_46 (by decide)) ?_
                refine mm_Ebn (fun _ _ => mm_icmp_ne 56 dX11_term_48 (by decide)) (fun c_48 => ?_) (fun c_48 => ?_)
                · refine mm_Es (fun _ _ => mm_aload_n dX11_term_56 rfl rfl) ?_
                  refine mm_Es (fun _ _ => mm_cV (Y1 := YX11_sign) dX11_term_57 lX11_214 vX11_sign (MG) sh_165 rfl rfl (by simp [Value.category])) ?_
                  refine mm_Es (fun _ _ => mm_bipush (x := 47) dX11_term_60 (by decide)) ?_
                  refine mm_Ebn (fun _ _ => mm_icmp_ne 70 dX11_term_62 (by decide)) (fun c_62 => ?_) (fun c_62 => ?_)
                  · exact absurd c_62 (by decide)
                  · refine mm_Es (fun _ _ => mm_bipush (x := 14) dX11_term_65 (by decide)) ?_
                    refine mm_Es (fun _ _ => mm_goto 72 dX11_term_67 (by decide)) ?_
                    refine mm_Es (fun _ _ => mm_istore_n dX11_term_72 rfl (by decide) rfl) ?_
                    exact K
                · exact absurd c_48 (by decide)
              · exact absurd c_30 (by decide)
        · rw [(sg_10 hby).mpr z] at MG
          rw [z] at ekk
          have ekk : kk = 15 := ekk
          rw [ekk] at K
          refine mm_Es (fun _ _ => mm_aload_n dX11_term_8 rfl rfl) ?_
          refine mm_Es (fun _ _ => mm_getI dX11_term_9 fX11_208 sh_165 rfl) ?_
          refine mm_Ebn (fun _ _ => mm_if_ne 100 dX11_term_12 (by decide)) (fun c_12 => ?_) (fun c_12 => ?_)
          · exact absurd f0 c_12
          · refine mm_Es (fun _ _ => mm_aload_n dX11_term_15 rfl rfl) ?_
            refine mm_Es (fun _ _ => mm_cV (Y1 := YX11_sign) dX11_term_16 lX11_214 vX11_sign (MG) sh_165 rfl rfl (by simp [Value.category])) ?_
            refine mm_Es (fun _ _ => mm_bipush (x := 42) dX11_term_19 (by decide)) ?_
            refine mm_Eb (fun _ _ => mm_icmp_eq 42 dX11_term_21 (by decide)) (fun c_21 => ?_) (fun c_21 => ?_)
            · exact absurd c_21 (by decide)
            · refine mm_Es (fun _ _ => mm_aload_n dX11_term_24 rfl rfl) ?_
              refine mm_Es (fun _ _ => mm_cV (Y1 := YX11_sign) dX11_term_25 lX11_214 vX11_sign (MG) sh_165 rfl rfl (by simp [Value.category])) ?_
              refine mm_Es (fun _ _ => mm_bipush (x := 47) dX11_term_28 (by decide)) ?_
              refine mm_Eb (fun _ _ => mm_icmp_eq 42 dX11_term_30 (by decide)) (fun c_30 => ?_) (fun c_30 => ?_)
              · exact absurd c_30 (by decide)
              · refine mm_Es (fun _ _ => mm_aload_n dX11_term_33 rfl rfl) ?_
                refine mm_Es (fun _ _ => mm_cV (Y1 := YX11_sign) dX11_term_34 lX11_214 vX11_sign (MG) sh_165 rfl rfl (by simp [Value.category])) ?_
                refine mm_Es (fun _ _ => mm_bipush (x := 37) dX11_term_37 (by decide)) ?_
                refine mm_Ebn (fun _ _ => mm_icmp_ne 100 dX11_term_39 (by decide)) (fun c_39 => ?_) (fun c_39 => ?_)
                · exact absurd c_39 (by decide)
                · refine mm_Es (fun _ _ => mm_aload_n dX11_term_42 rfl rfl) ?_
                  refine mm_Es (fun _ _ => mm_cV (Y1 := YX11_sign) dX11_term_43 lX11_214 vX11_sign (MG) sh_165 rfl rfl (by simp [Value.category])) ?_
                  refine mm_Es (fun _ _ => mm_bipush (x := 42) dX11_term_46 (by decide)) ?_
                  refine mm_Ebn (fun _ _ => mm_icmp_ne 56 dX11_term_48 (by decide)) (fun c_48 => ?_) (fun c_48 => ?_)
                  · refine mm_Es (fun _ _ => mm_aload_n dX11_term_56 rfl rfl) ?_
                    refine mm_Es (fun _ _ => mm_cV (Y1 := YX11_sign) dX11_term_57 lX11_214 vX11_sign (MG) sh_165 rfl rfl (by simp [Value.category])) ?_
                    refine mm_Es (fun _ _ => mm_bipush (x := 47) dX11_term_60 (by decide)) ?_
                    refine mm_Ebn (fun _ _ => mm_icmp_ne 70 dX11_term_62 (by decide)) (fun c_62 => ?_) (fun c_62 => ?_)
                    · refine mm_Es (fun _ _ => mm_bipush (x := 15) dX11_term_70 (by decide)) ?_
                      refine mm_Es (fun _ _ => mm_istore_n dX11_term_72 rfl (by decide) rfl) ?_
                      exact K
                    · exact absurd c_62 (by decide)
                  · exact absurd c_48 (by decide)
      refine T _ ?_
      cases e : zl_v B n (zl_a B n s1) with
      | error c =>
        rw [e] at R3
        rw [zl_b_e]
        have ME1 := mX11_entry_e (d + 5) g3 B n r c R3 kk 0
        obtain ⟨g5, M5, f5, E5⟩ := mX11_blanks_e (d + 4) g3 B n r c R3
        have K := KE g5 (some (.int kk)) c (fA.trans f5.mc.mv) E5
        refine mm_Es (fun _ _ => mm_aload_n dX11_term_73 rfl rfl) ?_
        refine mm_Es (fun _ _ => mm_dup dX11_term_74 rfl) ?_
        refine mm_Es (fun _ _ => mm_getI dX11_term_75 fX11_211 sh_165 rfl) ?_
        refine mm_Es (fun _ _ => mm_iconst (x := 1) dX11_term_78 (by decide)) ?_
        refine mm_Es (fun _ _ => mm_iadd dX11_term_79) ?_
        refine mm_Es (fun _ _ => mm_putI dX11_term_80 fX11_211 sh_165 rfl rfl rfl) ?_
        refine mm_Es (fun _ _ => mm_cast rfl rfl (g := g2) (by rw [eg2, ep, nI_succ])) ?_
        refine mm_Es (fun _ _ => mm_aload_n dX11_term_83 rfl rfl) ?_
        refine mm_Es (fun _ _ => mm_cV (Y1 := YX11_value) dX11_term_84 lX11_270 vX11_value (M3) sh_165 rfl rfl (by simp [Value.category])) ?_
        refine mm_Es (fun _ _ => mm_aload_n dX11_term_87 rfl rfl) ?_
        refine mm_Es (fun _ _ => mm_iload_n dX11_term_88 rfl rfl) ?_
        refine mm_Es (fun _ _ => mm_iconst (x := 0) dX11_term_89 (by decide)) ?_
        refine mm_Es (fun _ _ => mm_cV (Y1 := YX11_entry) dX11_term_90 lX11_263 vX11_entry (ME1) sh_165 rfl rfl (by simp [Value.category])) ?_
        refine mm_Es (fun _ _ => mm_aload_n dX11_term_93 rfl rfl) ?_
        refine mm_Es (fun _ _ => mm_cV (Y1 := YX11_blanks) dX11_term_94 lX11_231 vX11_blanks (M5) sh_165 rfl rfl (by simp [Value.category])) ?_
        refine mm_Es (fun _ _ => mm_goto 8 dX11_term_97 (by decide)) ?_
        exact K
      | ok s2 =>
        rw [e] at R3
        rw [zl_b_k]
        obtain ⟨p3, S3⟩ := R3
        obtain ⟨w1, w2, w3, w4⟩ := zl_v_fwd ad1 e
        have J3 := w4 _ J2
        have hl3 := zl_J_len hn4 w1 w3 J3
        obtain ⟨g4, M4, f4, S4⟩ := mX11_entry_t (d + 5) g3 B n r p3 hr s2 S3 (by omega) (100000 + kd B n s1.1) kk 0 ekk (by rw [rs_b (Or.inl hB)]; rfl)
        obtain ⟨g5, M5, f5, S5⟩ := mX11_blanks_s (d + 4) g4 B n r p3 _ S4
        have K := ih (zl_e (kd B n s1.1) s2) g5 (some (.int kk)) (by show n - s2.1 < f; omega) ((fA.trans f4).trans f5.mc.mv) S5 (zl_e_J (zl_J_le J3 (by omega)))
        refine mm_Es (fun _ _ => mm_aload_n dX11_term_73 rfl rfl) ?_
        refine mm_Es (fun _ _ => mm_dup dX11_term_74 rfl) ?_
        refine mm_Es (fun _ _ => mm_getI dX11_term_75 fX11_211 sh_165 rfl) ?_
        refine mm_Es (fun _ _ => mm_iconst (x := 1) dX11_term_78 (by decide)) ?_
        refine mm_Es (fun _ _ => mm_iadd dX11_term_79) ?_
        refine mm_Es (fun _ _ => mm_putI dX11_term_80 fX11_211 sh_165 rfl rfl rfl) ?_
        refine mm_Es (fun _ _ => mm_cast rfl rfl (g := g2) (by rw [eg2, ep, nI_succ])) ?_
        refine mm_Es (fun _ _ => mm_aload_n dX11_term_83 rfl rfl) ?_
        refine mm_Es (fun _ _ => mm_cV (Y1 := YX11_value) dX11_term_84 lX11_270 vX11_value (M3) sh_165 rfl rfl (by simp [Value.category])) ?_
        refine mm_Es (fun _ _ => mm_aload_n dX11_term_87 rfl rfl) ?_
        refine mm_Es (fun _ _ => mm_iload_n dX11_term_88 rfl rfl) ?_
        refine mm_Es (fun _ _ => mm_iconst (x := 0) dX11_term_89 (by decide)) ?_
        refine mm_Es (fun _ _ => mm_cV (Y1 := YX11_entry) dX11_term_90 lX11_263 vX11_entry (M4) sh_165 rfl rfl (by simp [Value.category])) ?_
        refine mm_Es (fun _ _ => mm_aload_n dX11_term_93 rfl rfl) ?_
        refine mm_Es (fun _ _ => mm_cV (Y1 := YX11_blanks) dX11_term_94 lX11_231 vX11_blanks (M5) sh_165 rfl rfl (by simp [Value.category])) ?_
        refine mm_Es (fun _ _ => mm_goto 8 dX11_term_97 (by decide)) ?_
        exact K
    · rw [if_neg hk]
      have n1 : ¬ sgV B n s1.1 = 42 := fun z => hk (by rw [(sg_8 hby).mp z]; decide)
      have n2 : ¬ sgV B n s1.1 = 47 := fun z => hk (by rw [(sg_9 hby).mp z]; decide)
      have n3 : ¬ sgV B n s1.1 = 37 := fun z => hk (by rw [(sg_10 hby).mp z]; decide)
      refine mm_Es (fun _ _ => mm_aload_n dX11_term_8 rfl rfl) ?_
      refine mm_Es (fun _ _ => mm_getI dX11_term_9 fX11_208 sh_165 rfl) ?_
      refine mm_Ebn (fun _ _ => mm_if_ne 100 dX11_term_12 (by decide)) (fun c_12 => ?_) (fun c_12 => ?_)
      · exact absurd f0 c_12
      · refine mm_Es (fun _ _ => mm_aload_n dX11_term_15 rfl rfl) ?_
        refine mm_Es (fun _ _ => mm_cV (Y1 := YX11_sign) dX11_term_16 lX11_214 vX11_sign (MG) sh_165 rfl rfl (by simp [Value.category])) ?_
        refine mm_Es (fun _ _ => mm_bipush (x := 42) dX11_term_19 (by decide)) ?_
        refine mm_Eb (fun _ _ => mm_icmp_eq 42 dX11_term_21 (by decide)) (fun c_21 => ?_) (fun c_21 => ?_)
        · exact absurd c_21 n1
        · refine mm_Es (fun _ _ => mm_aload_n dX11_term_24 rfl rfl) ?_
          refine mm_Es (fun _ _ => mm_cV (Y1 := YX11_sign) dX11_term_25 lX11_214 vX11_sign (MG) sh_165 rfl rfl (by simp [Value.category])) ?_
          refine mm_Es (fun _ _ => mm_bipush (x := 47) dX11_term_28 (by decide)) ?_
          refine mm_Eb (fun _ _ => mm_icmp_eq 42 dX11_term_30 (by decide)) (fun c_30 => ?_) (fun c_30 => ?_)
          · exact absurd c_30 n2
          · refine mm_Es (fun _ _ => mm_aload_n dX11_term_33 rfl rfl) ?_
            refine mm_Es (fun _ _ => mm_cV (Y1 := YX11_sign) dX11_term_34 lX11_214 vX11_sign (MG) sh_165 rfl rfl (by simp [Value.category])) ?_
            refine mm_Es (fun _ _ => mm_bipush (x := 37) dX11_term_37 (by decide)) ?_
            refine mm_Ebn (fun _ _ => mm_icmp_ne 100 dX11_term_39 (by decide)) (fun c_39 => ?_) (fun c_39 => ?_)
            · refine mm_Er (mm_return dX11_term_100 rfl) ?_
              exact ⟨rfl, fg, S1⟩
            · exact absurd c_39 n3
  have hl := zl_J_len hn4 hle hv hJ
  obtain ⟨g1, M1, f1, R1⟩ := mX11_value d h B n r p hr s S (by omega)
  cases e : zl_v B n s with
  | error c =>
    rw [e] at R1
    rw [zl_b_e]
    obtain ⟨g2, M2, f2, E2⟩ := mX11_blanks_e (d + 4) g1 B n r c R1
    have K := KE g2 none c (f1.trans f2.mc.mv) E2
    refine mm_Es (fun _ _ => mm_aload_n dX11_term_0 rfl rfl) ?_
    refine mm_Es (fun _ _ => mm_cV (Y1 := YX11_value) dX11_term_1 lX11_270 vX11_value (M1) sh_165 rfl rfl (by simp [Value.category])) ?_
    refine mm_Es (fun _ _ => mm_aload_n dX11_term_4 rfl rfl) ?_
    refine mm_Es (fun _ _ => mm_cV (Y1 := YX11_blanks) dX11_term_5 lX11_231 vX11_blanks (M2) sh_165 rfl rfl (by simp [Value.category])) ?_
    exact K
  | ok s1 =>
    rw [e] at R1
    rw [zl_b_k]
    obtain ⟨p1, S1⟩ := R1
    obtain ⟨w1, w2, w3, w4⟩ := zl_v_fwd hle e
    obtain ⟨g2, M2, f2, S2⟩ := mX11_blanks_s (d + 4) g1 B n r p1 s1 S1
    have K := K8 fu s1 g2 none (by omega) (f1.trans f2.mc.mv) S2 (zl_J_le (w4 _ hJ) (by omega))
    refine mm_Es (fun _ _ => mm_aload_n dX11_term_0 rfl rfl) ?_
    refine mm_Es (fun _ _ => mm_cV (Y1 := YX11_value) dX11_term_1 lX11_270 vX11_value (M1) sh_165 rfl rfl (by simp [Value.category])) ?_
    refine mm_Es (fun _ _ => mm_aload_n dX11_term_4 rfl rfl) ?_
    refine mm_Es (fun _ _ => mm_cV (Y1 := YX11_blanks) dX11_term_5 lX11_231 vX11_blanks (M2) sh_165 rfl rfl (by simp [Value.category])) ?_
    exact K
set_option maxRecDepth 100000 in
set_option maxHeartbeats 4000000 in
theorem mX11_term_x (d : Nat) (h : mm_H) (B : Nat → Int32) (n r c : Nat) (S : ME B n h r c) : ∃ g, mm_M (d + 6) YX11_term [.ref 165] h none g ∧ mv_fr r h g ∧ ME B n g r c := by
  obtain ⟨g1, M1, f1, E1⟩ := mX11_value_x d h B n r c S
  obtain ⟨g2, M2, f2, E2⟩ := mX11_blanks_e (d + 4) g1 B n r c E1
  have f0 := E2.f0
  refine ⟨g2, ?_, f1.trans f2.mc.mv, E2⟩
  refine mm_M.of [some (.ref 165), none] rfl rfl (Nat.le_of_ble_eq_true rfl) ?_
  refine mm_aload_n dX11_term_0 rfl rfl ?_
  refine mm_cV (Y1 := YX11_value) dX11_term_1 lX11_270 vX11_value (M1) sh_165 rfl rfl (by simp [Value.category]) ?_
  refine mm_aload_n dX11_term_4 rfl rfl ?_
  refine mm_cV (Y1 := YX11_blanks) dX11_term_5 lX11_231 vX11_blanks (M2) sh_165 rfl rfl (by simp [Value.category]) ?_
  refine mm_aload_n dX11_term_8 rfl rfl ?_
  refine mm_getI dX11_term_9 fX11_208 sh_165 rfl ?_
  refine mm_if_ne 100 dX11_term_12 (by decide) (fun c_12 => ?_) (fun c_12 => ?_)
  · exact mm_retE dX11_term_100 rfl rfl
  · exact absurd c_12 f0
set_option maxRecDepth 100000 in
set_option maxHeartbeats 4000000 in
theorem mX11_sum (d : Nat) (h : mm_H) (B : Nat → Int32) (n r p : Nat) (hr : r < 6) (s : zl_S) (S : zm_S B n h r s p) (hJ : zl_J 0 s) (fu : Nat) (hfu : n - s.1 ≤ fu) : ∃ g, mm_M (d + 7) YX11_sum [.ref 165] h none g ∧ mv_fr r h g ∧ MR0 B n g r (zl_m B n fu s) := by
  have hn4 := S.1.2.2.2.2.1
  have hby := S.1.2.2.2.2.2
  have hle := S.le
  have hv := S.2.2.2.2.2.2.2.2
  suffices hE : mm_E (d + 7) YX11_sum 0 [some (.ref 165), none] [] h (fun v g => v = none ∧ mv_fr r h g ∧ MR0 B n g r (zl_m B n fu s)) by
    obtain ⟨v, g, hR, rfl, h1⟩ := hE
    exact ⟨g, mm_M.of _ rfl rfl (Nat.le_of_ble_eq_true rfl) hR, h1⟩
  have KE : ∀ gg x1 c, mv_fr r h gg → ME B n gg r c → mm_E (d + 7) YX11_sum 4 [some (.ref 165), x1] [] gg (fun v g => v = none ∧ mv_fr r h g ∧ MR0 B n g r (.error c)) := by
    intro gg x1 c fg E
    have f0 := E.f0
    refine mm_Es (fun _ _ => mm_aload_n dX11_sum_4 rfl rfl) ?_
    refine mm_Es (fun _ _ => mm_getI dX11_sum_5 fX11_208 sh_165 rfl) ?_
    refine mm_Ebn (fun _ _ => mm_if_ne 67 dX11_sum_8 (by decide)) (fun c_8 => ?_) (fun c_8 => ?_)
    · refine mm_Er (mm_return dX11_sum_67 rfl) ?_
      exact ⟨rfl, fg, E⟩
    · exact absurd c_8 f0
  have K4 : ∀ f s1 gg x1, n - s1.1 < f → mv_fr r h gg → zm_S B n gg r s1 s1.1 → zl_J 0 s1 → mm_E (d + 7) YX11_sum 4 [some (.ref 165), x1] [] gg (fun v g => v = none ∧ mv_fr r h g ∧ MR0 B n g r (zl_s B n f s1)) := by
    intro f
    induction f with
    | zero => intro s1 gg x1 z; omega
    | succ f ih =>
    intro s1 gg x1 hf fg S1 hJ1
    have hle1 := S1.le
    have hv1 := S1.2.2.2.2.2.2.2.2
    have f0 := S1.f0
    have hl1 := zl_J_len hn4 hle1 hv1 hJ1
    have MG := mX11_sign (d + 6) gg B n s1.1 0 S1.1 (by omega)
    have ex : zl_s B n (f + 1) s1 = if kd B n s1.1 = 6 ∨ kd B n s1.1 = 7 then zl_b (zl_b (zl_v B n (zl_a B n s1)) (fun s2 => zl_t B n f s2)) (fun s3 => zl_s B n f (zl_e (kd B n s1.1) s3)) else .ok s1 := by rw [zl_b_a]; simp only [zl_s]
    rw [ex]
    by_cases hk : kd B n s1.1 = 6 ∨ kd B n s1.1 = 7
    · rw [if_pos hk]
      obtain ⟨q1, q2, q3⟩ := en_1 (B := B) (n := n) (p := s1.1) (by omega)
      obtain ⟨g2, eg2⟩ : ∃ g : mm_H, g = (mm_up gg.1 165 21 (nI (s1.1 + 1)), gg.2.1, gg.2.2) := ⟨_, rfl⟩
      have f2 : mt_fr gg g2 := by rw [eg2]; exact mt_p gg _
      have S2 : zm_S B n g2 r (zl_a B n s1) (s1.1 + 1) := S1.a f2 (by rw [eg2]; exact S1.1.p _) (by omega) q3
      have ep : gg.1 165 21 = nI s1.1 := S1.1.2.1
      obtain ⟨ad1, ad2, ad3⟩ := zl_a_bd (B := B) (s := s1) hle1 (by omega)
      have J2 := ad3 _ hJ1
      obtain ⟨g3, M3, f3, R3⟩ := mX11_term d g2 B n r (s1.1 + 1) hr (zl_a B n s1) S2 (zl_J_le J2 (by omega)) f (by omega)
      have fA := (fg.trans f2.mc.mv).trans f3
      have hB : isBin (kd B n s1.1) := Or.inl (by omega)
      obtain ⟨kk, ekk⟩ : ∃ kk, kk = nI (rs (100000 + kd B n s1.1)) := ⟨_, rfl⟩
      have T : ∀ P, mm_E (d + 7) YX11_sum 44 [some (.ref 165), some (.int kk)] [] gg P → mm_E (d + 7) YX11_sum 4 [some (.ref 165), x1] [] gg P := by
        intro P K
        rcases hk with z | z
        · rw [(sg_6 hby).mpr z] at MG
          rw [z] at ekk
          have ekk : kk = 2 := ekk
          rw [ekk] at K
          refine mm_Es (fun _ _ => mm_aload_n dX11_sum_4 rfl rfl) ?_
          refine mm_Es (fun _ _ => mm_getI dX11_sum_5 fX11_208 sh_165 rfl) ?_
          refine mm_Ebn (fun _ _ => mm_if_ne 67 dX11_sum_8 (by decide)) (fun c_8 => ?_) (fun c_8 => ?_)
          · exact absurd f0 c_8
          · refine mm_Es (fun _ _ => mm_aload_n dX11_sum_11 rfl rfl) ?_
            refine mm_Es (fun _ _ => mm_cV (Y1 := YX11_sign) dX11_sum_12 lX11_214 vX11_sign (MG) sh_165 rfl rfl (by simp [Value.category])) ?_
            refine mm_Es (fun _ _ => mm_bipush (x := 43) dX11_sum_15 (by decide)) ?_
            refine mm_Eb (fun _ _ => mm_icmp_eq 29 dX11_sum_17 (by decide)) (fun c_17 => ?_) (fun c_17 => ?_)
            · refine mm_Es (fun _ _ => mm_aload_n dX11_sum_29 rfl rfl) ?_
              refine mm_Es (fun _ _ => mm_cV (Y1 := YX11_sign) dX11_sum_30 lX11_214 vX11_sign (MG) sh_165 rfl rfl (by simp [Value.category])) ?_
              refine mm_Es (fun _ _ => mm_bipush (x := 43) dX11_sum_33 (by decide)) ?_
              refine mm_Ebn (fun _ _ => mm_icmp_ne 42 dX11_sum_35 (by decide)) (fun c_35 => ?_) (fun c_35 => ?_)
              · exact absurd c_35 (by decide)
              · refine mm_Es (fun _ _ => mm_iconst (x := 2) dX11_sum_38 (by decide)) ?_
                refine mm_Es (fun _ _ => mm_goto 43 dX11_sum_39 (by decide)) ?_
                refine mm_Es (fun _ _ => mm_istore_n dX11_sum_43 rfl (by decide) rfl) ?_
                exact K
            · exact absurd c_17 (by decide)
        · rw [(sg_7 hby).mpr z] at MG
          rw [z] at ekk
          have ekk : kk = 3 := ekk
          rw [ekk] at K
          refine mm_Es (fun _ _ => mm_aload_n dX11_sum_4 rfl rfl) ?_
          refine mm_Es (fun _ _ => mm_getI dX11_sum_5 fX11_208 sh_165 rfl) ?_
          refine mm_Ebn (fun _ _ => mm_if_ne 67 dX11_sum_8 (by decide)) (fun c_8 => ?_) (fun c_8 => ?_)
          · exact absurd f0 c_8
          · refine mm_Es (fun _ _ => mm_aload_n dX11_sum_11 rfl rfl) ?_
            refine mm_Es (fun _ _ => mm_cV (Y1 := YX11_sign) dX11_sum_12 lX11_214 vX11_sign (MG) sh_165 rfl rfl (by simp [Value.category])) ?_
            refine mm_Es (fun _ _ => mm_bipush (x := 43) dX11_sum_15 (by decide)) ?_
            refine mm_Eb (fun _ _ => mm_icmp_eq 29 dX11_sum_17 (by decide)) (fun c_17 => ?_) (fun c_17 => ?_)
            · exact absurd c_17 (by decide)
            · refine mm_Es (fun _ _ => mm_aload_n dX11_sum_20 rfl rfl) ?_
              refine mm_Es (fun _ _ => mm_cV (Y1 := YX11_sign) dX11_sum_21 lX11_214 vX11_sign (MG) sh_165 rfl rfl (by simp [Value.category])) ?_
              refine mm_Es (fun _ _ => mm_bipush (x := 45) dX11_sum_24 (by decide)) ?_
              refine mm_Ebn (fun _ _ => mm_icmp_ne 67 dX11_sum_26 (by decide)) (fun c_26 => ?_) (fun c_26 => ?_)
              · exact absurd c_26 (by decide)
              · refine mm_Es (fun _ _ => mm_aload_n dX11_sum_29 rfl rfl) ?_
                refine mm_Es (fun _ _ => mm_cV (Y1 := YX11_sign) dX11_sum_30 lX11_214 vX11_sign (MG) sh_165 rfl rfl (by simp [Value.category])) ?_
                refine mm_Es (fun _ _ => mm_bipush (x := 43) dX11_sum_33 (by decide)) ?_
                refine mm_Ebn (fun _ _ => mm_icmp_ne 42 dX11_sum_35 (by decide)) (fun c_35 => ?_) (fun c_35 => ?_)
                · refine mm_Es (fun _ _ => mm_iconst (x := 3) dX11_sum_42 (by decide)) ?_
                  refine mm_Es (fun _ _ => mm_istore_n dX11_sum_43 rfl (by decide) rfl) ?_
                  exact K
                · exact absurd c_35 (by decide)
      refine T _ ?_
      cases e : zl_b (zl_v B n (zl_a B n s1)) (fun s2 => zl_t B n f s2) with
      | error c =>
        rw [e] at R3
        rw [zl_b_e]
        have ME1 := mX11_entry_e (d + 6) g3 B n r c R3 kk 0
        have K := KE g3 (some (.int kk)) c fA R3
        refine mm_Es (fun _ _ => mm_aload_n dX11_sum_44 rfl rfl) ?_
        refine mm_Es (fun _ _ => mm_dup dX11_sum_45 rfl) ?_
        refine mm_Es (fun _ _ => mm_getI dX11_sum_46 fX11_211 sh_165 rfl) ?_
        refine mm_Es (fun _ _ => mm_iconst (x := 1) dX11_sum_49 (by decide)) ?_
        refine mm_Es (fun _ _ => mm_iadd dX11_sum_50) ?_
        refine mm_Es (fun _ _ => mm_putI dX11_sum_51 fX11_211 sh_165 rfl rfl rfl) ?_
        refine mm_Es (fun _ _ => mm_cast rfl rfl (g := g2) (by rw [eg2, ep, nI_succ])) ?_
        refine mm_Es (fun _ _ => mm_aload_n dX11_sum_54 rfl rfl) ?_
        refine mm_Es (fun _ _ => mm_cV (Y1 := YX11_term) dX11_sum_55 lX11_273 vX11_term (M3) sh_165 rfl rfl (by simp [Value.category])) ?_
        refine mm_Es (fun _ _ => mm_aload_n dX11_sum_58 rfl rfl) ?_
        refine mm_Es (fun _ _ => mm_iload_n dX11_sum_59 rfl rfl) ?_
        refine mm_Es (fun _ _ => mm_iconst (x := 0) dX11_sum_60 (by decide)) ?_
        refine mm_Es (fun _ _ => mm_cV (Y1 := YX11_entry) dX11_sum_61 lX11_263 vX11_entry (ME1) sh_165 rfl rfl (by simp [Value.category])) ?_
        refine mm_Es (fun _ _ => mm_goto 4 dX11_sum_64 (by decide)) ?_
        exact K
      | ok s2 =>
        rw [e] at R3
        rw [zl_b_k]
        obtain ⟨s0, y1, y2⟩ := zl_b_inv e
        obtain ⟨w1, w2, w3, w4⟩ := zl_v_fwd ad1 y1
        obtain ⟨⟨u1, u2, u3, u4⟩, -⟩ := zl_t_fwd f s0 s2 w1 w3 y2
        have J3 := u4 _ (w4 _ J2)
        have hl3 := zl_J_len hn4 u1 u3 J3
        obtain ⟨g4, M4, f4, S4⟩ := mX11_entry_t (d + 6) g3 B n r s2.1 hr s2 R3 (by omega) (100000 + kd B n s1.1) kk 0 ekk (by rw [rs_b (Or.inl hB)]; rfl)
        have K := ih (zl_e (kd B n s1.1) s2) g4 (some (.int kk)) (by show n - s2.1 < f; omega) (fA.trans f4) S4 (zl_e_J (zl_J_le J3 (by omega)))
        refine mm_Es (fun _ _ => mm_aload_n dX11_sum_44 rfl rfl) ?_
        refine mm_Es (fun _ _ => mm_dup dX11_sum_45 rfl) ?_
        refine mm_Es (fun _ _ => mm_getI dX11_sum_46 fX11_211 sh_165 rfl) ?_
        refine mm_Es (fun _ _ => mm_iconst (x := 1) dX11_sum_49 (by decide)) ?_
        refine mm_Es (fun _ _ => mm_iadd dX11_sum_50) ?_
        refine mm_Es (fun _ _ => mm_putI dX11_sum_51 fX11_211 sh_165 rfl rfl rfl) ?_
        refine mm_Es (fun _ _ => mm_cast rfl rfl (g := g2) (by rw [eg2, ep, nI_succ])) ?_
        refine mm_Es (fun _ _ => mm_aload_n dX11_sum_54 rfl rfl) ?_
        refine mm_Es (fun _ _ => mm_cV (Y1 := YX11_term) dX11_sum_55 lX11_273 vX11_term (M3) sh_165 rfl rfl (by simp [Value.category])) ?_
        refine mm_Es (fun _ _ => mm_aload_n dX11_sum_58 rfl rfl) ?_
        refine mm_Es (fun _ _ => mm_iload_n dX11_sum_59 rfl rfl) ?_
        refine mm_Es (fun _ _ => mm_iconst (x := 0) dX11_sum_60 (by decide)) ?_
        refine mm_Es (fun _ _ => mm_cV (Y1 := YX11_entry) dX11_sum_61 lX11_263 vX11_entry (M4) sh_165 rfl rfl (by simp [Value.category])) ?_
        refine mm_Es (fun _ _ => mm_goto 4 dX11_sum_64 (by decide)) ?_
        exact K
    · rw [if_neg hk]
      have n1 : ¬ sgV B n s1.1 = 43 := fun z => hk (Or.inl ((sg_6 hby).mp z))
      have n2 : ¬ sgV B n s1.1 = 45 := fun z => hk (Or.inr ((sg_7 hby).mp z))
      refine mm_Es (fun _ _ => mm_aload_n dX11_sum_4 rfl rfl) ?_
      refine mm_Es (fun _ _ => mm_getI dX11_sum_5 fX11_208 sh_165 rfl) ?_
      refine mm_Ebn (fun _ _ => mm_if_ne 67 dX11_sum_8 (by decide)) (fun c_8 => ?_) (fun c_8 => ?_)
      · exact absurd f0 c_8
      · refine mm_Es (fun _ _ => mm_aload_n dX11_sum_11 rfl rfl) ?_
        refine mm_Es (fun _ _ => mm_cV (Y1 := YX11_sign) dX11_sum_12 lX11_214 vX11_sign (MG) sh_165 rfl rfl (by simp [Value.category])) ?_
        refine mm_Es (fun _ _ => mm_bipush (x := 43) dX11_sum_15 (by decide)) ?_
        refine mm_Eb (fun _ _ => mm_icmp_eq 29 dX11_sum_17 (by decide)) (fun c_17 => ?_) (fun c_17 => ?_)
        · exact absurd c_17 n1
        · refine mm_Es (fun _ _ => mm_aload_n dX11_sum_20 rfl rfl) ?_
          refine mm_Es (fun _ _ => mm_cV (Y1 := YX11_sign) dX11_sum_21 lX11_214 vX11_sign (MG) sh_165 rfl rfl (by simp [Value.category])) ?_
          refine mm_Es (fun _ _ => mm_bipush (x := 45) dX11_sum_24 (by decide)) ?_
          refine mm_Ebn (fun _ _ => mm_icmp_ne 67 dX11_sum_26 (by decide)) (fun c_26 => ?_) (fun c_26 => ?_)
          · refine mm_Er (mm_return dX11_sum_67 rfl) ?_
            exact ⟨rfl, fg, S1⟩
          · exact absurd c_26 n2
  obtain ⟨g1, M1, f1, R1⟩ := mX11_term d h B n r p hr s S hJ fu hfu
  have em : zl_m B n fu s = zl_b (zl_b (zl_v B n s) (fun s1 => zl_t B n fu s1)) (fun s2 => zl_s B n fu s2) := by rw [zl_b_a]; rfl
  rw [em]
  cases e : zl_b (zl_v B n s) (fun s1 => zl_t B n fu s1) with
  | error c =>
    rw [e] at R1
    rw [zl_b_e]
    have K := KE g1 none c f1 R1
    refine mm_Es (fun _ _ => mm_aload_n dX11_sum_0 rfl rfl) ?_
    refine mm_Es (fun _ _ => mm_cV (Y1 := YX11_term) dX11_sum_1 lX11_273 vX11_term (M1) sh_165 rfl rfl (by simp [Value.category])) ?_
    exact K
  | ok s1 =>
    rw [e] at R1
    rw [zl_b_k]
    obtain ⟨s0, y1, y2⟩ := zl_b_inv e
    obtain ⟨w1, w2, w3, w4⟩ := zl_v_fwd hle y1
    obtain ⟨⟨u1, u2, u3, u4⟩, -⟩ := zl_t_fwd fu s0 s1 w1 w3 y2
    have K := K4 fu s1 g1 none (by omega) f1 R1 (zl_J_le (u4 _ (w4 _ hJ)) (by omega))
    refine mm_Es (fun _ _ => mm_aload_n dX11_sum_0 rfl rfl) ?_
    refine mm_Es (fun _ _ => mm_cV (Y1 := YX11_term) dX11_sum_1 lX11_273 vX11_term (M1) sh_165 rfl rfl (by simp [Value.category])) ?_
    exact K
set_option maxRecDepth 100000 in
set_option maxHeartbeats 4000000 in
theorem mX11_sum_x (d : Nat) (h : mm_H) (B : Nat → Int32) (n r c : Nat) (S : ME B n h r c) : ∃ g, mm_M (d + 7) YX11_sum [.ref 165] h none g ∧ mv_fr r h g ∧ ME B n g r c := by
  obtain ⟨g1, M1, f1, E1⟩ := mX11_term_x d h B n r c S
  have f0 := E1.f0
  refine ⟨g1, ?_, f1, E1⟩
  refine mm_M.of [some (.ref 165), none] rfl rfl (Nat.le_of_ble_eq_true rfl) ?_
  refine mm_aload_n dX11_sum_0 rfl rfl ?_
  refine mm_cV (Y1 := YX11_term) dX11_sum_1 lX11_273 vX11_term (M1) sh_165 rfl rfl (by simp [Value.category]) ?_
  refine mm_aload_n dX11_sum_4 rfl rfl ?_
  refine mm_getI dX11_sum_5 fX11_208 sh_165 rfl ?_
  refine mm_if_ne 67 dX11_sum_8 (by decide) (fun c_8 => ?_) (fun c_8 => ?_)
  · exact mm_retE dX11_sum_67 rfl rfl
  · exact absurd c_8 f0
