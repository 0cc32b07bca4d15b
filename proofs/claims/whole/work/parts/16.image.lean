/-! image and back, of the class and of the reference. -/
/-- the rows that an image of the reference keeps, in its order: cell, length, where it lies -/
def ca_c (f : Nat) : Nat := ([166, 167, 168, 169, 170, 171, 172, 180, 181, 182, 183, 184] : List Nat).getD f 166
def ca_n (f : Nat) : Nat := ([7, 12, 12, 12, 12, 4, 4, 12, 12, 12, 10, 10] : List Nat).getD f 0
def ca_o (f : Nat) : Nat := ([0, 7, 19, 31, 43, 55, 59, 63, 75, 87, 99, 109, 119] : List Nat).getD f 0
theorem ca_facts : ∀ f, f < 12 → mm_sh (ca_c f) = (1, ca_n f) ∧ ca_n f ≤ 12 ∧ ca_c f ≠ 214 ∧ ca_c f ≠ 165 ∧ ca_o (f + 1) = ca_o f + ca_n f ∧ ca_o (f + 1) ≤ 119 := by decide +kernel
theorem ca_inj : ∀ f, f < 12 → ∀ g, g < 12 → ca_c f = ca_c g → f = g := by decide +kernel
theorem ca_mono : ∀ f, f < 12 → ∀ g, g ≤ f → ca_o g + ca_n g ≤ ca_o (f + 1) := by decide +kernel
/-- k rows carried into the image at base -/
def carF (h g : mm_H) (base k : Nat) : Prop := g.2 = h.2 ∧ g.1 165 66 = nI (base + ca_o k) ∧ g.1 165 67 = 0 ∧ (∀ j, j ≠ 66 → j ≠ 67 → g.1 165 j = h.1 165 j) ∧ (∀ f j, f < k → j < ca_n f → g.1 214 (base + ca_o f + j) = h.1 (ca_c f) j) ∧ (∀ j, j < base ∨ base + 119 ≤ j → g.1 214 j = h.1 214 j) ∧ (∀ c, c ≠ 165 → c ≠ 214 → g.1 c = h.1 c)
/-- k rows carried back out of it -/
def carB (h g : mm_H) (base k : Nat) : Prop := g.2 = h.2 ∧ g.1 165 66 = nI (base + ca_o k) ∧ ¬ g.1 165 67 = 0 ∧ (∀ j, j ≠ 66 → j ≠ 67 → g.1 165 j = h.1 165 j) ∧ (∀ f j, f < k → j < ca_n f → g.1 (ca_c f) j = h.1 214 (base + ca_o f + j)) ∧ (∀ c, c ≠ 165 → (∀ f, f < 12 → c ≠ ca_c f) → g.1 c = h.1 c)
theorem carF_s (d : Nat) (h g : mm_H) (base k : Nat) (hk : k < 12) (hb : base + 119 ≤ 520) (C : carF h g base k) : ∃ g', mm_M d YX11_carry [.ref 165, .ref (ca_c k)] g none g' ∧ carF h g' base (k + 1) := by
  obtain ⟨c1, c2, c3, c4, c5, c6, c7⟩ := C
  obtain ⟨f1, f2, f3, f4, f5, f6⟩ := ca_facts k hk
  refine ⟨_, mX11_carry_f d g (ca_c k) (ca_n k) (base + ca_o k) f1 f2 f3 f4 c2 (by omega) c3, ?_⟩
  refine ⟨c1, ?_, ?_, fun j h1 h2 => ?_, fun f j hf hj => ?_, fun j hj => ?_, fun c hc1 hc2 => ?_⟩
  · dsimp only; rw [mm_up_e, f5, Nat.add_assoc]
  · dsimp only; rw [mm_up_k (by decide), mm_row_n (by decide)]; exact c3
  · dsimp only; rw [mm_up_k h1, mm_row_n (by decide)]; exact c4 j h1 h2
  · dsimp only; rw [mm_up_n (by decide), mm_row_s]
    rcases (show f < k ∨ f = k by omega) with z | z
    · have m1 := ca_mono (k - 1) (by omega) f (by omega)
      rw [show k - 1 + 1 = k by omega] at m1
      have : ¬ (base + ca_o k ≤ base + ca_o f + j ∧ base + ca_o f + j < base + ca_o k + ca_n k) := by omega
      simp only [sp_car, if_neg this]
      exact c5 f j z hj
    · subst z
      have : base + ca_o f ≤ base + ca_o f + j ∧ base + ca_o f + j < base + ca_o f + ca_n f := by omega
      simp only [sp_car, if_pos this]
      rw [show base + ca_o f + j - (base + ca_o f) = j by omega, c7 _ f4 f3]
  · dsimp only; rw [mm_up_n (by decide), mm_row_s]
    have : ¬ (base + ca_o k ≤ j ∧ j < base + ca_o k + ca_n k) := by omega
    simp only [sp_car, if_neg this]
    exact c6 j hj
  · dsimp only; rw [mm_up_n hc1, mm_row_n hc2]; exact c7 c hc1 hc2
theorem carB_s (d : Nat) (h g : mm_H) (base k : Nat) (hk : k < 12) (hb : base + 119 ≤ 520) (C : carB h g base k) : ∃ g', mm_M d YX11_carry [.ref 165, .ref (ca_c k)] g none g' ∧ carB h g' base (k + 1) := by
  obtain ⟨c1, c2, c3, c4, c5, c7⟩ := C
  obtain ⟨f1, f2, f3, f4, f5, f6⟩ := ca_facts k hk
  have c214 : g.1 214 = h.1 214 := c7 214 (by decide) (fun f hf z => (ca_facts f hf).2.2.1 z.symm)
  refine ⟨_, mX11_carry_b d g (ca_c k) (ca_n k) (base + ca_o k) f1 f2 f3 f4 c2 (by omega) c3, ?_⟩
  refine ⟨c1, ?_, ?_, fun j h1 h2 => ?_, fun f j hf hj => ?_, fun c hc1 hc2 => ?_⟩
  · dsimp only; rw [mm_up_e, f5, Nat.add_assoc]
  · dsimp only; rw [mm_up_k (by decide), mm_row_n (fun z => f4 z.symm)]; exact c3
  · dsimp only; rw [mm_up_k h1, mm_row_n (fun z => f4 z.symm)]; exact c4 j h1 h2
  · rcases (show f < k ∨ f = k by omega) with z | z
    · have hne : ca_c f ≠ ca_c k := fun e => by have := ca_inj f (by omega) k hk e; omega
      dsimp only; rw [mm_up_n (ca_facts f (by omega)).2.2.2.1, mm_row_n hne]
      exact c5 f j z hj
    · subst z
      dsimp only; rw [mm_up_n f4, mm_row_s]
      simp only [sp_lay, if_pos hj]
      rw [c214]
  · dsimp only; rw [mm_up_n hc1, mm_row_n (hc2 k hk)]; exact c7 c hc1 hc2
set_option maxRecDepth 100000 in
set_option maxHeartbeats 4000000 in
theorem mX11_carriesAll_f (d : Nat) (h : mm_H) (k : Nat) (hk : k < 4) : ∃ g, mm_M (d + 1) YX11_carriesAll [.ref 165, .int (nI k), .int 0] h none g ∧ carF h g (130 * k) 12 := by
  obtain ⟨J1, eJ1⟩ : ∃ J : Nat → Nat → Int32, J = mm_up h.1 165 66 (130 * nI k) := ⟨_, rfl⟩
  obtain ⟨J2, eJ2⟩ : ∃ J : Nat → Nat → Int32, J = mm_up J1 165 67 0 := ⟨_, rfl⟩
  have C0 : carF h (J2, h.2.1, h.2.2) (130 * k) 0 := by
    have e130 : (130 : Int32) * nI k = nI (130 * k + ca_o 0) := pk_mul 130 k
    refine ⟨rfl, ?_, ?_, fun j h1 h2 => ?_, fun f j hf => absurd hf (Nat.not_lt_zero f), fun j hj => ?_, fun c h1 h2 => ?_⟩
    · simp (disch := decide) only [eJ2, eJ1, mm_up_k, mm_up_e]; exact e130
    · simp only [eJ2, mm_up_e]
    · simp (disch := assumption) only [eJ2, eJ1, mm_up_k]
    · simp (disch := decide) only [eJ2, eJ1, mm_up_n]
    · simp (disch := assumption) only [eJ2, eJ1, mm_up_n]
  obtain ⟨g1, hM1, C1⟩ := carF_s d h (J2, h.2.1, h.2.2) (130 * k) 0 (by decide) (by omega) C0
  obtain ⟨g2, hM2, C2⟩ := carF_s d h g1 (130 * k) 1 (by decide) (by omega) C1
  obtain ⟨g3, hM3, C3⟩ := carF_s d h g2 (130 * k) 2 (by decide) (by omega) C2
  obtain ⟨g4, hM4, C4⟩ := carF_s d h g3 (130 * k) 3 (by decide) (by omega) C3
  obtain ⟨g5, hM5, C5⟩ := carF_s d h g4 (130 * k) 4 (by decide) (by omega) C4
  obtain ⟨g6, hM6, C6⟩ := carF_s d h g5 (130 * k) 5 (by decide) (by omega) C5
  obtain ⟨g7, hM7, C7⟩ := carF_s d h g6 (130 * k) 6 (by decide) (by omega) C6
  obtain ⟨g8, hM8, C8⟩ := carF_s d h g7 (130 * k) 7 (by decide) (by omega) C7
  obtain ⟨g9, hM9, C9⟩ := carF_s d h g8 (130 * k) 8 (by decide) (by omega) C8
  obtain ⟨g10, hM10, C10⟩ := carF_s d h g9 (130 * k) 9 (by decide) (by omega) C9
  obtain ⟨g11, hM11, C11⟩ := carF_s d h g10 (130 * k) 10 (by decide) (by omega) C10
  obtain ⟨g12, hM12, C12⟩ := carF_s d h g11 (130 * k) 11 (by decide) (by omega) C11
  refine ⟨g12, ?_, C12⟩
  refine mm_M.of [some (.ref 165), some (.int (nI k)), some (.int 0)] rfl rfl (Nat.le_of_ble_eq_true rfl) ?_
  refine mm_aload_n dX11_carriesAll_0 rfl rfl ?_
  refine mm_sipush (x := 130) dX11_carriesAll_1 (by decide) ?_
  refine mm_iload_n dX11_carriesAll_4 rfl rfl ?_
  refine mm_imul dX11_carriesAll_5 ?_
  refine mm_putI dX11_carriesAll_6 fX11_519 sh_165 rfl rfl rfl ?_
  refine mm_cast rfl rfl (congrArg (fun J : Nat → Nat → Int32 => ((J, h.2.1, h.2.2) : mm_H)) eJ1.symm) ?_
  refine mm_aload_n dX11_carriesAll_9 rfl rfl ?_
  refine mm_iload_n dX11_carriesAll_10 rfl rfl ?_
  refine mm_putI dX11_carriesAll_11 fX11_516 sh_165 rfl rfl rfl ?_
  refine mm_cast rfl rfl (congrArg (fun J : Nat → Nat → Int32 => ((J, h.2.1, h.2.2) : mm_H)) eJ2.symm) ?_
  refine mm_aload_n dX11_carriesAll_14 rfl rfl ?_
  refine mm_aload_n dX11_carriesAll_15 rfl rfl ?_
  refine mm_getS dX11_carriesAll_16 fX11_9 sh_165 rfl gr_165_1 ?_
  refine mm_cV (Y1 := YX11_carry) dX11_carriesAll_19 lX11_522 vX11_carry (hM1) sh_165 rfl rfl (by simp [Value.category]) ?_
  refine mm_aload_n dX11_carriesAll_22 rfl rfl ?_
  refine mm_aload_n dX11_carriesAll_23 rfl rfl ?_
  refine mm_getS dX11_carriesAll_24 fX11_13 sh_165 rfl gr_165_2 ?_
  refine mm_cV (Y1 := YX11_carry) dX11_carriesAll_27 lX11_522 vX11_carry (hM2) sh_165 rfl rfl (by simp [Value.category]) ?_
  refine mm_aload_n dX11_carriesAll_30 rfl rfl ?_
  refine mm_aload_n dX11_carriesAll_31 rfl rfl ?_
  refine mm_getS dX11_carriesAll_32 fX11_16 sh_165 rfl gr_165_3 ?_
  refine mm_cV (Y1 := YX11_carry) dX11_carriesAll_35 lX11_522 vX11_carry (hM3) sh_165 rfl rfl (by simp [Value.category]) ?_
  refine mm_aload_n dX11_carriesAll_38 rfl rfl ?_
  refine mm_aload_n dX11_carriesAll_39 rfl rfl ?_
  refine mm_getS dX11_carriesAll_40 fX11_19 sh_165 rfl gr_165_4 ?_
  refine mm_cV (Y1 := YX11_carry) dX11_carriesAll_43 lX11_522 vX11_carry (hM4) sh_165 rfl rfl (by simp [Value.category]) ?_
  refine mm_aload_n dX11_carriesAll_46 rfl rfl ?_
  refine mm_aload_n dX11_carriesAll_47 rfl rfl ?_
  refine mm_getS dX11_carriesAll_48 fX11_22 sh_165 rfl gr_165_5 ?_
  refine mm_cV (Y1 := YX11_carry) dX11_carriesAll_51 lX11_522 vX11_carry (hM5) sh_165 rfl rfl (by simp [Value.category]) ?_
  refine mm_aload_n dX11_carriesAll_54 rfl rfl ?_
  refine mm_aload_n dX11_carriesAll_55 rfl rfl ?_
  refine mm_getS dX11_carriesAll_56 fX11_25 sh_165 rfl gr_165_6 ?_
  refine mm_cV (Y1 := YX11_carry) dX11_carriesAll_59 lX11_522 vX11_carry (hM6) sh_165 rfl rfl (by simp [Value.category]) ?_
  refine mm_aload_n dX11_carriesAll_62 rfl rfl ?_
  refine mm_aload_n dX11_carriesAll_63 rfl rfl ?_
  refine mm_getS dX11_carriesAll_64 fX11_28 sh_165 rfl gr_165_7 ?_
  refine mm_cV (Y1 := YX11_carry) dX11_carriesAll_67 lX11_522 vX11_carry (hM7) sh_165 rfl rfl (by simp [Value.category]) ?_
  refine mm_aload_n dX11_carriesAll_70 rfl rfl ?_
  refine mm_aload_n dX11_carriesAll_71 rfl rfl ?_
  refine mm_getS dX11_carriesAll_72 fX11_52 sh_165 rfl gr_165_15 ?_
  refine mm_cV (Y1 := YX11_carry) dX11_carriesAll_75 lX11_522 vX11_carry (hM8) sh_165 rfl rfl (by simp [Value.category]) ?_
  refine mm_aload_n dX11_carriesAll_78 rfl rfl ?_
  refine mm_aload_n dX11_carriesAll_79 rfl rfl ?_
  refine mm_getS dX11_carriesAll_80 fX11_55 sh_165 rfl gr_165_16 ?_
  refine mm_cV (Y1 := YX11_carry) dX11_carriesAll_83 lX11_522 vX11_carry (hM9) sh_165 rfl rfl (by simp [Value.category]) ?_
  refine mm_aload_n dX11_carriesAll_86 rfl rfl ?_
  refine mm_aload_n dX11_carriesAll_87 rfl rfl ?_
  refine mm_getS dX11_carriesAll_88 fX11_58 sh_165 rfl gr_165_17 ?_
  refine mm_cV (Y1 := YX11_carry) dX11_carriesAll_91 lX11_522 vX11_carry (hM10) sh_165 rfl rfl (by simp [Value.category]) ?_
  refine mm_aload_n dX11_carriesAll_94 rfl rfl ?_
  refine mm_aload_n dX11_carriesAll_95 rfl rfl ?_
  refine mm_getS dX11_carriesAll_96 fX11_61 sh_165 rfl gr_165_18 ?_
  refine mm_cV (Y1 := YX11_carry) dX11_carriesAll_99 lX11_522 vX11_carry (hM11) sh_165 rfl rfl (by simp [Value.category]) ?_
  refine mm_aload_n dX11_carriesAll_102 rfl rfl ?_
  refine mm_aload_n dX11_carriesAll_103 rfl rfl ?_
  refine mm_getS dX11_carriesAll_104 fX11_64 sh_165 rfl gr_165_19 ?_
  refine mm_cV (Y1 := YX11_carry) dX11_carriesAll_107 lX11_522 vX11_carry (hM12) sh_165 rfl rfl (by simp [Value.category]) ?_
  exact mm_retE dX11_carriesAll_110 rfl rfl
set_option maxRecDepth 100000 in
set_option maxHeartbeats 4000000 in
theorem mX11_carriesAll_b (d : Nat) (h : mm_H) (k : Nat) (hk : k < 4) : ∃ g, mm_M (d + 1) YX11_carriesAll [.ref 165, .int (nI k), .int 1] h none g ∧ carB h g (130 * k) 12 := by
  obtain ⟨J1, eJ1⟩ : ∃ J : Nat → Nat → Int32, J = mm_up h.1 165 66 (130 * nI k) := ⟨_, rfl⟩
  obtain ⟨J2, eJ2⟩ : ∃ J : Nat → Nat → Int32, J = mm_up J1 165 67 1 := ⟨_, rfl⟩
  have C0 : carB h (J2, h.2.1, h.2.2) (130 * k) 0 := by
    have e130 : (130 : Int32) * nI k = nI (130 * k + ca_o 0) := pk_mul 130 k
    refine ⟨rfl, ?_, ?_, fun j h1 h2 => ?_, fun f j hf => absurd hf (Nat.not_lt_zero f), fun c h1 h2 => ?_⟩
    · simp (disch := decide) only [eJ2, eJ1, mm_up_k, mm_up_e]; exact e130
    · simp only [eJ2, mm_up_e]; decide
    · simp (disch := assumption) only [eJ2, eJ1, mm_up_k]
    · simp (disch := assumption) only [eJ2, eJ1, mm_up_n]
  obtain ⟨g1, hM1, C1⟩ := carB_s d h (J2, h.2.1, h.2.2) (130 * k) 0 (by decide) (by omega) C0
  obtain ⟨g2, hM2, C2⟩ := carB_s d h g1 (130 * k) 1 (by decide) (by omega) C1
  obtain ⟨g3, hM3, C3⟩ := carB_s d h g2 (130 * k) 2 (by decide) (by omega) C2
  obtain ⟨g4, hM4, C4⟩ := carB_s d h g3 (130 * k) 3 (by decide) (by omega) C3
  obtain ⟨g5, hM5, C5⟩ := carB_s d h g4 (130 * k) 4 (by decide) (by omega) C4
  obtain ⟨g6, hM6, C6⟩ := carB_s d h g5 (130 * k) 5 (by decide) (by omega) C5
  obtain ⟨g7, hM7, C7⟩ := carB_s d h g6 (130 * k) 6 (by decide) (by omega) C6
  obtain ⟨g8, hM8, C8⟩ := carB_s d h g7 (130 * k) 7 (by decide) (by omega) C7
  obtain ⟨g9, hM9, C9⟩ := carB_s d h g8 (130 * k) 8 (by decide) (by omega) C8
  obtain ⟨g10, hM10, C10⟩ := carB_s d h g9 (130 * k) 9 (by decide) (by omega) C9
  obtain ⟨g11, hM11, C11⟩ := carB_s d h g10 (130 * k) 10 (by decide) (by omega) C10
  obtain ⟨g12, hM12, C12⟩ := carB_s d h g11 (130 * k) 11 (by decide) (by omega) C11
  refine ⟨g12, ?_, C12⟩
  refine mm_M.of [some (.ref 165), some (.int (nI k)), some (.int 1)] rfl rfl (Nat.le_of_ble_eq_true rfl) ?_
  refine mm_aload_n dX11_carriesAll_0 rfl rfl ?_
  refine mm_sipush (x := 130) dX11_carriesAll_1 (by decide) ?_
  refine mm_iload_n dX11_carriesAll_4 rfl rfl ?_
  refine mm_imul dX11_carriesAll_5 ?_
  refine mm_putI dX11_carriesAll_6 fX11_519 sh_165 rfl rfl rfl ?_
  refine mm_cast rfl rfl (congrArg (fun J : Nat → Nat → Int32 => ((J, h.2.1, h.2.2) : mm_H)) eJ1.symm) ?_
  refine mm_aload_n dX11_carriesAll_9 rfl rfl ?_
  refine mm_iload_n dX11_carriesAll_10 rfl rfl ?_
  refine mm_putI dX11_carriesAll_11 fX11_516 sh_165 rfl rfl rfl ?_
  refine mm_cast rfl rfl (congrArg (fun J : Nat → Nat → Int32 => ((J, h.2.1, h.2.2) : mm_H)) eJ2.symm) ?_
  refine mm_aload_n dX11_carriesAll_14 rfl rfl ?_
  refine mm_aload_n dX11_carriesAll_15 rfl rfl ?_
  refine mm_getS dX11_carriesAll_16 fX11_9 sh_165 rfl gr_165_1 ?_
  refine mm_cV (Y1 := YX11_carry) dX11_carriesAll_19 lX11_522 vX11_carry (hM1) sh_165 rfl rfl (by simp [Value.category]) ?_
  refine mm_aload_n dX11_carriesAll_22 rfl rfl ?_
  refine mm_aload_n dX11_carriesAll_23 rfl rfl ?_
  refine mm_getS dX11_carriesAll_24 fX11_13 sh_165 rfl gr_165_2 ?_
  refine mm_cV (Y1 := YX11_carry) dX11_carriesAll_27 lX11_522 vX11_carry (hM2) sh_165 rfl rfl (by simp [Value.category]) ?_
  refine mm_aload_n dX11_carriesAll_30 rfl rfl ?_
  refine mm_aload_n dX11_carriesAll_31 rfl rfl ?_
  refine mm_getS dX11_carriesAll_32 fX11_16 sh_165 rfl gr_165_3 ?_
  refine mm_cV (Y1 := YX11_carry) dX11_carriesAll_35 lX11_522 vX11_carry (hM3) sh_165 rfl rfl (by simp [Value.category]) ?_
  refine mm_aload_n dX11_carriesAll_38 rfl rfl ?_
  refine mm_aload_n dX11_carriesAll_39 rfl rfl ?_
  refine mm_getS dX11_carriesAll_40 fX11_19 sh_165 rfl gr_165_4 ?_
  refine mm_cV (Y1 := YX11_carry) dX11_carriesAll_43 lX11_522 vX11_carry (hM4) sh_165 rfl rfl (by simp [Value.category]) ?_
  refine mm_aload_n dX11_carriesAll_46 rfl rfl ?_
  refine mm_aload_n dX11_carriesAll_47 rfl rfl ?_
  refine mm_getS dX11_carriesAll_48 fX11_22 sh_165 rfl gr_165_5 ?_
  refine mm_cV (Y1 := YX11_carry) dX11_carriesAll_51 lX11_522 vX11_carry (hM5) sh_165 rfl rfl (by simp [Value.category]) ?_
  refine mm_aload_n dX11_carriesAll_54 rfl rfl ?_
  refine mm_aload_n dX11_carriesAll_55 rfl rfl ?_
  refine mm_getS dX11_carriesAll_56 fX11_25 sh_165 rfl gr_165_6 ?_
  refine mm_cV (Y1 := YX11_carry) dX11_carriesAll_59 lX11_522 vX11_carry (hM6) sh_165 rfl rfl (by simp [Value.category]) ?_
  refine mm_aload_n dX11_carriesAll_62 rfl rfl ?_
  refine mm_aload_n dX11_carriesAll_63 rfl rfl ?_
  refine mm_getS dX11_carriesAll_64 fX11_28 sh_165 rfl gr_165_7 ?_
  refine mm_cV (Y1 := YX11_carry) dX11_carriesAll_67 lX11_522 vX11_carry (hM7) sh_165 rfl rfl (by simp [Value.category]) ?_
  refine mm_aload_n dX11_carriesAll_70 rfl rfl ?_
  refine mm_aload_n dX11_carriesAll_71 rfl rfl ?_
  refine mm_getS dX11_carriesAll_72 fX11_52 sh_165 rfl gr_165_15 ?_
  refine mm_cV (Y1 := YX11_carry) dX11_carriesAll_75 lX11_522 vX11_carry (hM8) sh_165 rfl rfl (by simp [Value.category]) ?_
  refine mm_aload_n dX11_carriesAll_78 rfl rfl ?_
  refine mm_aload_n dX11_carriesAll_79 rfl rfl ?_
  refine mm_getS dX11_carriesAll_80 fX11_55 sh_165 rfl gr_165_16 ?_
  refine mm_cV (Y1 := YX11_carry) dX11_carriesAll_83 lX11_522 vX11_carry (hM9) sh_165 rfl rfl (by simp [Value.category]) ?_
  refine mm_aload_n dX11_carriesAll_86 rfl rfl ?_
  refine mm_aload_n dX11_carriesAll_87 rfl rfl ?_
  refine mm_getS dX11_carriesAll_88 fX11_58 sh_165 rfl gr_165_17 ?_
  refine mm_cV (Y1 := YX11_carry) dX11_carriesAll_91 lX11_522 vX11_carry (hM10) sh_165 rfl rfl (by simp [Value.category]) ?_
  refine mm_aload_n dX11_carriesAll_94 rfl rfl ?_
  refine mm_aload_n dX11_carriesAll_95 rfl rfl ?_
  refine mm_getS dX11_carriesAll_96 fX11_61 sh_165 rfl gr_165_18 ?_
  refine mm_cV (Y1 := YX11_carry) dX11_carriesAll_99 lX11_522 vX11_carry (hM11) sh_165 rfl rfl (by simp [Value.category]) ?_
  refine mm_aload_n dX11_carriesAll_102 rfl rfl ?_
  refine mm_aload_n dX11_carriesAll_103 rfl rfl ?_
  refine mm_getS dX11_carriesAll_104 fX11_64 sh_165 rfl gr_165_19 ?_
  refine mm_cV (Y1 := YX11_carry) dX11_carriesAll_107 lX11_522 vX11_carry (hM12) sh_165 rfl rfl (by simp [Value.category]) ?_
  exact mm_retE dX11_carriesAll_110 rfl rfl
set_option maxRecDepth 100000 in
set_option maxHeartbeats 4000000 in
theorem mX11_image_f (d : Nat) (h : mm_H) (k : Int32) (hc : ¬ (0 ≤ k.toInt ∧ k.toInt < 4)) : mm_M (d + 1) YX11_image [.ref 165, .int k] h (some (.int (-1))) h := by
  refine mm_M.of [some (.ref 165), some (.int k)] rfl rfl (Nat.le_of_ble_eq_true rfl) ?_
  refine mm_iload_n dX11_image_0 rfl rfl ?_
  refine mm_i2l dX11_image_1 rfl ?_
  refine mm_lconst (x := 0) dX11_image_2 (by decide) ?_
  refine mm_ldc2 dX11_image_3 kX11_526 ?_
  refine mm_cS (Y1 := YX11_in) dX11_image_6 lX11_171 sX11_in (mX11_in d h _ _ _) rfl rfl (by simp [Value.category]) ?_
  refine mm_if_ne 14 dX11_image_9 (by decide) (fun c_9 => ?_) (fun c_9 => ?_)
  · have q := bI_n0.mp c_9
    exfalso; (try simp only [lg_lt, lg_ge, lg_gt, lg_le] at *); simp only [Int32.lt_iff_toInt_lt, Int32.le_iff_toInt_le, Int64.lt_iff_toInt_lt, Int64.le_iff_toInt_le, ti_0, ti_1, ti_2, ti_3, ti_4, ti_5, ti_6, ti_10, ti_12, ti_200, ti_400, ti_500, ti_999, ti_2400, ti_9999, ti_m9999, ti_m20000, ti_m1, i64_toInt, li_0, li_1, li_2, li_3, li_4, li_5, li_10, li_12, li_15, li_48, li_57, li_200, li_500, li_999, li_2400, li_9999, li_m9999, li_11999] at *; omega
  · refine mm_iconst (x := (-1)) dX11_image_12 (by decide) ?_
    exact mm_iretE dX11_image_13 rfl rfl rfl
set_option maxRecDepth 100000 in
set_option maxHeartbeats 4000000 in
theorem mX11_image_t (d : Nat) (h : mm_H) (k : Nat) (hk : k < 4) : ∃ g, mm_M (d + 2) YX11_image [.ref 165, .int (nI k)] h (some (.int (h.1 166 0))) g ∧ carF (mm_up h.1 215 k 1, h.2.1, h.2.2) g (130 * k) 12 := by
  obtain ⟨g1, hM, C⟩ := mX11_carriesAll_f d (mm_up h.1 215 k 1, h.2.1, h.2.2) k hk
  refine ⟨g1, ?_, C⟩
  have e166 : g1.1 166 = h.1 166 := (C.2.2.2.2.2.2 166 (by decide) (by decide)).trans (mm_up_n (I := h.1) (a := 215) (b := 166) (k := k) (x := 1) (by decide))
  refine mm_M.of [some (.ref 165), some (.int (nI k))] rfl rfl (Nat.le_of_ble_eq_true rfl) ?_
  refine mm_iload_n dX11_image_0 rfl rfl ?_
  refine mm_i2l dX11_image_1 rfl ?_
  refine mm_lconst (x := 0) dX11_image_2 (by decide) ?_
  refine mm_ldc2 dX11_image_3 kX11_526 ?_
  refine mm_cS (Y1 := YX11_in) dX11_image_6 lX11_171 sX11_in (mX11_in (d + 1) h _ _ _) rfl rfl (by simp [Value.category]) ?_
  refine mm_if_ne 14 dX11_image_9 (by decide) (fun c_9 => ?_) (fun c_9 => ?_)
  · refine mm_aload_n dX11_image_14 rfl rfl ?_
    refine mm_getS dX11_image_15 fX11_165 sh_165 rfl gr_165_65 ?_
    refine mm_iload_n dX11_image_18 rfl rfl ?_
    refine mm_iconst (x := 1) dX11_image_19 (by decide) ?_
    refine mm_zast (k) dX11_image_20 sh_215 rfl (by omega) (show vp_nar .boolean 1 = 1 from rfl) ?_
    refine mm_aload_n dX11_image_21 rfl rfl ?_
    refine mm_iload_n dX11_image_22 rfl rfl ?_
    refine mm_iconst (x := 0) dX11_image_23 (by decide) ?_
    refine mm_cV (Y1 := YX11_carriesAll) dX11_image_24 lX11_528 vX11_carriesAll (hM) sh_165 rfl rfl (by simp [Value.category]) ?_
    refine mm_aload_n dX11_image_27 rfl rfl ?_
    refine mm_getS dX11_image_28 fX11_9 sh_165 rfl gr_165_1 ?_
    refine mm_iconst (x := 0) dX11_image_31 (by decide) ?_
    refine mm_iald (0) dX11_image_32 sh_166 rfl (by decide) ?_
    exact mm_iretE dX11_image_33 rfl (by rw [e166]) rfl
  · have q := bI_e0.mp c_9
    have e := nI_toInt (show k < 2 ^ 31 by omega)
    exfalso; (try simp only [lg_lt, lg_ge, lg_gt, lg_le] at *); simp only [Int32.lt_iff_toInt_lt, Int32.le_iff_toInt_le, Int64.lt_iff_toInt_lt, Int64.le_iff_toInt_le, ti_0, ti_1, ti_2, ti_3, ti_4, ti_5, ti_6, ti_10, ti_12, ti_200, ti_400, ti_500, ti_999, ti_2400, ti_9999, ti_m9999, ti_m20000, ti_m1, i64_toInt, li_0, li_1, li_2, li_3, li_4, li_5, li_10, li_12, li_15, li_48, li_57, li_200, li_500, li_999, li_2400, li_9999, li_m9999, li_11999] at *; omega
set_option maxRecDepth 100000 in
set_option maxHeartbeats 4000000 in
theorem mX11_back_f (d : Nat) (h : mm_H) (k : Int32) (hc : ¬ (0 ≤ k.toInt ∧ k.toInt < 4)) : mm_M (d + 1) YX11_back [.ref 165, .int k] h (some (.int (-1))) h := by
  refine mm_M.of [some (.ref 165), some (.int k)] rfl rfl (Nat.le_of_ble_eq_true rfl) ?_
  refine mm_iload_n dX11_back_0 rfl rfl ?_
  refine mm_i2l dX11_back_1 rfl ?_
  refine mm_lconst (x := 0) dX11_back_2 (by decide) ?_
  refine mm_ldc2 dX11_back_3 kX11_526 ?_
  refine mm_cS (Y1 := YX11_in) dX11_back_6 lX11_171 sX11_in (mX11_in d h _ _ _) rfl rfl (by simp [Value.category]) ?_
  refine mm_if_eq 21 dX11_back_9 (by decide) (fun c_9 => ?_) (fun c_9 => ?_)
  · refine mm_iconst (x := (-1)) dX11_back_21 (by decide) ?_
    exact mm_iretE dX11_back_22 rfl rfl rfl
  · have q := bI_n0.mp c_9
    exfalso; (try simp only [lg_lt, lg_ge, lg_gt, lg_le] at *); simp only [Int32.lt_iff_toInt_lt, Int32.le_iff_toInt_le, Int64.lt_iff_toInt_lt, Int64.le_iff_toInt_le, ti_0, ti_1, ti_2, ti_3, ti_4, ti_5, ti_6, ti_10, ti_12, ti_200, ti_400, ti_500, ti_999, ti_2400, ti_9999, ti_m9999, ti_m20000, ti_m1, i64_toInt, li_0, li_1, li_2, li_3, li_4, li_5, li_10, li_12, li_15, li_48, li_57, li_200, li_500, li_999, li_2400, li_9999, li_m9999, li_11999] at *; omega
set_option maxRecDepth 100000 in
set_option maxHeartbeats 4000000 in
theorem mX11_back_n (d : Nat) (h : mm_H) (k : Nat) (hk : k < 4) (hc : h.1 215 k = 0) : mm_M (d + 1) YX11_back [.ref 165, .int (nI k)] h (some (.int (-1))) h := by
  refine mm_M.of [some (.ref 165), some (.int (nI k))] rfl rfl (Nat.le_of_ble_eq_true rfl) ?_
  refine mm_iload_n dX11_back_0 rfl rfl ?_
  refine mm_i2l dX11_back_1 rfl ?_
  refine mm_lconst (x := 0) dX11_back_2 (by decide) ?_
  refine mm_ldc2 dX11_back_3 kX11_526 ?_
  refine mm_cS (Y1 := YX11_in) dX11_back_6 lX11_171 sX11_in (mX11_in d h _ _ _) rfl rfl (by simp [Value.category]) ?_
  refine mm_if_eq 21 dX11_back_9 (by decide) (fun c_9 => ?_) (fun c_9 => ?_)
  · refine mm_iconst (x := (-1)) dX11_back_21 (by decide) ?_
    exact mm_iretE dX11_back_22 rfl rfl rfl
  · refine mm_aload_n dX11_back_12 rfl rfl ?_
    refine mm_getS dX11_back_13 fX11_165 sh_165 rfl gr_165_65 ?_
    refine mm_iload_n dX11_back_16 rfl rfl ?_
    refine mm_zald (k) dX11_back_17 sh_215 rfl (by omega) ?_
    refine mm_if_ne 23 dX11_back_18 (by decide) (fun c_18 => ?_) (fun c_18 => ?_)
    · exact absurd hc c_18
    · refine mm_iconst (x := (-1)) dX11_back_21 (by decide) ?_
      exact mm_iretE dX11_back_22 rfl rfl rfl
set_option maxRecDepth 100000 in
set_option maxHeartbeats 4000000 in
theorem mX11_back_t (d : Nat) (h : mm_H) (k : Nat) (hk : k < 4) (hc : ¬ h.1 215 k = 0) : ∃ g, mm_M (d + 2) YX11_back [.ref 165, .int (nI k)] h (some (.int (h.1 214 (130 * k)))) g ∧ carB h g (130 * k) 12 := by
  obtain ⟨g1, hM, C⟩ := mX11_carriesAll_b d h k hk
  refine ⟨g1, ?_, C⟩
  have e166 : g1.1 166 0 = h.1 214 (130 * k) := C.2.2.2.2.1 0 0 (by decide) (by decide)
  refine mm_M.of [some (.ref 165), some (.int (nI k))] rfl rfl (Nat.le_of_ble_eq_true rfl) ?_
  refine mm_iload_n dX11_back_0 rfl rfl ?_
  refine mm_i2l dX11_back_1 rfl ?_
  refine mm_lconst (x := 0) dX11_back_2 (by decide) ?_
  refine mm_ldc2 dX11_back_3 kX11_526 ?_
  refine mm_cS (Y1 := YX11_in) dX11_back_6 lX11_171 sX11_in (mX11_in (d + 1) h _ _ _) rfl rfl (by simp [Value.category]) ?_
  refine mm_if_eq 21 dX11_back_9 (by decide) (fun c_9 => ?_) (fun c_9 => ?_)
  · have q := bI_e0.mp c_9
    have e := nI_toInt (show k < 2 ^ 31 by omega)
    exfalso; (try simp only [lg_lt, lg_ge, lg_gt, lg_le] at *); simp only [Int32.lt_iff_toInt_lt, Int32.le_iff_toInt_le, Int64.lt_iff_toInt_lt, Int64.le_iff_toInt_le, ti_0, ti_1, ti_2, ti_3, ti_4, ti_5, ti_6, ti_10, ti_12, ti_200, ti_400, ti_500, ti_999, ti_2400, ti_9999, ti_m9999, ti_m20000, ti_m1, i64_toInt, li_0, li_1, li_2, li_3, li_4, li_5, li_10, li_12, li_15, li_48, li_57, li_200, li_500, li_999, li_2400, li_9999, li_m9999, li_11999] at *; omega
  · refine mm_aload_n dX11_back_12 rfl rfl ?_
    refine mm_getS dX11_back_13 fX11_165 sh_165 rfl gr_165_65 ?_
    refine mm_iload_n dX11_back_16 rfl rfl ?_
    refine mm_zald (k) dX11_back_17 sh_215 rfl (by omega) ?_
    refine mm_if_ne 23 dX11_back_18 (by decide) (fun c_18 => ?_) (fun c_18 => ?_)
    · refine mm_aload_n dX11_back_23 rfl rfl ?_
      refine mm_iload_n dX11_back_24 rfl rfl ?_
      refine mm_iconst (x := 1) dX11_back_25 (by decide) ?_
      refine mm_cV (Y1 := YX11_carriesAll) dX11_back_26 lX11_528 vX11_carriesAll (hM) sh_165 rfl rfl (by simp [Value.category]) ?_
      refine mm_aload_n dX11_back_29 rfl rfl ?_
      refine mm_getS dX11_back_30 fX11_9 sh_165 rfl gr_165_1 ?_
      refine mm_iconst (x := 0) dX11_back_33 (by decide) ?_
      refine mm_iald (0) dX11_back_34 sh_166 rfl (by decide) ?_
      exact mm_iretE dX11_back_35 rfl (by rw [e166]) rfl
    · exact absurd c_18 hc
theorem gr_im (k : Nat) (hk : k < 4) : mm_gr 3 k = some (74 + 13 * k) := by
  have : ∀ k, k < 4 → mm_gr 3 k = some (74 + 13 * k) := by decide +kernel
  exact this k hk
set_option maxRecDepth 100000 in
set_option maxHeartbeats 4000000 in
theorem mX10_image_f (d : Nat) (h : mm_H) (k : Int32) (hc : ¬ (0 ≤ k.toInt ∧ k.toInt < 4)) : mm_M d YX10_image [.ref 0, .int k] h (some (.int (-1))) h := by
  refine mm_M.of [some (.ref 0), some (.int k)] rfl rfl (Nat.le_of_ble_eq_true rfl) ?_
  refine mm_iload_n dX10_image_0 rfl rfl ?_
  refine mm_if_lt 9 dX10_image_1 (by decide) (fun c_1 => ?_) (fun c_1 => ?_)
  · refine mm_iconst (x := (-1)) dX10_image_9 (by decide) ?_
    exact mm_iretE dX10_image_10 rfl rfl rfl
  · refine mm_iload_n dX10_image_4 rfl rfl ?_
    refine mm_iconst (x := 4) dX10_image_5 (by decide) ?_
    refine mm_icmp_lt 11 dX10_image_6 (by decide) (fun c_6 => ?_) (fun c_6 => ?_)
    · exfalso; (try simp only [lg_lt, lg_ge, lg_gt, lg_le] at *); simp only [Int32.lt_iff_toInt_lt, Int32.le_iff_toInt_le, Int64.lt_iff_toInt_lt, Int64.le_iff_toInt_le, ti_0, ti_1, ti_2, ti_3, ti_4, ti_5, ti_6, ti_10, ti_12, ti_200, ti_400, ti_500, ti_999, ti_2400, ti_9999, ti_m9999, ti_m20000, ti_m1, i64_toInt, li_0, li_1, li_2, li_3, li_4, li_5, li_10, li_12, li_15, li_48, li_57, li_200, li_500, li_999, li_2400, li_9999, li_m9999, li_11999] at *; omega
    · refine mm_iconst (x := (-1)) dX10_image_9 (by decide) ?_
      exact mm_iretE dX10_image_10 rfl rfl rfl
set_option maxRecDepth 100000 in
set_option maxHeartbeats 4000000 in
theorem mX10_image_t (d : Nat) (h : mm_H) (k : Nat) (hk : k < 4) : ∃ g : mm_H, mm_M (d + 3) YX10_image [.ref 0, .int (nI k)] h (some (.int (h.1 65 0))) g ∧ g.2 = h.2 ∧ mm_cp h.1 g.1 (74 + 13 * k + 4) 65 ∧ g.1 (74 + 13 * k) 2 = h.1 61 2 ∧ g.1 (74 + 13 * k) 5 = h.1 61 5 ∧ g.1 (74 + 13 * k) 6 = h.1 61 6 ∧ g.1 (74 + 13 * k) 7 = 1 ∧ (∀ j, j < 12 → g.1 (74 + 13 * k + 1) j = h.1 62 j) ∧ (∀ j, j < 10 → g.1 (74 + 13 * k + 2) j = h.1 63 j) ∧ (∀ j, j < 10 → g.1 (74 + 13 * k + 3) j = h.1 64 j) ∧ (∀ a, (a < 74 + 13 * k ∨ 74 + 13 * k + 12 < a) → g.1 a = h.1 a) := by
  obtain ⟨g1, hM, hg2, hcp, hfr⟩ := mX7_copyFrom d h (74 + 13 * k) 61 (state_im k hk) state61 (by omega)
  have e65 : g1.1 65 = h.1 65 := hfr 65 (by omega)
  refine ⟨(mm_up g1.1 (74 + 13 * k) 7 1, g1.2.1, g1.2.2), ?_, hg2, ⟨?_, ?_, ?_, ?_, fun f j h1 h2 hj => ?_, fun f j h1 h2 hj => ?_⟩, ?_, ?_, ?_, ?_, fun j hj => ?_, fun j hj => ?_, fun j hj => ?_, fun a ha => ?_⟩
  · refine mm_M.of [some (.ref 0), some (.int (nI k))] rfl rfl (Nat.le_of_ble_eq_true rfl) ?_
    refine mm_iload_n dX10_image_0 rfl rfl ?_
    refine mm_if_lt 9 dX10_image_1 (by decide) (fun c_1 => ?_) (fun c_1 => ?_)
    · exfalso; (try simp only [lg_lt, lg_ge, lg_gt, lg_le] at *); simp only [nI_toInt (show k < 2 ^ 31 by omega), Int32.lt_iff_toInt_lt, Int32.le_iff_toInt_le, Int64.lt_iff_toInt_lt, Int64.le_iff_toInt_le, ti_0, ti_1, ti_2, ti_3, ti_4, ti_5, ti_6, ti_10, ti_12, ti_200, ti_400, ti_500, ti_999, ti_2400, ti_9999, ti_m9999, ti_m20000, ti_m1, i64_toInt, li_0, li_1, li_2, li_3, li_4, li_5, li_10, li_12, li_15, li_48, li_57, li_200, li_500, li_999, li_2400, li_9999, li_m9999, li_11999] at *; omega
    · refine mm_iload_n dX10_image_4 rfl rfl ?_
      refine mm_iconst (x := 4) dX10_image_5 (by decide) ?_
      refine mm_icmp_lt 11 dX10_image_6 (by decide) (fun c_6 => ?_) (fun c_6 => ?_)
      · refine mm_aload_n dX10_image_11 rfl rfl ?_
        refine mm_getS dX10_image_12 fX10_49 sh_0 rfl gr_0_8 ?_
        refine mm_iload_n dX10_image_15 rfl rfl ?_
        refine mm_aald (k) dX10_image_16 (Or.inr rfl) sh_3 rfl (by omega) (gr_im k hk) ?_
        refine mm_aload_n dX10_image_17 rfl rfl ?_
        refine mm_getS dX10_image_18 fX10_45 sh_0 rfl gr_0_7 ?_
        refine mm_cV (Y1 := YX7_copyFrom) dX10_image_21 lX10_328 vX7_copyFrom (hM) (state_im k hk).1 rfl rfl (by simp [Value.category]) ?_
        refine mm_aload_n dX10_image_24 rfl rfl ?_
        refine mm_getS dX10_image_25 fX10_49 sh_0 rfl gr_0_8 ?_
        refine mm_iload_n dX10_image_28 rfl rfl ?_
        refine mm_aald (k) dX10_image_29 (Or.inr rfl) sh_3 rfl (by omega) (gr_im k hk) ?_
        refine mm_iconst (x := 1) dX10_image_30 (by decide) ?_
        refine mm_putI dX10_image_31 fX10_331 (state_im k hk).1 rfl rfl rfl ?_
        refine mm_aload_n dX10_image_34 rfl rfl ?_
        refine mm_getS dX10_image_35 fX10_45 sh_0 rfl gr_0_7 ?_
        refine mm_getS dX10_image_38 fX10_63 sh_61 rfl gr_61_0 ?_
        refine mm_getI dX10_image_41 fX10_117 sh_65 rfl ?_
        exact mm_iretE dX10_image_44 rfl (by dsimp only; rw [mm_up_n (by omega), e65]) rfl
      · exfalso; (try simp only [lg_lt, lg_ge, lg_gt, lg_le] at *); simp only [nI_toInt (show k < 2 ^ 31 by omega), Int32.lt_iff_toInt_lt, Int32.le_iff_toInt_le, Int64.lt_iff_toInt_lt, Int64.le_iff_toInt_le, ti_0, ti_1, ti_2, ti_3, ti_4, ti_5, ti_6, ti_10, ti_12, ti_200, ti_400, ti_500, ti_999, ti_2400, ti_9999, ti_m9999, ti_m20000, ti_m1, i64_toInt, li_0, li_1, li_2, li_3, li_4, li_5, li_10, li_12, li_15, li_48, li_57, li_200, li_500, li_999, li_2400, li_9999, li_m9999, li_11999] at *; omega
  · simp (disch := omega) only [mm_up_n, mm_up_k, mm_up_e]; exact hcp.1.1
  · simp (disch := omega) only [mm_up_n, mm_up_k, mm_up_e]; exact hcp.1.2.1
  · simp (disch := omega) only [mm_up_n, mm_up_k, mm_up_e]; exact hcp.1.2.2.1
  · simp (disch := omega) only [mm_up_n, mm_up_k, mm_up_e]; exact hcp.1.2.2.2.1
  · simp (disch := omega) only [mm_up_n, mm_up_k, mm_up_e]; exact hcp.1.2.2.2.2.1 f j h1 h2 hj
  · simp (disch := omega) only [mm_up_n, mm_up_k, mm_up_e]; exact hcp.1.2.2.2.2.2 f j h1 h2 hj
  · simp (disch := omega) only [mm_up_n, mm_up_k, mm_up_e]; exact hcp.2.1
  · simp (disch := omega) only [mm_up_n, mm_up_k, mm_up_e]; exact hcp.2.2.1
  · simp (disch := omega) only [mm_up_n, mm_up_k, mm_up_e]; exact hcp.2.2.2.1
  · simp (disch := omega) only [mm_up_n, mm_up_k, mm_up_e]
  · simp (disch := omega) only [mm_up_n, mm_up_k, mm_up_e]; exact hcp.2.2.2.2.2.1 j hj
  · simp (disch := omega) only [mm_up_n, mm_up_k, mm_up_e]; exact hcp.2.2.2.2.2.2.1 j hj
  · simp (disch := omega) only [mm_up_n, mm_up_k, mm_up_e]; exact hcp.2.2.2.2.2.2.2 j hj
  · simp (disch := omega) only [mm_up_n, mm_up_k, mm_up_e]; exact hfr a ha
set_option maxRecDepth 100000 in
set_option maxHeartbeats 4000000 in
theorem mX10_back_f (d : Nat) (h : mm_H) (k : Int32) (hc : ¬ (0 ≤ k.toInt ∧ k.toInt < 4)) : mm_M d YX10_back [.ref 0, .int k] h (some (.int (-1))) h := by
  refine mm_M.of [some (.ref 0), some (.int k)] rfl rfl (Nat.le_of_ble_eq_true rfl) ?_
  refine mm_iload_n dX10_back_0 rfl rfl ?_
  refine mm_if_lt 21 dX10_back_1 (by decide) (fun c_1 => ?_) (fun c_1 => ?_)
  · refine mm_iconst (x := (-1)) dX10_back_21 (by decide) ?_
    exact mm_iretE dX10_back_22 rfl rfl rfl
  · refine mm_iload_n dX10_back_4 rfl rfl ?_
    refine mm_iconst (x := 4) dX10_back_5 (by decide) ?_
    refine mm_icmp_ge 21 dX10_back_6 (by decide) (fun c_6 => ?_) (fun c_6 => ?_)
    · refine mm_iconst (x := (-1)) dX10_back_21 (by decide) ?_
      exact mm_iretE dX10_back_22 rfl rfl rfl
    · exfalso; (try simp only [lg_lt, lg_ge, lg_gt, lg_le] at *); simp only [Int32.lt_iff_toInt_lt, Int32.le_iff_toInt_le, Int64.lt_iff_toInt_lt, Int64.le_iff_toInt_le, ti_0, ti_1, ti_2, ti_3, ti_4, ti_5, ti_6, ti_10, ti_12, ti_200, ti_400, ti_500, ti_999, ti_2400, ti_9999, ti_m9999, ti_m20000, ti_m1, i64_toInt, li_0, li_1, li_2, li_3, li_4, li_5, li_10, li_12, li_15, li_48, li_57, li_200, li_500, li_999, li_2400, li_9999, li_m9999, li_11999] at *; omega
set_option maxRecDepth 100000 in
set_option maxHeartbeats 4000000 in
theorem mX10_back_n (d : Nat) (h : mm_H) (k : Nat) (hk : k < 4) (hc : h.1 (74 + 13 * k) 7 = 0) : mm_M d YX10_back [.ref 0, .int (nI k)] h (some (.int (-1))) h := by
  refine mm_M.of [some (.ref 0), some (.int (nI k))] rfl rfl (Nat.le_of_ble_eq_true rfl) ?_
  refine mm_iload_n dX10_back_0 rfl rfl ?_
  refine mm_if_lt 21 dX10_back_1 (by decide) (fun c_1 => ?_) (fun c_1 => ?_)
  · refine mm_iconst (x := (-1)) dX10_back_21 (by decide) ?_
    exact mm_iretE dX10_back_22 rfl rfl rfl
  · refine mm_iload_n dX10_back_4 rfl rfl ?_
    refine mm_iconst (x := 4) dX10_back_5 (by decide) ?_
    refine mm_icmp_ge 21 dX10_back_6 (by decide) (fun c_6 => ?_) (fun c_6 => ?_)
    · refine mm_iconst (x := (-1)) dX10_back_21 (by decide) ?_
      exact mm_iretE dX10_back_22 rfl rfl rfl
    · refine mm_aload_n dX10_back_9 rfl rfl ?_
      refine mm_getS dX10_back_10 fX10_49 sh_0 rfl gr_0_8 ?_
      refine mm_iload_n dX10_back_13 rfl rfl ?_
      refine mm_aald (k) dX10_back_14 (Or.inr rfl) sh_3 rfl (by omega) (gr_im k hk) ?_
      refine mm_getI dX10_back_15 fX10_331 (state_im k hk).1 rfl ?_
      refine mm_if_ne 23 dX10_back_18 (by decide) (fun c_18 => ?_) (fun c_18 => ?_)
      · exact absurd hc c_18
      · refine mm_iconst (x := (-1)) dX10_back_21 (by decide) ?_
        exact mm_iretE dX10_back_22 rfl rfl rfl
set_option maxRecDepth 100000 in
set_option maxHeartbeats 4000000 in
theorem mX10_back_t (d : Nat) (h : mm_H) (k : Nat) (hk : k < 4) (hc : ¬ h.1 (74 + 13 * k) 7 = 0) : ∃ g : mm_H, mm_M (d + 3) YX10_back [.ref 0, .int (nI k)] h (some (.int (h.1 (74 + 13 * k + 4) 0))) g ∧ g.2 = h.2 ∧ mm_cpS h.1 g.1 61 (74 + 13 * k) ∧ g.1 135 = upd (h.1 135) 3 (-1) ∧ (∀ a, (a < 61 ∨ 73 < a) → a ≠ 135 → g.1 a = h.1 a) := by
  obtain ⟨g1, hM, hg2, hcp, hfr⟩ := mX7_copyFrom d h 61 (74 + 13 * k) state61 (state_im k hk) (by omega)
  have e135 : g1.1 135 = h.1 135 := hfr 135 (by omega)
  refine ⟨(mm_up g1.1 135 3 (-1), g1.2.1, g1.2.2), ?_, hg2, ⟨⟨?_, ?_, ?_, ?_, fun f j h1 h2 hj => ?_, fun f j h1 h2 hj => ?_⟩, ?_, ?_, ?_, ?_, fun j hj => ?_, fun j hj => ?_, fun j hj => ?_⟩, ?_, fun a ha h2 => ?_⟩
  · refine mm_M.of [some (.ref 0), some (.int (nI k))] rfl rfl (Nat.le_of_ble_eq_true rfl) ?_
    refine mm_iload_n dX10_back_0 rfl rfl ?_
    refine mm_if_lt 21 dX10_back_1 (by decide) (fun c_1 => ?_) (fun c_1 => ?_)
    · exfalso; (try simp only [lg_lt, lg_ge, lg_gt, lg_le] at *); simp only [nI_toInt (show k < 2 ^ 31 by omega), Int32.lt_iff_toInt_lt, Int32.le_iff_toInt_le, Int64.lt_iff_toInt_lt, Int64.le_iff_toInt_le, ti_0, ti_1, ti_2, ti_3, ti_4, ti_5, ti_6, ti_10, ti_12, ti_200, ti_400, ti_500, ti_999, ti_2400, ti_9999, ti_m9999, ti_m20000, ti_m1, i64_toInt, li_0, li_1, li_2, li_3, li_4, li_5, li_10, li_12, li_15, li_48, li_57, li_200, li_500, li_999, li_2400, li_9999, li_m9999, li_11999] at *; omega
    · refine mm_iload_n dX10_back_4 rfl rfl ?_
      refine mm_iconst (x := 4) dX10_back_5 (by decide) ?_
      refine mm_icmp_ge 21 dX10_back_6 (by decide) (fun c_6 => ?_) (fun c_6 => ?_)
      · exfalso; (try simp only [lg_lt, lg_ge, lg_gt, lg_le] at *); simp only [nI_toInt (show k < 2 ^ 31 by omega), Int32.lt_iff_toInt_lt, Int32.le_iff_toInt_le, Int64.lt_iff_toInt_lt, Int64.le_iff_toInt_le, ti_0, ti_1, ti_2, ti_3, ti_4, ti_5, ti_6, ti_10, ti_12, ti_200, ti_400, ti_500, ti_999, ti_2400, ti_9999, ti_m9999, ti_m20000, ti_m1, i64_toInt, li_0, li_1, li_2, li_3, li_4, li_5, li_10, li_12, li_15, li_48, li_57, li_200, li_500, li_999, li_2400, li_9999, li_m9999, li_11999] at *; omega
      · refine mm_aload_n dX10_back_9 rfl rfl ?_
        refine mm_getS dX10_back_10 fX10_49 sh_0 rfl gr_0_8 ?_
        refine mm_iload_n dX10_back_13 rfl rfl ?_
        refine mm_aald (k) dX10_back_14 (Or.inr rfl) sh_3 rfl (by omega) (gr_im k hk) ?_
        refine mm_getI dX10_back_15 fX10_331 (state_im k hk).1 rfl ?_
        refine mm_if_ne 23 dX10_back_18 (by decide) (fun c_18 => ?_) (fun c_18 => ?_)
        · refine mm_aload_n dX10_back_23 rfl rfl ?_
          refine mm_getS dX10_back_24 fX10_45 sh_0 rfl gr_0_7 ?_
          refine mm_aload_n dX10_back_27 rfl rfl ?_
          refine mm_getS dX10_back_28 fX10_49 sh_0 rfl gr_0_8 ?_
          refine mm_iload_n dX10_back_31 rfl rfl ?_
          refine mm_aald (k) dX10_back_32 (Or.inr rfl) sh_3 rfl (by omega) (gr_im k hk) ?_
          refine mm_cV (Y1 := YX7_copyFrom) dX10_back_33 lX10_328 vX7_copyFrom (hM) sh_61 rfl rfl (by simp [Value.category]) ?_
          refine mm_aload_n dX10_back_36 rfl rfl ?_
          refine mm_getS dX10_back_37 fX10_69 sh_0 rfl gr_0_10 ?_
          refine mm_cV (Y1 := YX0_forget) dX10_back_40 lX10_114 vX0_forget (mX0_forget (d + 2) g1) sh_135 rfl rfl (by simp [Value.category]) ?_
          refine mm_aload_n dX10_back_43 rfl rfl ?_
          refine mm_getS dX10_back_44 fX10_45 sh_0 rfl gr_0_7 ?_
          refine mm_getS dX10_back_47 fX10_63 sh_61 rfl gr_61_0 ?_
          refine mm_getI dX10_back_50 fX10_117 sh_65 rfl ?_
          exact mm_iretE dX10_back_53 rfl (by dsimp only; rw [mm_up_n (by decide)]; exact hcp.1.1) rfl
        · exact absurd c_18 hc
  · simp (disch := omega) only [mm_up_n, mm_up_k, mm_up_e]; exact hcp.1.1
  · simp (disch := omega) only [mm_up_n, mm_up_k, mm_up_e]; exact hcp.1.2.1
  · simp (disch := omega) only [mm_up_n, mm_up_k, mm_up_e]; exact hcp.1.2.2.1
  · simp (disch := omega) only [mm_up_n, mm_up_k, mm_up_e]; exact hcp.1.2.2.2.1
  · simp (disch := omega) only [mm_up_n, mm_up_k, mm_up_e]; exact hcp.1.2.2.2.2.1 f j h1 h2 hj
  · simp (disch := omega) only [mm_up_n, mm_up_k, mm_up_e]; exact hcp.1.2.2.2.2.2 f j h1 h2 hj
  · simp (disch := omega) only [mm_up_n, mm_up_k, mm_up_e]; exact hcp.2.1
  · simp (disch := omega) only [mm_up_n, mm_up_k, mm_up_e]; exact hcp.2.2.1
  · simp (disch := omega) only [mm_up_n, mm_up_k, mm_up_e]; exact hcp.2.2.2.1
  · simp (disch := omega) only [mm_up_n, mm_up_k, mm_up_e]; exact hcp.2.2.2.2.1
  · simp (disch := omega) only [mm_up_n, mm_up_k, mm_up_e]; exact hcp.2.2.2.2.2.1 j hj
  · simp (disch := omega) only [mm_up_n, mm_up_k, mm_up_e]; exact hcp.2.2.2.2.2.2.1 j hj
  · simp (disch := omega) only [mm_up_n, mm_up_k, mm_up_e]; exact hcp.2.2.2.2.2.2.2 j hj
  · dsimp only; rw [mm_up_s, e135]
  · simp (disch := omega) only [mm_up_n, mm_up_k, mm_up_e]; exact hfr a ha
