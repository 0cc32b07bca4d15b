/-! areAlike, isHeard; the class's numbers and groups. -/
set_option maxRecDepth 100000 in
set_option maxHeartbeats 4000000 in
theorem mX11_areAlike (d : Nat) (h : mm_H) (La Lb : List Int32) (a b : Nat) (ha : a < 4096) (hb : b < 4096) (ka : kept La h a) (kb : kept Lb h b) (hla : La.length ≤ 12) (hlb : Lb.length ≤ 12) : mm_M d YX11_areAlike [.ref 165, .int (nI a), .int (nI b)] h (some (.int (bI (La = Lb)))) h := by
  obtain ⟨a1, a2, a3⟩ := ka
  obtain ⟨b1, b2, b3⟩ := kb
  refine mm_M.of [some (.ref 165), some (.int (nI a)), some (.int (nI b)), none, none] rfl rfl (Nat.le_of_ble_eq_true rfl) ?_
  have K0 : ¬ La = Lb → ∀ x4, mm_R d YX11_areAlike 40 [some (.ref 165), some (.int (nI a)), some (.int (nI b)), some (.int 0), some (.int x4)] [] h (some (.int (bI (La = Lb)))) h := by
    intro hne x4
    refine mm_iload_n dX11_areAlike_40 rfl rfl ?_
    refine mm_if_eq 94 dX11_areAlike_41 (by decide) (fun c_41 => ?_) (fun c_41 => ?_)
    · refine mm_iload_n dX11_areAlike_94 rfl rfl ?_
      exact mm_zretE dX11_areAlike_95 rfl (bI_nar _) (bI_0 hne).symm rfl
    · exact absurd rfl c_41
  have K1 : La.length = Lb.length → ∀ q i, i + q = La.length → (∀ j, j < i → La.getD j 0 = Lb.getD j 0) → mm_R d YX11_areAlike 40 [some (.ref 165), some (.int (nI a)), some (.int (nI b)), some (.int 1), some (.int (nI i))] [] h (some (.int (bI (La = Lb)))) h := by
    intro hll q
    induction q with
    | zero =>
      intro i hi he
      have hi : i = La.length := by omega
      subst hi
      have heq : La = Lb := list_ext_getD hll he
      refine mm_iload_n dX11_areAlike_40 rfl rfl ?_
      refine mm_if_eq 94 dX11_areAlike_41 (by decide) (fun c_41 => ?_) (fun c_41 => ?_)
      · exact absurd c_41 (by decide)
      · refine mm_iload dX11_areAlike_44 rfl ?_
        refine mm_aload_n dX11_areAlike_46 rfl rfl ?_
        refine mm_getS dX11_areAlike_47 fX11_124 sh_165 rfl gr_165_50 ?_
        refine mm_iload_n dX11_areAlike_50 rfl rfl ?_
        refine mm_iald (a) dX11_areAlike_51 sh_202 rfl ha ?_
        refine mm_icmp_ge 94 dX11_areAlike_52 (by decide) (fun c_52 => ?_) (fun c_52 => ?_)
        · refine mm_iload_n dX11_areAlike_94 rfl rfl ?_
          exact mm_zretE dX11_areAlike_95 rfl (bI_nar _) (bI_1 heq).symm rfl
        · exact absurd (by rw [a1]; exact Int32.le_refl _) c_52
    | succ q ih =>
      intro i hi he
      have hin : i < La.length := by omega
      have ea := a2 i hin
      have eb := b2 i (by omega)
      have e12 : (12 : Int32) = nI 12 := rfl
      refine mm_iload_n dX11_areAlike_40 rfl rfl ?_
      refine mm_if_eq 94 dX11_areAlike_41 (by decide) (fun c_41 => ?_) (fun c_41 => ?_)
      · exact absurd c_41 (by decide)
      · refine mm_iload dX11_areAlike_44 rfl ?_
        refine mm_aload_n dX11_areAlike_46 rfl rfl ?_
        refine mm_getS dX11_areAlike_47 fX11_124 sh_165 rfl gr_165_50 ?_
        refine mm_iload_n dX11_areAlike_50 rfl rfl ?_
        refine mm_iald (a) dX11_areAlike_51 sh_202 rfl ha ?_
        refine mm_icmp_ge 94 dX11_areAlike_52 (by decide) (fun c_52 => ?_) (fun c_52 => ?_)
        · exact absurd (by rw [a1] at c_52; exact c_52) (nI_ge hin (by omega))
        · refine mm_aload_n dX11_areAlike_55 rfl rfl ?_
          refine mm_getS dX11_areAlike_56 fX11_128 sh_165 rfl gr_165_51 ?_
          refine mm_bipush (x := 12) dX11_areAlike_59 (by decide) ?_
          refine mm_iload_n dX11_areAlike_61 rfl rfl ?_
          refine mm_imul dX11_areAlike_62 ?_
          refine mm_iload dX11_areAlike_63 rfl ?_
          refine mm_iadd dX11_areAlike_65 ?_
          refine mm_iald (12 * a + i) dX11_areAlike_66 sh_203 (by rw [e12, nI_mul, nI_add]) (by omega) ?_
          refine mm_aload_n dX11_areAlike_67 rfl rfl ?_
          refine mm_getS dX11_areAlike_68 fX11_128 sh_165 rfl gr_165_51 ?_
          refine mm_bipush (x := 12) dX11_areAlike_71 (by decide) ?_
          refine mm_iload_n dX11_areAlike_73 rfl rfl ?_
          refine mm_imul dX11_areAlike_74 ?_
          refine mm_iload dX11_areAlike_75 rfl ?_
          refine mm_iadd dX11_areAlike_77 ?_
          refine mm_iald (12 * b + i) dX11_areAlike_78 sh_203 (by rw [e12, nI_mul, nI_add]) (by omega) ?_
          refine mm_icmp_ne 86 dX11_areAlike_79 (by decide) (fun c_79 => ?_) (fun c_79 => ?_)
          · have hne : ¬ La = Lb := fun z => c_79 (by rw [ea, eb, z])
            refine mm_iconst (x := 0) dX11_areAlike_86 (by decide) ?_
            refine mm_istore_n dX11_areAlike_87 rfl (by decide) rfl ?_
            refine mm_iinc dX11_areAlike_88 rfl (nI_inc i) rfl ?_
            refine mm_goto 40 dX11_areAlike_91 (by decide) ?_
            first | exact K | exact K0 hne _
          · rw [ea, eb] at c_79
            have K := ih (i + 1) (by omega) (fun j hj => by
              by_cases z : j = i
              · subst z; exact c_79
              · exact he j (by omega))
            refine mm_iconst (x := 1) dX11_areAlike_82 (by decide) ?_
            refine mm_goto 87 dX11_areAlike_83 (by decide) ?_
            refine mm_istore_n dX11_areAlike_87 rfl (by decide) rfl ?_
            refine mm_iinc dX11_areAlike_88 rfl (nI_inc i) rfl ?_
            refine mm_goto 40 dX11_areAlike_91 (by decide) ?_
            first | exact K | exact K0 hne _
  refine mm_aload_n dX11_areAlike_0 rfl rfl ?_
  refine mm_getS dX11_areAlike_1 fX11_131 sh_165 rfl gr_165_52 ?_
  refine mm_iload_n dX11_areAlike_4 rfl rfl ?_
  refine mm_lald (a) dX11_areAlike_5 sh_204 rfl ha ?_
  refine mm_aload_n dX11_areAlike_6 rfl rfl ?_
  refine mm_getS dX11_areAlike_7 fX11_131 sh_165 rfl gr_165_52 ?_
  refine mm_iload_n dX11_areAlike_10 rfl rfl ?_
  refine mm_lald (b) dX11_areAlike_11 sh_204 rfl hb ?_
  refine mm_lcmp dX11_areAlike_12 ?_
  refine mm_if_ne 35 dX11_areAlike_13 (by decide) (fun c_13 => ?_) (fun c_13 => ?_)
  · have hne : ¬ La = Lb := fun z => c_13 (by rw [lg_e0, a3, b3, z])
    refine mm_iconst (x := 0) dX11_areAlike_35 (by decide) ?_
    refine mm_istore_n dX11_areAlike_36 rfl (by decide) rfl ?_
    refine mm_iconst (x := 0) dX11_areAlike_37 (by decide) ?_
    refine mm_istore dX11_areAlike_38 (by decide) rfl ?_
    first | exact K0 hne _ | exact K1 hll La.length 0 (by omega) (fun j hj => by omega)
  · refine mm_aload_n dX11_areAlike_16 rfl rfl ?_
    refine mm_getS dX11_areAlike_17 fX11_124 sh_165 rfl gr_165_50 ?_
    refine mm_iload_n dX11_areAlike_20 rfl rfl ?_
    refine mm_iald (a) dX11_areAlike_21 sh_202 rfl ha ?_
    refine mm_aload_n dX11_areAlike_22 rfl rfl ?_
    refine mm_getS dX11_areAlike_23 fX11_124 sh_165 rfl gr_165_50 ?_
    refine mm_iload_n dX11_areAlike_26 rfl rfl ?_
    refine mm_iald (b) dX11_areAlike_27 sh_202 rfl hb ?_
    refine mm_icmp_ne 35 dX11_areAlike_28 (by decide) (fun c_28 => ?_) (fun c_28 => ?_)
    · have hne : ¬ La = Lb := fun z => c_28 (by rw [a1, b1, z])
      refine mm_iconst (x := 0) dX11_areAlike_35 (by decide) ?_
      refine mm_istore_n dX11_areAlike_36 rfl (by decide) rfl ?_
      refine mm_iconst (x := 0) dX11_areAlike_37 (by decide) ?_
      refine mm_istore dX11_areAlike_38 (by decide) rfl ?_
      first | exact K0 hne _ | exact K1 hll La.length 0 (by omega) (fun j hj => by omega)
    · have hll : La.length = Lb.length := by rw [a1, b1] at c_28; exact nI_inj (by omega) (by omega) c_28
      refine mm_iconst (x := 1) dX11_areAlike_31 (by decide) ?_
      refine mm_goto 36 dX11_areAlike_32 (by decide) ?_
      refine mm_istore_n dX11_areAlike_36 rfl (by decide) rfl ?_
      refine mm_iconst (x := 0) dX11_areAlike_37 (by decide) ?_
      refine mm_istore dX11_areAlike_38 (by decide) rfl ?_
      first | exact K0 hne _ | exact K1 hll La.length 0 (by omega) (fun j hj => by omega)
set_option maxRecDepth 100000 in
set_option maxHeartbeats 4000000 in
theorem mX11_isHeard (d : Nat) (h : mm_H) (La Lb : List Int32) (hla : La.length ≤ 12) (hlb : Lb.length ≤ 12) (a1 : h.1 165 49 = nI La.length) (a2 : ∀ j, j < La.length → h.1 199 j = La.getD j 0) (b1 : h.1 166 4 = nI Lb.length) (b2 : ∀ j, j < Lb.length → h.1 182 j = Lb.getD j 0) : mm_M d YX11_isHeard [.ref 165] h (some (.int (bI (La = Lb)))) h := by
  refine mm_M.of [some (.ref 165), none, none] rfl rfl (Nat.le_of_ble_eq_true rfl) ?_
  have K0 : ¬ La = Lb → ∀ x4, mm_R d YX11_isHeard 21 [some (.ref 165), some (.int 0), some (.int x4)] [] h (some (.int (bI (La = Lb)))) h := by
    intro hne x4
    refine mm_iload_n dX11_isHeard_21 rfl rfl ?_
    refine mm_if_eq 60 dX11_isHeard_22 (by decide) (fun c_22 => ?_) (fun c_22 => ?_)
    · refine mm_iload_n dX11_isHeard_60 rfl rfl ?_
      exact mm_zretE dX11_isHeard_61 rfl (bI_nar _) (bI_0 hne).symm rfl
    · exact absurd rfl c_22
  have K1 : La.length = Lb.length → ∀ q i, i + q = La.length → (∀ j, j < i → La.getD j 0 = Lb.getD j 0) → mm_R d YX11_isHeard 21 [some (.ref 165), some (.int 1), some (.int (nI i))] [] h (some (.int (bI (La = Lb)))) h := by
    intro hll q
    induction q with
    | zero =>
      intro i hi he
      have hi : i = La.length := by omega
      subst hi
      have heq : La = Lb := list_ext_getD hll he
      refine mm_iload_n dX11_isHeard_21 rfl rfl ?_
      refine mm_if_eq 60 dX11_isHeard_22 (by decide) (fun c_22 => ?_) (fun c_22 => ?_)
      · exact absurd c_22 (by decide)
      · refine mm_iload_n dX11_isHeard_25 rfl rfl ?_
        refine mm_aload_n dX11_isHeard_26 rfl rfl ?_
        refine mm_getI dX11_isHeard_27 fX11_422 sh_165 rfl ?_
        refine mm_icmp_ge 60 dX11_isHeard_30 (by decide) (fun c_30 => ?_) (fun c_30 => ?_)
        · refine mm_iload_n dX11_isHeard_60 rfl rfl ?_
          exact mm_zretE dX11_isHeard_61 rfl (bI_nar _) (bI_1 heq).symm rfl
        · exact absurd (by rw [a1]; exact Int32.le_refl _) c_30
    | succ q ih =>
      intro i hi he
      have hin : i < La.length := by omega
      have ea := a2 i hin
      have eb := b2 i (by omega)
      refine mm_iload_n dX11_isHeard_21 rfl rfl ?_
      refine mm_if_eq 60 dX11_isHeard_22 (by decide) (fun c_22 => ?_) (fun c_22 => ?_)
      · exact absurd c_22 (by decide)
      · refine mm_iload_n dX11_isHeard_25 rfl rfl ?_
        refine mm_aload_n dX11_isHeard_26 rfl rfl ?_
        refine mm_getI dX11_isHeard_27 fX11_422 sh_165 rfl ?_
        refine mm_icmp_ge 60 dX11_isHeard_30 (by decide) (fun c_30 => ?_) (fun c_30 => ?_)
        · exact absurd (by rw [a1] at c_30; exact c_30) (nI_ge hin (by omega))
        · refine mm_aload_n dX11_isHeard_33 rfl rfl ?_
          refine mm_getS dX11_isHeard_34 fX11_115 sh_165 rfl gr_165_46 ?_
          refine mm_iload_n dX11_isHeard_37 rfl rfl ?_
          refine mm_iald (i) dX11_isHeard_38 sh_199 rfl (by omega) ?_
          refine mm_aload_n dX11_isHeard_39 rfl rfl ?_
          refine mm_getS dX11_isHeard_40 fX11_58 sh_165 rfl gr_165_17 ?_
          refine mm_iload_n dX11_isHeard_43 rfl rfl ?_
          refine mm_iald (i) dX11_isHeard_44 sh_182 rfl (by omega) ?_
          refine mm_icmp_ne 52 dX11_isHeard_45 (by decide) (fun c_45 => ?_) (fun c_45 => ?_)
          · have hne : ¬ La = Lb := fun z => c_45 (by rw [ea, eb, z])
            refine mm_iconst (x := 0) dX11_isHeard_52 (by decide) ?_
            refine mm_istore_n dX11_isHeard_53 rfl (by decide) rfl ?_
            refine mm_iinc dX11_isHeard_54 rfl (nI_inc i) rfl ?_
            refine mm_goto 21 dX11_isHeard_57 (by decide) ?_
            first | exact K | exact K0 hne _
          · rw [ea, eb] at c_45
            have K := ih (i + 1) (by omega) (fun j hj => by
              by_cases z : j = i
              · subst z; exact c_45
              · exact he j (by omega))
            refine mm_iconst (x := 1) dX11_isHeard_48 (by decide) ?_
            refine mm_goto 53 dX11_isHeard_49 (by decide) ?_
            refine mm_istore_n dX11_isHeard_53 rfl (by decide) rfl ?_
            refine mm_iinc dX11_isHeard_54 rfl (nI_inc i) rfl ?_
            refine mm_goto 21 dX11_isHeard_57 (by decide) ?_
            first | exact K | exact K0 hne _
  refine mm_aload_n dX11_isHeard_0 rfl rfl ?_
  refine mm_getI dX11_isHeard_1 fX11_422 sh_165 rfl ?_
  refine mm_aload_n dX11_isHeard_4 rfl rfl ?_
  refine mm_getS dX11_isHeard_5 fX11_9 sh_165 rfl gr_165_1 ?_
  refine mm_iconst (x := 4) dX11_isHeard_8 (by decide) ?_
  refine mm_iald (4) dX11_isHeard_9 sh_166 rfl (by decide) ?_
  refine mm_icmp_ne 17 dX11_isHeard_10 (by decide) (fun c_10 => ?_) (fun c_10 => ?_)
  · have hne : ¬ La = Lb := fun z => c_10 (by rw [a1, b1, z])
    refine mm_iconst (x := 0) dX11_isHeard_17 (by decide) ?_
    refine mm_istore_n dX11_isHeard_18 rfl (by decide) rfl ?_
    refine mm_iconst (x := 0) dX11_isHeard_19 (by decide) ?_
    refine mm_istore_n dX11_isHeard_20 rfl (by decide) rfl ?_
    first | exact K0 hne _ | exact K1 hll La.length 0 (by omega) (fun j hj => by omega)
  · have hll : La.length = Lb.length := by rw [a1, b1] at c_10; exact nI_inj (by omega) (by omega) c_10
    refine mm_iconst (x := 1) dX11_isHeard_13 (by decide) ?_
    refine mm_goto 18 dX11_isHeard_14 (by decide) ?_
    refine mm_istore_n dX11_isHeard_18 rfl (by decide) rfl ?_
    refine mm_iconst (x := 0) dX11_isHeard_19 (by decide) ?_
    refine mm_istore_n dX11_isHeard_20 rfl (by decide) rfl ?_
    first | exact K0 hne _ | exact K1 hll La.length 0 (by omega) (fun j hj => by omega)
theorem cinv.ix {n : Nat} {ch : Nat → List Int32} {wt : Nat → Int32} {h : mm_H} {m : Nat} {W : Nat → Nat} (hI : cinv n ch wt h m W) {a : Nat} (ha : a < 2 ^ n) (hl : ¬ h.1 136 a = 0) : ∃ i, i < m ∧ i < 4096 ∧ h.1 136 a = nI (i + 1) ∧ ch (W i) = ch a ∧ h.1 137 a = wt a := by
  obtain ⟨c1, c2, c3, c4, c5, c6, c7, c8, c9, c10⟩ := hI
  obtain ⟨i, h1, h2, h3, h4⟩ := (c8 a ha).resolve_left hl
  exact ⟨i, h1, by omega, h2, h3, h4⟩
theorem cinv.eq {n : Nat} {ch : Nat → List Int32} {wt : Nat → Int32} {h : mm_H} {m : Nat} {W : Nat → Nat} (hI : cinv n ch wt h m W) {a b : Nat} (ha : a < 2 ^ n) (hb : b < 2 ^ n) (la : ¬ h.1 136 a = 0) (lb : ¬ h.1 136 b = 0) : h.1 136 a = h.1 136 b ↔ ch a = ch b := by
  obtain ⟨i, i1, i2, i3, i4, -⟩ := hI.ix ha la
  obtain ⟨j, j1, j2, j3, j4, -⟩ := hI.ix hb lb
  constructor
  · intro e
    rw [i3, j3] at e
    have := nI_inj (by omega) (by omega) e
    have : i = j := by omega
    subst this
    exact i4.symm.trans j4
  · intro e
    have := hI.2.1 i j i1 j1 (by rw [i4, j4, e])
    rw [i3, j3, this]
theorem aimed.wt {A : MD} {Q : LD} {r k : Nat} {h : mm_H} (hW : aimed A Q r k h) {a : Nat} (ha : a < 2 ^ mn A) (hl : ¬ h.1 136 a = 0) : h.1 137 a = wtA A a := by
  obtain ⟨-, -, -, -, -, m, W, hI⟩ := hW
  obtain ⟨i, -, -, -, -, e⟩ := hI.ix ha hl
  exact e
theorem aimed.ix {A : MD} {Q : LD} {r k : Nat} {h : mm_H} (hW : aimed A Q r k h) {a : Nat} (ha : a < 2 ^ mn A) (hl : ¬ h.1 136 a = 0) : ∃ i, i < 4096 ∧ h.1 136 a = nI (i + 1) := by
  obtain ⟨-, -, -, -, -, m, W, hI⟩ := hW
  obtain ⟨i, -, h1, h2, -, -⟩ := hI.ix ha hl
  exact ⟨i, h1, h2⟩
theorem aimed.eq {A : MD} {Q : LD} {r k : Nat} {h : mm_H} (hW : aimed A Q r k h) {a b : Nat} (ha : a < 2 ^ mn A) (hb : b < 2 ^ mn A) (la : ¬ h.1 136 a = 0) (lb : ¬ h.1 136 b = 0) : h.1 136 a = h.1 136 b ↔ chd A Q k a = chd A Q k b := by
  obtain ⟨-, -, -, -, -, m, W, hI⟩ := hW
  exact hI.eq ha hb la lb
/-- groups: the leader of each chord since they began, and which are mixed -/
def gst (A : MD) (Q : LD) (k : Nat) (h : mm_H) (G : Nat) (ld : List Int32 → Option Nat) (mx : List Int32 → Prop) : Prop :=
  h.1 135 11 = nI G ∧ (∀ i, i ≤ 4096 → (∃ x, x ≤ G ∧ h.1 142 i = nI x) ∧ ∃ x, x ≤ G ∧ h.1 143 i = nI x) ∧
  ∀ a i, a < 2 ^ mn A → i < 4096 → h.1 136 a = nI (i + 1) → (∀ l, ld (chd A Q k a) = some l → h.1 142 (i + 1) = nI G ∧ h.1 144 (i + 1) = nI l) ∧ (ld (chd A Q k a) = none → ¬ h.1 142 (i + 1) = nI G) ∧ (h.1 143 (i + 1) = nI G ↔ mx (chd A Q k a))
/-- no group has begun: how far they have been counted -/
def gcn (h : mm_H) (G : Nat) : Prop := h.1 135 11 = nI G ∧ ∀ i, i ≤ 4096 → (∃ x, x ≤ G ∧ h.1 142 i = nI x) ∧ ∃ x, x ≤ G ∧ h.1 143 i = nI x
theorem gst.cn {A : MD} {Q : LD} {k : Nat} {h : mm_H} {G : Nat} {ld : List Int32 → Option Nat} {mx : List Int32 → Prop} (g : gst A Q k h G ld mx) : gcn h G := ⟨g.1, g.2.1⟩
def lup (ld : List Int32 → Option Nat) (c : List Int32) (a : Nat) : List Int32 → Option Nat := fun x => if x = c then some ((ld c).getD a) else ld x
theorem aimed_g {A : MD} {Q : LD} {r k : Nat} {h g : mm_H} (hr : r < 6) (hW : aimed A Q r k h) (fr : frm (fun c => rg 142 144 c || c == 135) h g) (e : ∀ j, j ≠ 11 → g.1 135 j = h.1 135 j) : aimed A Q r k g := by
  obtain ⟨hV, hC, hR, hK, hI, m, W, hcv⟩ := hW
  have hn : ∀ c, ¬ (142 ≤ c ∧ c ≤ 144) → c ≠ 135 → (fun c => rg 142 144 c || c == 135) c = false := fun c h1 h2 => by
    simp only [Bool.or_eq_false_iff]; exact ⟨rg_f h1, by simp [h2]⟩
  refine ⟨viewC_f hV fr (fun c hc => hn c (by omega) (by omega)), lawC_f hC fr (fun c h1 h2 => hn c (by omega) (by omega)), by rw [fr.2]; exact hR, by rw [fr.i (hn 145 (by decide) (by decide))]; exact hK, kinv_c hI (fr.i (hn 146 (by decide) (by decide))) (fr.i (hn 147 (by decide) (by decide))), m, W, cinv_f hcv (e 6 (by decide)) (fr.i (hn 136 (by decide) (by decide))) (fr.i (hn 138 (by decide) (by decide))) (fr.i (hn 139 (by decide) (by decide))) (fr.i (hn 140 (by decide) (by decide))) (fr.i (hn 141 (by decide) (by decide))) (fun b _ => Or.inr (by rw [fr.i (hn 137 (by decide) (by decide))]))⟩
set_option maxRecDepth 100000 in
set_option maxHeartbeats 4000000 in
theorem mX0_numberOf (d : Nat) (h : mm_H) (a : Nat) (ha : a < 4096) : mm_M d YX0_numberOf [.ref 135, .int (nI a)] h (some (.int (h.1 136 a))) h := by
  refine mm_M.of [some (.ref 135), some (.int (nI a))] rfl rfl (Nat.le_of_ble_eq_true rfl) ?_
  refine mm_aload_n dX0_numberOf_0 rfl rfl ?_
  refine mm_getS dX0_numberOf_1 fX0_15 sh_135 rfl gr_135_4 ?_
  refine mm_iload_n dX0_numberOf_4 rfl rfl ?_
  refine mm_iald (a) dX0_numberOf_5 sh_136 rfl ha ?_
  exact mm_iretE dX0_numberOf_6 rfl rfl rfl
set_option maxRecDepth 100000 in
set_option maxHeartbeats 4000000 in
theorem mX0_worthOf (d : Nat) (h : mm_H) (a : Nat) (ha : a < 4096) : mm_M d YX0_worthOf [.ref 135, .int (nI a)] h (some (.int (h.1 137 a))) h := by
  refine mm_M.of [some (.ref 135), some (.int (nI a))] rfl rfl (Nat.le_of_ble_eq_true rfl) ?_
  refine mm_aload_n dX0_worthOf_0 rfl rfl ?_
  refine mm_getS dX0_worthOf_1 fX0_19 sh_135 rfl gr_135_5 ?_
  refine mm_iload_n dX0_worthOf_4 rfl rfl ?_
  refine mm_iald (a) dX0_worthOf_5 sh_137 rfl ha ?_
  exact mm_iretE dX0_worthOf_6 rfl rfl rfl
set_option maxRecDepth 100000 in
set_option maxHeartbeats 4000000 in
theorem mX0_beginGroups (d : Nat) (h : mm_H) (G : Nat) (hG : h.1 135 11 = nI G) : mm_M d YX0_beginGroups [.ref 135] h none (mm_up h.1 135 11 (nI (G + 1)), h.2.1, h.2.2) := by
  refine mm_M.of [some (.ref 135)] rfl rfl (Nat.le_of_ble_eq_true rfl) ?_
  refine mm_aload_n dX0_beginGroups_0 rfl rfl ?_
  refine mm_dup dX0_beginGroups_1 rfl ?_
  refine mm_getI dX0_beginGroups_2 fX0_112 sh_135 rfl ?_
  refine mm_iconst (x := 1) dX0_beginGroups_5 (by decide) ?_
  refine mm_iadd dX0_beginGroups_6 ?_
  refine mm_putI dX0_beginGroups_7 fX0_112 sh_135 rfl rfl rfl ?_
  exact mm_retE dX0_beginGroups_10 rfl (by rw [hG, nI_succ])
/-- what the groups' runs leave as it was -/
def grp_fr (h g : mm_H) : Prop := frm (rg 142 144) h g
theorem grp_fr.aimed {A : MD} {Q : LD} {r k : Nat} {h g : mm_H} (fr : grp_fr h g) (hr : r < 6) (hW : aimed A Q r k h) : aimed A Q r k g := aimed_g hr hW (fr.mono (fun c hc => by simp only [Bool.or_eq_false_iff] at hc; exact hc.1)) (fun j _ => by rw [fr.i rfl])
theorem begun {A : MD} {Q : LD} {r k : Nat} {h : mm_H} {G : Nat} (hr : r < 6) (hW : aimed A Q r k h) (hc : gcn h G) (hG : G + 1 < 2 ^ 31) : aimed A Q r k (mm_up h.1 135 11 (nI (G + 1)), h.2.1, h.2.2) ∧ gst A Q k (mm_up h.1 135 11 (nI (G + 1)), h.2.1, h.2.2) (G + 1) (fun _ => none) (fun _ => False) := by
  refine ⟨aimed_g hr hW ((frm.refl _ h).up (by rfl)) (fun j hj => by dsimp only; rw [mm_up_k hj]), by dsimp only; rw [mm_up_e], fun i hi => ?_, fun a i ha hi e => ⟨fun l z => by simp at z, fun _ => ?_, ?_⟩⟩
  · obtain ⟨⟨x, x1, x2⟩, y, y1, y2⟩ := hc.2 i hi
    dsimp only
    rw [mm_up_n (by decide), mm_up_n (by decide)]
    exact ⟨⟨x, by omega, x2⟩, y, by omega, y2⟩
  · obtain ⟨⟨x, x1, x2⟩, -⟩ := hc.2 (i + 1) (by omega)
    dsimp only
    rw [mm_up_n (by decide), x2]
    intro z
    have := nI_inj (by omega) (by omega) z
    omega
  · obtain ⟨-, y, y1, y2⟩ := hc.2 (i + 1) (by omega)
    dsimp only
    rw [mm_up_n (by decide), y2]
    constructor
    · intro z
      have := nI_inj (by omega) (by omega) z
      omega
    · intro z; exact absurd z id
set_option maxRecDepth 100000 in
set_option maxHeartbeats 4000000 in
theorem mX0_leaderOf (d : Nat) (h : mm_H) (A : MD) (hA : mdOK A) (Q : LD) (r : Nat) (hr : r < 6) (k : Nat) (hW : aimed A Q r k h) (G : Nat) (hGb : G < 2 ^ 31) (ld : List Int32 → Option Nat) (mx : List Int32 → Prop) (hg : gst A Q k h G ld mx) (a : Nat) (ha : a < 2 ^ mn A) (hl : ¬ h.1 136 a = 0) : ∃ g, mm_M d YX0_leaderOf [.ref 135, .int (nI a)] h (some (.int (nI ((ld (chd A Q k a)).getD a)))) g ∧ grp_fr h g ∧ gst A Q k g G (lup ld (chd A Q k a) a) mx := by
  have h12 := hA.1
  have hp := p2_lt h12
  obtain ⟨i, i1, i2⟩ := hW.ix ha hl
  obtain ⟨g1, g2, g3⟩ := hg
  obtain ⟨q1, q2, q3⟩ := g3 a i ha i1 i2
  cases e : ld (chd A Q k a) with
  | some l =>
    obtain ⟨l1, l2⟩ := q1 l e
    refine ⟨h, ?_, frm.refl _ _, ?_⟩
    · refine mm_M.of [some (.ref 135), some (.int (nI a)), none] rfl rfl (Nat.le_of_ble_eq_true rfl) ?_
      refine mm_aload_n dX0_leaderOf_0 rfl rfl ?_
      refine mm_getS dX0_leaderOf_1 fX0_15 sh_135 rfl gr_135_4 ?_
      refine mm_iload_n dX0_leaderOf_4 rfl rfl ?_
      refine mm_iald (a) dX0_leaderOf_5 sh_136 rfl (by omega) ?_
      refine mm_istore_n dX0_leaderOf_6 rfl (by decide) rfl ?_
      refine mm_cast (ls' := [some (.ref 135), some (.int (nI a)), some (.int (nI (i + 1)))]) (by rw [i2]; rfl) rfl rfl ?_
      refine mm_aload_n dX0_leaderOf_7 rfl rfl ?_
      refine mm_getS dX0_leaderOf_8 fX0_34 sh_135 rfl gr_135_12 ?_
      refine mm_iload_n dX0_leaderOf_11 rfl rfl ?_
      refine mm_iald (i + 1) dX0_leaderOf_12 sh_142 rfl (by omega) ?_
      refine mm_aload_n dX0_leaderOf_13 rfl rfl ?_
      refine mm_getI dX0_leaderOf_14 fX0_112 sh_135 rfl ?_
      refine mm_icmp_eq 37 dX0_leaderOf_17 (by decide) (fun c_17 => ?_) (fun c_17 => ?_)
      · refine mm_aload_n dX0_leaderOf_37 rfl rfl ?_
        refine mm_getS dX0_leaderOf_38 fX0_40 sh_135 rfl gr_135_14 ?_
        refine mm_iload_n dX0_leaderOf_41 rfl rfl ?_
        refine mm_iald (i + 1) dX0_leaderOf_42 sh_144 rfl (by omega) ?_
        exact mm_iretE dX0_leaderOf_43 rfl l2 rfl
      · exact absurd (by rw [l1, g1]) c_17
    · have : lup ld (chd A Q k a) a = ld := by
        funext x
        unfold lup
        by_cases z : x = chd A Q k a
        · rw [if_pos z, z, e]; rfl
        · rw [if_neg z]
      rw [this]
      exact ⟨g1, g2, g3⟩
  | none =>
    have l1 := q2 e
    refine ⟨(mm_up (mm_up h.1 142 (i + 1) (nI G)) 144 (i + 1) (nI a), h.2.1, h.2.2), ?_, ((frm.refl _ h).up (c := 142) rfl).up (c := 144) rfl, ?_⟩
    · refine mm_M.of [some (.ref 135), some (.int (nI a)), none] rfl rfl (Nat.le_of_ble_eq_true rfl) ?_
      refine mm_aload_n dX0_leaderOf_0 rfl rfl ?_
      refine mm_getS dX0_leaderOf_1 fX0_15 sh_135 rfl gr_135_4 ?_
      refine mm_iload_n dX0_leaderOf_4 rfl rfl ?_
      refine mm_iald (a) dX0_leaderOf_5 sh_136 rfl (by omega) ?_
      refine mm_istore_n dX0_leaderOf_6 rfl (by decide) rfl ?_
      refine mm_cast (ls' := [some (.ref 135), some (.int (nI a)), some (.int (nI (i + 1)))]) (by rw [i2]; rfl) rfl rfl ?_
      refine mm_aload_n dX0_leaderOf_7 rfl rfl ?_
      refine mm_getS dX0_leaderOf_8 fX0_34 sh_135 rfl gr_135_12 ?_
      refine mm_iload_n dX0_leaderOf_11 rfl rfl ?_
      refine mm_iald (i + 1) dX0_leaderOf_12 sh_142 rfl (by omega) ?_
      refine mm_aload_n dX0_leaderOf_13 rfl rfl ?_
      refine mm_getI dX0_leaderOf_14 fX0_112 sh_135 rfl ?_
      refine mm_icmp_eq 37 dX0_leaderOf_17 (by decide) (fun c_17 => ?_) (fun c_17 => ?_)
      · exact absurd (by rw [g1] at c_17; exact c_17) l1
      · refine mm_aload_n dX0_leaderOf_20 rfl rfl ?_
        refine mm_getS dX0_leaderOf_21 fX0_34 sh_135 rfl gr_135_12 ?_
        refine mm_iload_n dX0_leaderOf_24 rfl rfl ?_
        refine mm_aload_n dX0_leaderOf_25 rfl rfl ?_
        refine mm_getI dX0_leaderOf_26 fX0_112 sh_135 rfl ?_
        refine mm_iast (i + 1) dX0_leaderOf_29 sh_142 rfl (by omega) ?_
        refine mm_aload_n dX0_leaderOf_30 rfl rfl ?_
        refine mm_getS dX0_leaderOf_31 fX0_40 sh_135 rfl gr_135_14 ?_
        refine mm_iload_n dX0_leaderOf_34 rfl rfl ?_
        refine mm_iload_n dX0_leaderOf_35 rfl rfl ?_
        refine mm_iast (i + 1) dX0_leaderOf_36 sh_144 rfl (by omega) ?_
        refine mm_aload_n dX0_leaderOf_37 rfl rfl ?_
        refine mm_getS dX0_leaderOf_38 fX0_40 sh_135 rfl gr_135_14 ?_
        refine mm_iload_n dX0_leaderOf_41 rfl rfl ?_
        refine mm_iald (i + 1) dX0_leaderOf_42 sh_144 rfl (by omega) ?_
        exact mm_iretE dX0_leaderOf_43 rfl (by dsimp only; rw [mm_up_e]; rfl) (by rw [g1])
    · refine ⟨by dsimp only; rw [mm_up_n (by decide), mm_up_n (by decide)]; exact g1, fun j hj => ?_, fun b j hb hj ej => ?_⟩
      · dsimp only
        rw [mm_up_n (show 142 ≠ 144 by decide), mm_up_s, mm_up_n (show 143 ≠ 144 by decide), mm_up_n (show 143 ≠ 142 by decide)]
        refine ⟨?_, (g2 j hj).2⟩
        unfold upd
        by_cases z : j = i + 1
        · rw [if_pos z]; exact ⟨G, Nat.le_refl _, rfl⟩
        · rw [if_neg z]; exact (g2 j hj).1
      · dsimp only at ej ⊢
        rw [mm_up_n (show 136 ≠ 144 by decide), mm_up_n (show 136 ≠ 142 by decide)] at ej
        rw [mm_up_n (show 142 ≠ 144 by decide), mm_up_s, mm_up_s, mm_up_n (show 144 ≠ 142 by decide), mm_up_n (show 143 ≠ 144 by decide), mm_up_n (show 143 ≠ 142 by decide)]
        obtain ⟨p1, p2, p3⟩ := g3 b j hb hj ej
        have lb : ¬ h.1 136 b = 0 := by rw [ej]; exact nI_ne0 (by omega) (by omega)
        have heq := hW.eq ha hb hl lb
        rw [i2, ej] at heq
        unfold upd lup
        by_cases z : j = i
        · subst z
          have ec := heq.mp rfl
          rw [if_pos rfl, if_pos rfl, if_pos ec.symm]
          refine ⟨fun l hl2 => ?_, fun z => by simp at z, p3⟩
          rw [e] at hl2
          simp at hl2
          rw [hl2]
          exact ⟨rfl, rfl⟩
        · have z1 : ¬ j + 1 = i + 1 := by omega
          have z2 : ¬ chd A Q k b = chd A Q k a := fun q => z (by
            have := nI_inj (by omega) (by omega) (heq.mpr q.symm)
            omega)
          rw [if_neg z1, if_neg z1, if_neg z2]
          exact ⟨p1, p2, p3⟩
set_option maxRecDepth 100000 in
set_option maxHeartbeats 4000000 in
theorem mX0_putInGroup (d : Nat) (h : mm_H) (A : MD) (hA : mdOK A) (Q : LD) (r : Nat) (hr : r < 6) (k : Nat) (hW : aimed A Q r k h) (G : Nat) (hGb : G < 2 ^ 31) (ld : List Int32 → Option Nat) (mx : List Int32 → Prop) (hg : gst A Q k h G ld mx) (hld : ∀ c l, ld c = some l → l < 2 ^ mn A ∧ ¬ h.1 136 l = 0) (a : Nat) (ha : a < 2 ^ mn A) (hl : ¬ h.1 136 a = 0) : ∃ g, mm_M (d + 1) YX0_putInGroup [.ref 135, .int (nI a)] h none g ∧ grp_fr h g ∧ gst A Q k g G (lup ld (chd A Q k a) a) (fun x => mx x ∨ (x = chd A Q k a ∧ ¬ wtA A ((ld x).getD a) = wtA A a)) := by
  have h12 := hA.1
  have hp := p2_lt h12
  obtain ⟨l, el⟩ : ∃ l, l = (ld (chd A Q k a)).getD a := ⟨_, rfl⟩
  have hll : l < 2 ^ mn A ∧ ¬ h.1 136 l = 0 := by
    rw [el]
    cases e : ld (chd A Q k a) with
    | none => exact ⟨ha, hl⟩
    | some q => exact hld _ q e
  obtain ⟨g, M, fr, hs⟩ := mX0_leaderOf d h A hA Q r hr k hW G hGb ld mx hg a ha hl
  rw [← el] at M
  have hWg := fr.aimed hr hW
  obtain ⟨i, i1, i2⟩ := hW.ix ha hl
  have e136 : g.1 136 = h.1 136 := fr.i rfl
  have e137 : g.1 137 = h.1 137 := fr.i rfl
  have e13511 : g.1 135 11 = nI G := hs.1
  have w1 : g.1 137 l = wtA A l := by rw [e137]; exact hW.wt hll.1 hll.2
  have w2 : g.1 137 a = wtA A a := by rw [e137]; exact hW.wt ha hl
  by_cases hw : wtA A l = wtA A a
  · refine ⟨g, ?_, fr, hs.1, hs.2.1, fun b j hb hj ej => ?_⟩
    · refine mm_M.of [some (.ref 135), some (.int (nI a))] rfl rfl (Nat.le_of_ble_eq_true rfl) ?_
      refine mm_aload_n dX0_putInGroup_0 rfl rfl ?_
      refine mm_getS dX0_putInGroup_1 fX0_19 sh_135 rfl gr_135_5 ?_
      refine mm_aload_n dX0_putInGroup_4 rfl rfl ?_
      refine mm_iload_n dX0_putInGroup_5 rfl rfl ?_
      refine mm_cV (Y1 := YX0_leaderOf) dX0_putInGroup_6 lX0_115 vX0_leaderOf (M) sh_135 rfl rfl (by simp [Value.category]) ?_
      refine mm_iald (l) dX0_putInGroup_9 sh_137 rfl (by omega) ?_
      refine mm_aload_n dX0_putInGroup_10 rfl rfl ?_
      refine mm_getS dX0_putInGroup_11 fX0_19 sh_135 rfl gr_135_5 ?_
      refine mm_iload_n dX0_putInGroup_14 rfl rfl ?_
      refine mm_iald (a) dX0_putInGroup_15 sh_137 rfl (by omega) ?_
      refine mm_icmp_eq 34 dX0_putInGroup_16 (by decide) (fun c_16 => ?_) (fun c_16 => ?_)
      · exact mm_retE dX0_putInGroup_34 rfl rfl
      · exact absurd (by rw [w1, w2, hw]) c_16
    · obtain ⟨p1, p2, p3⟩ := hs.2.2 b j hb hj ej
      refine ⟨p1, p2, p3.trans ⟨fun z => Or.inl z, fun z => z.elim id (fun y => absurd ?_ y.2)⟩⟩
      rw [y.1, ← el]; exact hw
  · refine ⟨(mm_up g.1 143 (i + 1) (nI G), g.2.1, g.2.2), ?_, frm.up fr rfl, ?_, fun j hj => ?_, fun b j hb hj ej => ?_⟩
    · refine mm_M.of [some (.ref 135), some (.int (nI a))] rfl rfl (Nat.le_of_ble_eq_true rfl) ?_
      refine mm_aload_n dX0_putInGroup_0 rfl rfl ?_
      refine mm_getS dX0_putInGroup_1 fX0_19 sh_135 rfl gr_135_5 ?_
      refine mm_aload_n dX0_putInGroup_4 rfl rfl ?_
      refine mm_iload_n dX0_putInGroup_5 rfl rfl ?_
      refine mm_cV (Y1 := YX0_leaderOf) dX0_putInGroup_6 lX0_115 vX0_leaderOf (M) sh_135 rfl rfl (by simp [Value.category]) ?_
      refine mm_iald (l) dX0_putInGroup_9 sh_137 rfl (by omega) ?_
      refine mm_aload_n dX0_putInGroup_10 rfl rfl ?_
      refine mm_getS dX0_putInGroup_11 fX0_19 sh_135 rfl gr_135_5 ?_
      refine mm_iload_n dX0_putInGroup_14 rfl rfl ?_
      refine mm_iald (a) dX0_putInGroup_15 sh_137 rfl (by omega) ?_
      refine mm_icmp_eq 34 dX0_putInGroup_16 (by decide) (fun c_16 => ?_) (fun c_16 => ?_)
      · exact absurd (by rw [w1, w2] at c_16; exact c_16) hw
      · refine mm_aload_n dX0_putInGroup_19 rfl rfl ?_
        refine mm_getS dX0_putInGroup_20 fX0_37 sh_135 rfl gr_135_13 ?_
        refine mm_aload_n dX0_putInGroup_23 rfl rfl ?_
        refine mm_getS dX0_putInGroup_24 fX0_15 sh_135 rfl gr_135_4 ?_
        refine mm_iload_n dX0_putInGroup_27 rfl rfl ?_
        refine mm_iald (a) dX0_putInGroup_28 sh_136 rfl (by omega) ?_
        refine mm_aload_n dX0_putInGroup_29 rfl rfl ?_
        refine mm_getI dX0_putInGroup_30 fX0_112 sh_135 rfl ?_
        refine mm_iast (i + 1) dX0_putInGroup_33 sh_143 (by rw [e136]; exact i2) (by omega) ?_
        exact mm_retE dX0_putInGroup_34 rfl (by rw [e13511])
    · dsimp only; rw [mm_up_n (by decide)]; exact hs.1
    · dsimp only
      rw [mm_up_n (by decide), mm_up_s]
      refine ⟨(hs.2.1 j hj).1, ?_⟩
      unfold upd
      by_cases z : j = i + 1
      · rw [if_pos z]; exact ⟨G, Nat.le_refl _, rfl⟩
      · rw [if_neg z]; exact (hs.2.1 j hj).2
    · dsimp only at ej ⊢
      rw [mm_up_n (by decide)] at ej
      rw [mm_up_n (by decide), mm_up_n (by decide), mm_up_s]
      obtain ⟨p1, p2, p3⟩ := hs.2.2 b j hb hj ej
      refine ⟨p1, p2, ?_⟩
      have lb : ¬ h.1 136 b = 0 := by rw [← e136, ej]; exact nI_ne0 (by omega) (by omega)
      have heq := hW.eq ha hb hl lb
      rw [i2, ← e136, ej] at heq
      unfold upd
      by_cases z : j = i
      · subst z
        rw [if_pos rfl]
        refine ⟨fun _ => Or.inr ⟨(heq.mp rfl).symm, ?_⟩, fun _ => rfl⟩
        rw [← heq.mp rfl, ← el]; exact hw
      · rw [if_neg (by omega)]
        refine p3.trans ⟨fun q => Or.inl q, fun q => q.elim id (fun y => absurd ?_ z)⟩
        have := nI_inj (by omega) (by omega) (heq.mpr y.1.symm)
        omega
set_option maxRecDepth 100000 in
set_option maxHeartbeats 4000000 in
theorem mX0_isMixed (d : Nat) (h : mm_H) (A : MD) (hA : mdOK A) (Q : LD) (r : Nat) (hr : r < 6) (k : Nat) (hW : aimed A Q r k h) (G : Nat) (ld : List Int32 → Option Nat) (mx : List Int32 → Prop) (hg : gst A Q k h G ld mx) (a : Nat) (ha : a < 2 ^ mn A) (hl : ¬ h.1 136 a = 0) : ∃ x, mm_M d YX0_isMixed [.ref 135, .int (nI a)] h (some (.int x)) h ∧ ((x = 1 ∧ mx (chd A Q k a)) ∨ (x = 0 ∧ ¬ mx (chd A Q k a))) := by
  have h12 := hA.1
  have hp := p2_lt h12
  obtain ⟨i, i1, i2⟩ := hW.ix ha hl
  obtain ⟨g1, g2, g3⟩ := hg
  obtain ⟨q1, q2, q3⟩ := g3 a i ha i1 i2
  by_cases hm : mx (chd A Q k a)
  · have e := q3.mpr hm
    refine ⟨1, ?_, Or.inl ⟨rfl, hm⟩⟩
    refine mm_M.of [some (.ref 135), some (.int (nI a))] rfl rfl (Nat.le_of_ble_eq_true rfl) ?_
    refine mm_aload_n dX0_isMixed_0 rfl rfl ?_
    refine mm_getS dX0_isMixed_1 fX0_37 sh_135 rfl gr_135_13 ?_
    refine mm_aload_n dX0_isMixed_4 rfl rfl ?_
    refine mm_getS dX0_isMixed_5 fX0_15 sh_135 rfl gr_135_4 ?_
    refine mm_iload_n dX0_isMixed_8 rfl rfl ?_
    refine mm_iald (a) dX0_isMixed_9 sh_136 rfl (by omega) ?_
    refine mm_iald (i + 1) dX0_isMixed_10 sh_143 i2 (by omega) ?_
    refine mm_aload_n dX0_isMixed_11 rfl rfl ?_
    refine mm_getI dX0_isMixed_12 fX0_112 sh_135 rfl ?_
    refine mm_icmp_ne 22 dX0_isMixed_15 (by decide) (fun c_15 => ?_) (fun c_15 => ?_)
    · exact absurd (by rw [e, g1]) c_15
    · refine mm_iconst (x := 1) dX0_isMixed_18 (by decide) ?_
      refine mm_goto 23 dX0_isMixed_19 (by decide) ?_
      exact mm_zretE dX0_isMixed_23 rfl rfl rfl rfl
  · have e : ¬ h.1 143 (i + 1) = nI G := fun z => hm (q3.mp z)
    refine ⟨0, ?_, Or.inr ⟨rfl, hm⟩⟩
    refine mm_M.of [some (.ref 135), some (.int (nI a))] rfl rfl (Nat.le_of_ble_eq_true rfl) ?_
    refine mm_aload_n dX0_isMixed_0 rfl rfl ?_
    refine mm_getS dX0_isMixed_1 fX0_37 sh_135 rfl gr_135_13 ?_
    refine mm_aload_n dX0_isMixed_4 rfl rfl ?_
    refine mm_getS dX0_isMixed_5 fX0_15 sh_135 rfl gr_135_4 ?_
    refine mm_iload_n dX0_isMixed_8 rfl rfl ?_
    refine mm_iald (a) dX0_isMixed_9 sh_136 rfl (by omega) ?_
    refine mm_iald (i + 1) dX0_isMixed_10 sh_143 i2 (by omega) ?_
    refine mm_aload_n dX0_isMixed_11 rfl rfl ?_
    refine mm_getI dX0_isMixed_12 fX0_112 sh_135 rfl ?_
    refine mm_icmp_ne 22 dX0_isMixed_15 (by decide) (fun c_15 => ?_) (fun c_15 => ?_)
    · refine mm_iconst (x := 0) dX0_isMixed_22 (by decide) ?_
      exact mm_zretE dX0_isMixed_23 rfl rfl rfl rfl
    · exact absurd (by rw [g1] at c_15; exact c_15) e
