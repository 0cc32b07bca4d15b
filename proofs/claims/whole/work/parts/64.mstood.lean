/-! The reference's words; it reads a mint's clause. -/
/-- the kind of the i-th String -/
def ki (i : Nat) : Nat := if i = 17 then 29 else if 14 ≤ i then 16 + i else 15 + i
theorem ki_wd {i : Nat} (h1 : 1 ≤ i) (h2 : i < 18) : wdL.getD (ki i - 16) [] = mm_sb.getD i [] ∧ 16 ≤ ki i ∧ ki i - 16 < 17 ∧ (mm_sb.getD i []).length = mm_sl.getD i 0 ∧ 2 ≤ mm_sl.getD i 0 ∧ mm_sl.getD i 0 < 100 := by
  have H : ∀ i, i < 18 → 1 ≤ i → wdL.getD (ki i - 16) [] = mm_sb.getD i [] ∧ 16 ≤ ki i ∧ ki i - 16 < 17 ∧ (mm_sb.getD i []).length = mm_sl.getD i 0 ∧ 2 ≤ mm_sl.getD i 0 ∧ mm_sl.getD i 0 < 100 := by decide +kernel
  exact H i h2 h1
theorem sgn_lt (c : Int32) (t : Prop) [Decidable t] : sgn c t < 16 := by unfold sgn; repeat (first | decide | split)
theorem kd_w {B : Nat → Int32} {n p i : Nat} (hp : p ≤ n) (h1 : 1 ≤ i) (h2 : i < 18) : kd B n p = ki i ↔ mtb B (mm_sb.getD i []) p (rEnd bL B n p) = true := by
  obtain ⟨a1, a2, a3, a4, a5, a6⟩ := ki_wd h1 h2
  rw [← a1]
  by_cases hl : p < n ∧ isLt (B p)
  · have hnd : ¬ isD (B p) := fun z => by have := z.2; have := hl.2.1; omega
    have h2 : ¬ two B n p := fun z => by
      have q := hl.2
      rcases z.1 with w | w <;> (rw [w] at q; exact absurd q (by decide))
    have ek : kd B n p = wkF B p (rEnd bL B n p) := by
      unfold kd en
      rw [if_neg (by omega), if_neg hnd, if_pos hl.2, if_neg h2, if_pos hl.2]
    rw [ek, ← wk_iff a3, show 16 + (ki i - 16) = ki i by omega]
  · have e : rEnd bL B n p = p := rE_out (by
      by_cases z : p < n
      · exact Or.inr (fun w => hl ⟨z, of_decide_eq_true w⟩)
      · exact Or.inl (by omega))
    have hk : kd B n p < 16 := by
      unfold kd
      by_cases z : n ≤ p
      · rw [if_pos z]; decide
      · rw [if_neg z]
        by_cases w : isD (B p)
        · rw [if_pos w]; decide
        · rw [if_neg w, if_neg (fun y => hl ⟨by omega, y⟩)]; exact sgn_lt _ _
    constructor
    · intro z; omega
    · intro z
      obtain ⟨b1, -⟩ := mtb_iff.mp z
      rw [e, a1, a4] at b1
      omega
set_option maxRecDepth 100000 in
set_option maxHeartbeats 4000000 in
theorem mX11_stood (d : Nat) (h : mm_H) (B : Nat → Int32) (n p ft : Nat) (t : MT B n h p ft) (hp : p ≤ n) (i : Nat) (h1 : 1 ≤ i) (h2 : i < 18) : mm_M (d + 4) YX11_stood [.ref 165, .ref (1000 + i)] h (some (.int (pI (kd B n p = ki i)))) h := by
  refine mm_M.of [some (.ref 165), some (.ref (1000 + i)), none, none, none] rfl rfl (Nat.le_of_ble_eq_true rfl) ?_
  obtain ⟨a1, a2, a3, a4, a5, a6⟩ := ki_wd h1 h2
  have hn4 := t.2.2.2.2.1
  have hR := kd_w (B := B) hp h1 h2
  obtain ⟨R, eR⟩ : ∃ R, R = (kd B n p = ki i) := ⟨_, rfl⟩
  rw [← eR] at hR ⊢
  obtain ⟨e, ee⟩ : ∃ e, e = rEnd bL B n p := ⟨_, rfl⟩
  have hbd := rE_bd2 (P := bL) (B := B) hp
  have all := rE_all (P := bL) (B := B) (n := n) (n - p) p (by omega)
  rw [← ee] at hbd all hR
  obtain ⟨L, eL⟩ : ∃ L, L = mm_sl.getD i 0 := ⟨_, rfl⟩
  have hmt : R ↔ e - p = L ∧ ∀ k, k < L → B (p + k) = (mm_sb.getD i []).getD k 0 := by rw [hR, mtb_iff, a4, eL]
  have ML := mJ0_length (d + 2) h i h2
  rw [← eL] at ML a5 a6 a4
  have Kend : ∀ (x : Int32) (k : Int32), x = 0 → ¬ R → mm_R (d + 4) YX11_stood 63 [some (.ref 165), some (.ref (1000 + i)), some (.int (nI e)), some (.int x), some (.int k)] [] h (some (.int (pI R))) h := by
    intro x k hx hn
    subst hx
    refine mm_iload dX11_stood_63 rfl ?_
    refine mm_aload_n dX11_stood_65 rfl rfl ?_
    refine mm_callVS (Y1 := YJ0_length_8abf5) dX11_stood_66 lX11_222 uJ0_length_8abf5 (ML) h2 rfl rfl (by simp [Value.category]) ?_
    refine mm_icmp_ge 109 dX11_stood_69 (by decide) (fun c_69 => ?_) (fun c_69 => ?_)
    · refine mm_iload_n dX11_stood_109 rfl rfl ?_
      exact mm_zretE dX11_stood_110 rfl (pI_nar _) (pI_0 hn).symm rfl
    · refine mm_iload_n dX11_stood_72 rfl rfl ?_
      refine mm_if_eq 109 dX11_stood_73 (by decide) (fun c_73 => ?_) (fun c_73 => ?_)
      · refine mm_iload_n dX11_stood_109 rfl rfl ?_
        exact mm_zretE dX11_stood_110 rfl (pI_nar _) (pI_0 hn).symm rfl
      · exact absurd c_73 (by decide)
  have K63 : ∀ m k, k + m = L → e - p = L → (∀ j, j < k → B (p + j) = (mm_sb.getD i []).getD j 0) → mm_R (d + 4) YX11_stood 63 [some (.ref 165), some (.ref (1000 + i)), some (.int (nI e)), some (.int 1), some (.int (nI k))] [] h (some (.int (pI R))) h := by
    intro m
    induction m with
    | zero =>
      intro k hk hel hall
      have hk : k = L := by omega
      subst hk
      have hy : R := hmt.mpr ⟨hel, hall⟩
      refine mm_iload dX11_stood_63 rfl ?_
      refine mm_aload_n dX11_stood_65 rfl rfl ?_
      refine mm_callVS (Y1 := YJ0_length_8abf5) dX11_stood_66 lX11_222 uJ0_length_8abf5 (ML) h2 rfl rfl (by simp [Value.category]) ?_
      refine mm_icmp_ge 109 dX11_stood_69 (by decide) (fun c_69 => ?_) (fun c_69 => ?_)
      · refine mm_iload_n dX11_stood_109 rfl rfl ?_
        exact mm_zretE dX11_stood_110 rfl (pI_nar _) (pI_1 hy).symm rfl
      · exact absurd (Int32.le_refl _) c_69
    | succ m ih =>
      intro k hk hel hall
      have hkL : k < L := by omega
      have MC := mJ0_charAt d h i k h2 (by rw [← eL]; exact hkL)
      have eb := t.2.2.2.1 (p + k) (by omega)
      by_cases hc : B (p + k) = (mm_sb.getD i []).getD k 0
      · have K := ih (k + 1) (by omega) hel (fun j hj => by
          by_cases z : j = k
          · rw [z]; exact hc
          · exact hall j (by omega))
        refine mm_iload dX11_stood_63 rfl ?_
        refine mm_aload_n dX11_stood_65 rfl rfl ?_
        refine mm_callVS (Y1 := YJ0_length_8abf5) dX11_stood_66 lX11_222 uJ0_length_8abf5 (ML) h2 rfl rfl (by simp [Value.category]) ?_
        refine mm_icmp_ge 109 dX11_stood_69 (by decide) (fun c_69 => ?_) (fun c_69 => ?_)
        · exact absurd c_69 (nI_ge hkL (by omega))
        · refine mm_iload_n dX11_stood_72 rfl rfl ?_
          refine mm_if_eq 109 dX11_stood_73 (by decide) (fun c_73 => ?_) (fun c_73 => ?_)
          · exact absurd c_73 (by decide)
          · refine mm_aload_n dX11_stood_76 rfl rfl ?_
            refine mm_getS dX11_stood_77 fX11_71 sh_165 rfl gr_165_32 ?_
            refine mm_aload_n dX11_stood_80 rfl rfl ?_
            refine mm_getI dX11_stood_81 fX11_211 sh_165 rfl ?_
            refine mm_iload dX11_stood_84 rfl ?_
            refine mm_iadd dX11_stood_86 ?_
            refine mm_bald ((p + k)) dX11_stood_87 sh_185 (by rw [t.2.1, nI_add]) (by omega) ?_
            refine mm_aload_n dX11_stood_88 rfl rfl ?_
            refine mm_iload dX11_stood_89 rfl ?_
            refine mm_callVS (Y1 := YJ0_charAt_5068e) dX11_stood_91 lX11_227 uJ0_charAt_5068e (MC) h2 rfl rfl (by simp [Value.category]) ?_
            refine mm_icmp_ne 101 dX11_stood_94 (by decide) (fun c_94 => ?_) (fun c_94 => ?_)
            · exact absurd (eb.trans hc) c_94
            · refine mm_iconst (x := 1) dX11_stood_97 (by decide) ?_
              refine mm_goto 102 dX11_stood_98 (by decide) ?_
              refine mm_istore_n dX11_stood_102 rfl (by decide) rfl ?_
              refine mm_iinc dX11_stood_103 rfl (nI_inc k) rfl ?_
              refine mm_goto 63 dX11_stood_106 (by decide) ?_
              exact K
      · have hn : ¬ R := fun z => hc ((hmt.mp z).2 k hkL)
        refine mm_iload dX11_stood_63 rfl ?_
        refine mm_aload_n dX11_stood_65 rfl rfl ?_
        refine mm_callVS (Y1 := YJ0_length_8abf5) dX11_stood_66 lX11_222 uJ0_length_8abf5 (ML) h2 rfl rfl (by simp [Value.category]) ?_
        refine mm_icmp_ge 109 dX11_stood_69 (by decide) (fun c_69 => ?_) (fun c_69 => ?_)
        · exact absurd c_69 (nI_ge hkL (by omega))
        · refine mm_iload_n dX11_stood_72 rfl rfl ?_
          refine mm_if_eq 109 dX11_stood_73 (by decide) (fun c_73 => ?_) (fun c_73 => ?_)
          · exact absurd c_73 (by decide)
          · refine mm_aload_n dX11_stood_76 rfl rfl ?_
            refine mm_getS dX11_stood_77 fX11_71 sh_165 rfl gr_165_32 ?_
            refine mm_aload_n dX11_stood_80 rfl rfl ?_
            refine mm_getI dX11_stood_81 fX11_211 sh_165 rfl ?_
            refine mm_iload dX11_stood_84 rfl ?_
            refine mm_iadd dX11_stood_86 ?_
            refine mm_bald ((p + k)) dX11_stood_87 sh_185 (by rw [t.2.1, nI_add]) (by omega) ?_
            refine mm_aload_n dX11_stood_88 rfl rfl ?_
            refine mm_iload dX11_stood_89 rfl ?_
            refine mm_callVS (Y1 := YJ0_charAt_5068e) dX11_stood_91 lX11_227 uJ0_charAt_5068e (MC) h2 rfl rfl (by simp [Value.category]) ?_
            refine mm_icmp_ne 101 dX11_stood_94 (by decide) (fun c_94 => ?_) (fun c_94 => ?_)
            · refine mm_iconst (x := 0) dX11_stood_101 (by decide) ?_
              refine mm_istore_n dX11_stood_102 rfl (by decide) rfl ?_
              refine mm_iinc dX11_stood_103 rfl (nI_inc k) rfl ?_
              refine mm_goto 63 dX11_stood_106 (by decide) ?_
              exact Kend _ _ rfl hn
            · exact absurd (eb.symm.trans c_94) hc
  have es : nI e - nI p = nI (e - p) := nI_dif hbd.1
  have K5 : ∀ m q, q + m = e → p ≤ q → mm_R (d + 4) YX11_stood 5 [some (.ref 165), some (.ref (1000 + i)), some (.int (nI q)), none, none] [] h (some (.int (pI R))) h := by
    intro m
    induction m with
    | zero =>
      intro q hq hpq
      have hq : q = e := by omega
      have Kx : mm_R (d + 4) YX11_stood 41 [some (.ref 165), some (.ref (1000 + i)), some (.int (nI e)), none, none] [] h (some (.int (pI R))) h := by
        by_cases hel : e - p = L
        · have K := K63 L 0 (by omega) hel (fun j hj => by omega)
          refine mm_iload_n dX11_stood_41 rfl rfl ?_
          refine mm_aload_n dX11_stood_42 rfl rfl ?_
          refine mm_getI dX11_stood_43 fX11_211 sh_165 rfl ?_
          refine mm_isub dX11_stood_46 ?_
          refine mm_cast (st' := [.int (nI (e - p))]) rfl (by rw [t.2.1, es] <;> rfl) rfl ?_
          refine mm_aload_n dX11_stood_47 rfl rfl ?_
          refine mm_callVS (Y1 := YJ0_length_8abf5) dX11_stood_48 lX11_222 uJ0_length_8abf5 (ML) h2 rfl rfl (by simp [Value.category]) ?_
          refine mm_icmp_ne 58 dX11_stood_51 (by decide) (fun c_51 => ?_) (fun c_51 => ?_)
          · exact absurd (by rw [hel]) c_51
          · refine mm_iconst (x := 1) dX11_stood_54 (by decide) ?_
            refine mm_goto 59 dX11_stood_55 (by decide) ?_
            refine mm_istore_n dX11_stood_59 rfl (by decide) rfl ?_
            refine mm_iconst (x := 0) dX11_stood_60 (by decide) ?_
            refine mm_istore dX11_stood_61 (by decide) rfl ?_
            exact K
        · have hn : ¬ R := fun z => hel (hmt.mp z).1
          refine mm_iload_n dX11_stood_41 rfl rfl ?_
          refine mm_aload_n dX11_stood_42 rfl rfl ?_
          refine mm_getI dX11_stood_43 fX11_211 sh_165 rfl ?_
          refine mm_isub dX11_stood_46 ?_
          refine mm_cast (st' := [.int (nI (e - p))]) rfl (by rw [t.2.1, es] <;> rfl) rfl ?_
          refine mm_aload_n dX11_stood_47 rfl rfl ?_
          refine mm_callVS (Y1 := YJ0_length_8abf5) dX11_stood_48 lX11_222 uJ0_length_8abf5 (ML) h2 rfl rfl (by simp [Value.category]) ?_
          refine mm_icmp_ne 58 dX11_stood_51 (by decide) (fun c_51 => ?_) (fun c_51 => ?_)
          · refine mm_iconst (x := 0) dX11_stood_58 (by decide) ?_
            refine mm_istore_n dX11_stood_59 rfl (by decide) rfl ?_
            refine mm_iconst (x := 0) dX11_stood_60 (by decide) ?_
            refine mm_istore dX11_stood_61 (by decide) rfl ?_
            exact Kend _ _ rfl hn
          · exact absurd ((nI_eq (by omega) (by omega)).mp c_51) hel
      rw [hq]
      by_cases hen : e = n
      · skip
        refine mm_iload_n dX11_stood_5 rfl rfl ?_
        refine mm_aload_n dX11_stood_6 rfl rfl ?_
        refine mm_getI dX11_stood_7 fX11_181 sh_165 rfl ?_
        refine mm_icmp_ge 41 dX11_stood_10 (by decide) (fun c_10 => ?_) (fun c_10 => ?_)
        · exact Kx
        · exact absurd (by rw [t.1, hen]; exact Int32.le_refl _) c_10
      · have stp := rE_stop (P := bL) (B := B) (n := n) (n - p) p (by omega)
        rw [← ee] at stp
        have hnl : ¬ isLt (B e) := fun z => (stp.resolve_left hen) (decide_eq_true z)
        have eb := t.2.2.2.1 e (by omega)
        refine mm_iload_n dX11_stood_5 rfl rfl ?_
        refine mm_aload_n dX11_stood_6 rfl rfl ?_
        refine mm_getI dX11_stood_7 fX11_181 sh_165 rfl ?_
        refine mm_icmp_ge 41 dX11_stood_10 (by decide) (fun c_10 => ?_) (fun c_10 => ?_)
        · exact absurd (by rw [t.1] at c_10; exact c_10) (nI_ge (show e < n by omega) (by omega))
        · refine mm_aload_n dX11_stood_13 rfl rfl ?_
          refine mm_getS dX11_stood_14 fX11_71 sh_165 rfl gr_165_32 ?_
          refine mm_iload_n dX11_stood_17 rfl rfl ?_
          refine mm_bald (e) dX11_stood_18 sh_185 rfl (by omega) ?_
          refine mm_bipush (x := 97) dX11_stood_19 (by decide) ?_
          refine mm_icmp_lt 41 dX11_stood_21 (by decide) (fun c_21 => ?_) (fun c_21 => ?_)
          · exact Kx
          · refine mm_aload_n dX11_stood_24 rfl rfl ?_
            refine mm_getS dX11_stood_25 fX11_71 sh_165 rfl gr_165_32 ?_
            refine mm_iload_n dX11_stood_28 rfl rfl ?_
            refine mm_bald (e) dX11_stood_29 sh_185 rfl (by omega) ?_
            refine mm_bipush (x := 122) dX11_stood_30 (by decide) ?_
            refine mm_icmp_gt 41 dX11_stood_32 (by decide) (fun c_32 => ?_) (fun c_32 => ?_)
            · exact Kx
            · exact absurd ⟨by rw [eb, Int32.lt_iff_toInt_lt, t97] at c_21; omega, by rw [eb, Int32.lt_iff_toInt_lt, t122] at c_32; omega⟩ hnl
    | succ m ih =>
      intro q hq hpq
      have K := ih (q + 1) (by omega) (by omega)
      have hl : isLt (B q) := of_decide_eq_true (all q hpq (by omega))
      have eb := t.2.2.2.1 q (by omega)
      refine mm_iload_n dX11_stood_5 rfl rfl ?_
      refine mm_aload_n dX11_stood_6 rfl rfl ?_
      refine mm_getI dX11_stood_7 fX11_181 sh_165 rfl ?_
      refine mm_icmp_ge 41 dX11_stood_10 (by decide) (fun c_10 => ?_) (fun c_10 => ?_)
      · exact absurd (by rw [t.1] at c_10; exact c_10) (nI_ge (show q < n by omega) (by omega))
      · refine mm_aload_n dX11_stood_13 rfl rfl ?_
        refine mm_getS dX11_stood_14 fX11_71 sh_165 rfl gr_165_32 ?_
        refine mm_iload_n dX11_stood_17 rfl rfl ?_
        refine mm_bald (q) dX11_stood_18 sh_185 rfl (by omega) ?_
        refine mm_bipush (x := 97) dX11_stood_19 (by decide) ?_
        refine mm_icmp_lt 41 dX11_stood_21 (by decide) (fun c_21 => ?_) (fun c_21 => ?_)
        · exfalso; have := hl.1; rw [eb, Int32.lt_iff_toInt_lt, t97] at c_21; omega
        · refine mm_aload_n dX11_stood_24 rfl rfl ?_
          refine mm_getS dX11_stood_25 fX11_71 sh_165 rfl gr_165_32 ?_
          refine mm_iload_n dX11_stood_28 rfl rfl ?_
          refine mm_bald (q) dX11_stood_29 sh_185 rfl (by omega) ?_
          refine mm_bipush (x := 122) dX11_stood_30 (by decide) ?_
          refine mm_icmp_gt 41 dX11_stood_32 (by decide) (fun c_32 => ?_) (fun c_32 => ?_)
          · exfalso; have := hl.2; rw [eb, Int32.lt_iff_toInt_lt, t122] at c_32; omega
          · refine mm_iinc dX11_stood_35 rfl (nI_inc q) rfl ?_
            refine mm_goto 5 dX11_stood_38 (by decide) ?_
            exact K
  have K := K5 (e - p) p (by omega) (Nat.le_refl _)
  refine mm_aload_n dX11_stood_0 rfl rfl ?_
  refine mm_getI dX11_stood_1 fX11_211 sh_165 rfl ?_
  refine mm_cast (st' := [.int (nI p)]) rfl (by rw [t.2.1] <;> rfl) rfl ?_
  refine mm_istore_n dX11_stood_4 rfl (by decide) rfl ?_
  exact K
/-- the String of a mint's k-th word -/
def mwS (k : Nat) : Nat := if k = 0 then 6 else 10 + k
theorem mwS_b {k : Nat} (h : k < 4) : 1 ≤ mwS k ∧ mwS k < 18 ∧ ki (mwS k) = (if k = 0 then 21 else 25 + k) := by
  have H : ∀ k, k < 4 → 1 ≤ mwS k ∧ mwS k < 18 ∧ ki (mwS k) = (if k = 0 then 21 else 25 + k) := by decide +kernel
  exact H k h
set_option maxRecDepth 100000 in
set_option maxHeartbeats 4000000 in
theorem mX11_mintWord_0 (d : Nat) (h : mm_H) : mm_M d YX11_mintWord [.int 0] h (some (.ref (1000 + mwS 0))) h := by
  refine mm_M.of [some (.int 0)] rfl rfl (Nat.le_of_ble_eq_true rfl) ?_
  refine mm_iload_n dX11_mintWord_0 rfl rfl ?_
  refine mm_if_ne 9 dX11_mintWord_1 (by decide) (fun c_1 => ?_) (fun c_1 => ?_)
  · exact absurd rfl c_1
  · refine mm_ldcS 6 dX11_mintWord_4 rfl ?_
    refine mm_goto 31 dX11_mintWord_6 (by decide) ?_
    exact mm_areturn dX11_mintWord_31 rfl
set_option maxRecDepth 100000 in
set_option maxHeartbeats 4000000 in
theorem mX11_mintWord_1 (d : Nat) (h : mm_H) : mm_M d YX11_mintWord [.int 1] h (some (.ref (1000 + mwS 1))) h := by
  refine mm_M.of [some (.int 1)] rfl rfl (Nat.le_of_ble_eq_true rfl) ?_
  refine mm_iload_n dX11_mintWord_0 rfl rfl ?_
  refine mm_if_ne 9 dX11_mintWord_1 (by decide) (fun c_1 => ?_) (fun c_1 => ?_)
  · refine mm_iload_n dX11_mintWord_9 rfl rfl ?_
    refine mm_iconst (x := 1) dX11_mintWord_10 (by decide) ?_
    refine mm_icmp_ne 19 dX11_mintWord_11 (by decide) (fun c_11 => ?_) (fun c_11 => ?_)
    · exact absurd rfl c_11
    · refine mm_ldcS 11 dX11_mintWord_14 rfl ?_
      refine mm_goto 31 dX11_mintWord_16 (by decide) ?_
      exact mm_areturn dX11_mintWord_31 rfl
  · exact absurd c_1 (by decide)
set_option maxRecDepth 100000 in
set_option maxHeartbeats 4000000 in
theorem mX11_mintWord_2 (d : Nat) (h : mm_H) : mm_M d YX11_mintWord [.int 2] h (some (.ref (1000 + mwS 2))) h := by
  refine mm_M.of [some (.int 2)] rfl rfl (Nat.le_of_ble_eq_true rfl) ?_
  refine mm_iload_n dX11_mintWord_0 rfl rfl ?_
  refine mm_if_ne 9 dX11_mintWord_1 (by decide) (fun c_1 => ?_) (fun c_1 => ?_)
  · refine mm_iload_n dX11_mintWord_9 rfl rfl ?_
    refine mm_iconst (x := 1) dX11_mintWord_10 (by decide) ?_
    refine mm_icmp_ne 19 dX11_mintWord_11 (by decide) (fun c_11 => ?_) (fun c_11 => ?_)
    · refine mm_iload_n dX11_mintWord_19 rfl rfl ?_
      refine mm_iconst (x := 2) dX11_mintWord_20 (by decide) ?_
      refine mm_icmp_ne 29 dX11_mintWord_21 (by decide) (fun c_21 => ?_) (fun c_21 => ?_)
      · exact absurd rfl c_21
      · refine mm_ldcS 12 dX11_mintWord_24 rfl ?_
        refine mm_goto 31 dX11_mintWord_26 (by decide) ?_
        exact mm_areturn dX11_mintWord_31 rfl
    · exact absurd c_11 (by decide)
  · exact absurd c_1 (by decide)
set_option maxRecDepth 100000 in
set_option maxHeartbeats 4000000 in
theorem mX11_mintWord_3 (d : Nat) (h : mm_H) : mm_M d YX11_mintWord [.int 3] h (some (.ref (1000 + mwS 3))) h := by
  refine mm_M.of [some (.int 3)] rfl rfl (Nat.le_of_ble_eq_true rfl) ?_
  refine mm_iload_n dX11_mintWord_0 rfl rfl ?_
  refine mm_if_ne 9 dX11_mintWord_1 (by decide) (fun c_1 => ?_) (fun c_1 => ?_)
  · refine mm_iload_n dX11_mintWord_9 rfl rfl ?_
    refine mm_iconst (x := 1) dX11_mintWord_10 (by decide) ?_
    refine mm_icmp_ne 19 dX11_mintWord_11 (by decide) (fun c_11 => ?_) (fun c_11 => ?_)
    · refine mm_iload_n dX11_mintWord_19 rfl rfl ?_
      refine mm_iconst (x := 2) dX11_mintWord_20 (by decide) ?_
      refine mm_icmp_ne 29 dX11_mintWord_21 (by decide) (fun c_21 => ?_) (fun c_21 => ?_)
      · refine mm_ldcS 13 dX11_mintWord_29 rfl ?_
        exact mm_areturn dX11_mintWord_31 rfl
      · exact absurd c_21 (by decide)
    · exact absurd c_11 (by decide)
  · exact absurd c_1 (by decide)
theorem mX11_mintWord (d : Nat) (h : mm_H) (k : Nat) (hk : k < 4) : mm_M d YX11_mintWord [.int (nI k)] h (some (.ref (1000 + mwS k))) h := by
  rcases (show k = 0 ∨ k = 1 ∨ k = 2 ∨ k = 3 by omega) with rfl | rfl | rfl | rfl
  · exact mX11_mintWord_0 d h
  · exact mX11_mintWord_1 d h
  · exact mX11_mintWord_2 d h
  · exact mX11_mintWord_3 d h
