/-! The reference reads a law: comparisons. -/
def zl_k (B : Nat → Int32) (n fu : Nat) (s : zl_S) : Except Nat zl_S := zl_b (zl_m B n fu s) (fun s1 => zl_b (zl_g B n s1) (fun s2 => zl_b (zl_m B n fu s2) (fun s3 => .ok (zl_e (kd B n s1.1) s3))))
theorem rs_c {k : Nat} (h : 11 ≤ k ∧ k ≤ 15) : rs (100000 + k) = k - 7 := by
  obtain rfl | rfl | rfl | rfl | rfl : k = 11 ∨ k = 12 ∨ k = 13 ∨ k = 14 ∨ k = 15 := by omega
  all_goals rfl
set_option maxRecDepth 100000 in
set_option maxHeartbeats 4000000 in
theorem mX11_compared (d : Nat) (h : mm_H) (B : Nat → Int32) (n r p : Nat) (hr : r < 6) (s : zl_S) (S : zm_S B n h r s p) (hJ : zl_J 0 s) (fu : Nat) (hfu : n ≤ fu) : ∃ g, mm_M (d + 8) YX11_compared [.ref 165] h none g ∧ mv_fr r h g ∧ MR0 B n g r (zl_k B n fu s) := by
  have hn4 := S.1.2.2.2.2.1
  have hby := S.1.2.2.2.2.2
  have hle := S.le
  have hv := S.2.2.2.2.2.2.2.2
  suffices hE : mm_E (d + 8) YX11_compared 0 [some (.ref 165), none, none] [] h (fun v g => v = none ∧ mv_fr r h g ∧ MR0 B n g r (zl_k B n fu s)) by
    obtain ⟨v, g, hR, rfl, h1⟩ := hE
    exact ⟨g, mm_M.of _ rfl rfl (Nat.le_of_ble_eq_true rfl) hR, h1⟩
  have K94 : ∀ gg (c1 y : Int32) c, mv_fr r h gg → ME B n gg r c → mm_E (d + 8) YX11_compared 94 [some (.ref 165), some (.int c1), some (.int y)] [] gg (fun v g => v = none ∧ mv_fr r h g ∧ MR0 B n g r (.error c)) := by
    intro gg c1 y c fg E
    obtain ⟨g1, M1, f1, E1⟩ := mX11_sum_x d gg B n r c E
    have ME1 : ∀ k v, mm_M (d + 7) YX11_entry [.ref 165, .int k, .int v] g1 none g1 := fun k v => mX11_entry_e (d + 7) g1 B n r c E1 k v
    refine mm_Es (fun _ _ => mm_aload_n dX11_compared_94 rfl rfl) ?_
    refine mm_Es (fun _ _ => mm_cV (Y1 := YX11_sum) dX11_compared_95 lX11_276 vX11_sum (M1) sh_165 rfl rfl (by simp [Value.category])) ?_
    refine mm_Es (fun _ _ => mm_aload_n dX11_compared_98 rfl rfl) ?_
    refine mm_Es (fun _ _ => mm_iload_n dX11_compared_99 rfl rfl) ?_
    refine mm_Es (fun _ _ => mm_bipush (x := 61) dX11_compared_100 (by decide)) ?_
    refine mm_Ebn (fun _ _ => mm_icmp_ne 110 dX11_compared_102 (by decide)) (fun c_102 => ?_) (fun c_102 => ?_)
    · refine mm_Es (fun _ _ => mm_iload_n dX11_compared_110 rfl rfl) ?_
      refine mm_Es (fun _ _ => mm_bipush (x := 60) dX11_compared_111 (by decide)) ?_
      refine mm_Ebn (fun _ _ => mm_icmp_ne 128 dX11_compared_113 (by decide)) (fun c_113 => ?_) (fun c_113 => ?_)
      · refine mm_Es (fun _ _ => mm_iload_n dX11_compared_128 rfl rfl) ?_
        refine mm_Eb (fun _ _ => mm_if_eq 137 dX11_compared_129 (by decide)) (fun c_129 => ?_) (fun c_129 => ?_)
        · refine mm_Es (fun _ _ => mm_bipush (x := 8) dX11_compared_137 (by decide)) ?_
          refine mm_Es (fun _ _ => mm_iconst (x := 0) dX11_compared_139 (by decide)) ?_
          refine mm_Es (fun _ _ => mm_cV (Y1 := YX11_entry) dX11_compared_140 lX11_263 vX11_entry (ME1 _ _) sh_165 rfl rfl (by simp [Value.category])) ?_
          refine mm_Er (mm_return dX11_compared_143 rfl) ?_
          exact ⟨rfl, fg.trans f1, E1⟩
        · refine mm_Es (fun _ _ => mm_bipush (x := 7) dX11_compared_132 (by decide)) ?_
          refine mm_Es (fun _ _ => mm_goto 139 dX11_compared_134 (by decide)) ?_
          refine mm_Es (fun _ _ => mm_iconst (x := 0) dX11_compared_139 (by decide)) ?_
          refine mm_Es (fun _ _ => mm_cV (Y1 := YX11_entry) dX11_compared_140 lX11_263 vX11_entry (ME1 _ _) sh_165 rfl rfl (by simp [Value.category])) ?_
          refine mm_Er (mm_return dX11_compared_143 rfl) ?_
          exact ⟨rfl, fg.trans f1, E1⟩
      · refine mm_Es (fun _ _ => mm_iload_n dX11_compared_116 rfl rfl) ?_
        refine mm_Eb (fun _ _ => mm_if_eq 124 dX11_compared_117 (by decide)) (fun c_117 => ?_) (fun c_117 => ?_)
        · refine mm_Es (fun _ _ => mm_iconst (x := 4) dX11_compared_124 (by decide)) ?_
          refine mm_Es (fun _ _ => mm_goto 139 dX11_compared_125 (by decide)) ?_
          refine mm_Es (fun _ _ => mm_iconst (x := 0) dX11_compared_139 (by decide)) ?_
          refine mm_Es (fun _ _ => mm_cV (Y1 := YX11_entry) dX11_compared_140 lX11_263 vX11_entry (ME1 _ _) sh_165 rfl rfl (by simp [Value.category])) ?_
          refine mm_Er (mm_return dX11_compared_143 rfl) ?_
          exact ⟨rfl, fg.trans f1, E1⟩
        · refine mm_Es (fun _ _ => mm_iconst (x := 5) dX11_compared_120 (by decide)) ?_
          refine mm_Es (fun _ _ => mm_goto 139 dX11_compared_121 (by decide)) ?_
          refine mm_Es (fun _ _ => mm_iconst (x := 0) dX11_compared_139 (by decide)) ?_
          refine mm_Es (fun _ _ => mm_cV (Y1 := YX11_entry) dX11_compared_140 lX11_263 vX11_entry (ME1 _ _) sh_165 rfl rfl (by simp [Value.category])) ?_
          refine mm_Er (mm_return dX11_compared_143 rfl) ?_
          exact ⟨rfl, fg.trans f1, E1⟩
    · refine mm_Es (fun _ _ => mm_bipush (x := 6) dX11_compared_105 (by decide)) ?_
      refine mm_Es (fun _ _ => mm_goto 139 dX11_compared_107 (by decide)) ?_
      refine mm_Es (fun _ _ => mm_iconst (x := 0) dX11_compared_139 (by decide)) ?_
      refine mm_Es (fun _ _ => mm_cV (Y1 := YX11_entry) dX11_compared_140 lX11_263 vX11_entry (ME1 _ _) sh_165 rfl rfl (by simp [Value.category])) ?_
      refine mm_Er (mm_return dX11_compared_143 rfl) ?_
      exact ⟨rfl, fg.trans f1, E1⟩
  have K45 : ∀ gg (c1 : Int32) x2 c p1, mv_fr r h gg → ME B n gg r c → MT B n gg p1 c → p1 < n → mm_E (d + 8) YX11_compared 45 [some (.ref 165), some (.int c1), x2] [] gg (fun v g => v = none ∧ mv_fr r h g ∧ MR0 B n g r (.error c)) := by
    intro gg c1 x2 c p1 fg E t1 hp1
    obtain ⟨g2, eg2⟩ : ∃ g : mm_H, g = (mm_up gg.1 165 21 (nI (p1 + 1)), gg.2.1, gg.2.2) := ⟨_, rfl⟩
    have f2 : mt_fr gg g2 := by rw [eg2]; exact mt_p gg _
    have t2 : MT B n g2 (p1 + 1) c := by rw [eg2]; exact t1.p _
    have E2 : ME B n g2 r c := E.fr f2.mc t2 (by omega)
    have MG := mX11_sign (d + 7) g2 B n (p1 + 1) c t2 (by omega)
    have ep : gg.1 165 21 = nI p1 := t1.2.1
    have K0 := K94 g2 c1 0 c (fg.trans f2.mc.mv) E2
    have e0 : (mm_up g2.1 165 21 (g2.1 165 21 + 0), g2.2.1, g2.2.2) = g2 := by
      rw [show g2.1 165 21 + 0 = g2.1 165 21 by simp, up_self rfl]
    have K1 : sgV B n (p1 + 1) = 61 → mm_E (d + 8) YX11_compared 94 [some (.ref 165), some (.int c1), some (.int 1)] [] (mm_up g2.1 165 21 (g2.1 165 21 + 1), g2.2.1, g2.2.2) (fun v g => v = none ∧ mv_fr r h g ∧ MR0 B n g r (.error c)) := by
      intro z
      have hp2 := ((sgV_eq hby (by decide)).mp z).1
      rw [t2.2.1, show nI (p1 + 1) + 1 = nI (p1 + 1 + 1) from (nI_succ (p1 + 1)).symm]
      exact K94 _ c1 1 c ((fg.trans f2.mc.mv).trans (mt_p g2 _).mc.mv) (E2.fr (mt_p g2 _).mc (t2.p _) (by omega))
    refine mm_Es (fun _ _ => mm_aload_n dX11_compared_45 rfl rfl) ?_
    refine mm_Es (fun _ _ => mm_dup dX11_compared_46 rfl) ?_
    refine mm_Es (fun _ _ => mm_getI dX11_compared_47 fX11_211 sh_165 rfl) ?_
    refine mm_Es (fun _ _ => mm_iconst (x := 1) dX11_compared_50 (by decide)) ?_
    refine mm_Es (fun _ _ => mm_iadd dX11_compared_51) ?_
    refine mm_Es (fun _ _ => mm_putI dX11_compared_52 fX11_211 sh_165 rfl rfl rfl) ?_
    refine mm_Es (fun _ _ => mm_cast rfl rfl (g := g2) (by rw [eg2, ep, nI_succ])) ?_
    refine mm_Es (fun _ _ => mm_iload_n dX11_compared_55 rfl rfl) ?_
    refine mm_Es (fun _ _ => mm_bipush (x := 61) dX11_compared_56 (by decide)) ?_
    refine mm_Eb (fun _ _ => mm_icmp_eq 74 dX11_compared_58 (by decide)) (fun c_58 => ?_) (fun c_58 => ?_)
    · refine mm_Es (fun _ _ => mm_iconst (x := 0) dX11_compared_74 (by decide)) ?_
      refine mm_Es (fun _ _ => mm_istore_n dX11_compared_75 rfl (by decide) rfl) ?_
      refine mm_Es (fun _ _ => mm_aload_n dX11_compared_76 rfl rfl) ?_
      refine mm_Es (fun _ _ => mm_dup dX11_compared_77 rfl) ?_
      refine mm_Es (fun _ _ => mm_getI dX11_compared_78 fX11_211 sh_165 rfl) ?_
      refine mm_Es (fun _ _ => mm_iload_n dX11_compared_81 rfl rfl) ?_
      refine mm_Eb (fun _ _ => mm_if_eq 89 dX11_compared_82 (by decide)) (fun c_82 => ?_) (fun c_82 => ?_)
      · refine mm_Es (fun _ _ => mm_iconst (x := 0) dX11_compared_89 (by decide)) ?_
        refine mm_Es (fun _ _ => mm_iadd dX11_compared_90) ?_
        refine mm_Es (fun _ _ => mm_putI dX11_compared_91 fX11_211 sh_165 rfl rfl rfl) ?_
        first | exact K1 c_67 | exact (by rw [e0]; exact K0)
      · exact absurd c_82 (by decide)
    · refine mm_Es (fun _ _ => mm_aload_n dX11_compared_61 rfl rfl) ?_
      refine mm_Es (fun _ _ => mm_cV (Y1 := YX11_sign) dX11_compared_62 lX11_214 vX11_sign (MG) sh_165 rfl rfl (by simp [Value.category])) ?_
      refine mm_Es (fun _ _ => mm_bipush (x := 61) dX11_compared_65 (by decide)) ?_
      refine mm_Ebn (fun _ _ => mm_icmp_ne 74 dX11_compared_67 (by decide)) (fun c_67 => ?_) (fun c_67 => ?_)
      · refine mm_Es (fun _ _ => mm_iconst (x := 0) dX11_compared_74 (by decide)) ?_
        refine mm_Es (fun _ _ => mm_istore_n dX11_compared_75 rfl (by decide) rfl) ?_
        refine mm_Es (fun _ _ => mm_aload_n dX11_compared_76 rfl rfl) ?_
        refine mm_Es (fun _ _ => mm_dup dX11_compared_77 rfl) ?_
        refine mm_Es (fun _ _ => mm_getI dX11_compared_78 fX11_211 sh_165 rfl) ?_
        refine mm_Es (fun _ _ => mm_iload_n dX11_compared_81 rfl rfl) ?_
        refine mm_Eb (fun _ _ => mm_if_eq 89 dX11_compared_82 (by decide)) (fun c_82 => ?_) (fun c_82 => ?_)
        · refine mm_Es (fun _ _ => mm_iconst (x := 0) dX11_compared_89 (by decide)) ?_
          refine mm_Es (fun _ _ => mm_iadd dX11_compared_90) ?_
          refine mm_Es (fun _ _ => mm_putI dX11_compared_91 fX11_211 sh_165 rfl rfl rfl) ?_
          first | exact K1 c_67 | exact (by rw [e0]; exact K0)
        · exact absurd c_82 (by decide)
      · refine mm_Es (fun _ _ => mm_iconst (x := 1) dX11_compared_70 (by decide)) ?_
        refine mm_Es (fun _ _ => mm_goto 75 dX11_compared_71 (by decide)) ?_
        refine mm_Es (fun _ _ => mm_istore_n dX11_compared_75 rfl (by decide) rfl) ?_
        refine mm_Es (fun _ _ => mm_aload_n dX11_compared_76 rfl rfl) ?_
        refine mm_Es (fun _ _ => mm_dup dX11_compared_77 rfl) ?_
        refine mm_Es (fun _ _ => mm_getI dX11_compared_78 fX11_211 sh_165 rfl) ?_
        refine mm_Es (fun _ _ => mm_iload_n dX11_compared_81 rfl rfl) ?_
        refine mm_Eb (fun _ _ => mm_if_eq 89 dX11_compared_82 (by decide)) (fun c_82 => ?_) (fun c_82 => ?_)
        · exact absurd c_82 (by decide)
        · refine mm_Es (fun _ _ => mm_iconst (x := 1) dX11_compared_85 (by decide)) ?_
          refine mm_Es (fun _ _ => mm_goto 90 dX11_compared_86 (by decide)) ?_
          refine mm_Es (fun _ _ => mm_iadd dX11_compared_90) ?_
          refine mm_Es (fun _ _ => mm_putI dX11_compared_91 fX11_211 sh_165 rfl rfl rfl) ?_
          first | exact K1 c_67 | exact (by rw [e0]; exact K0)
  have K4 : ∀ gg c, mv_fr r h gg → ME B n gg r c → mm_E (d + 8) YX11_compared 4 [some (.ref 165), none, none] [] gg (fun v g => v = none ∧ mv_fr r h g ∧ MR0 B n g r (.error c)) := by
    intro gg c fg E
    have E0 := E
    obtain ⟨p1, t1, hp1, c0, c4, -⟩ := E
    have MG := mX11_sign (d + 7) gg B n p1 c t1 (by omega)
    have ep : gg.1 165 21 = nI p1 := t1.2.1
    have MF := mX11_fails (d + 7) gg B n p1 c t1 (by omega) (by omega) p1 0 (by omega) (by decide)
    rw [flt_x c0, up_self t1.2.2.1] at MF
    obtain ⟨g2, M2, t2, e2, f2⟩ := mX11_isCounted (d + 6) gg B n p1 c t1 (by omega) (by omega) p1 (by omega)
    rw [flt_x c0, ite_self] at t2
    have E2 : ME B n g2 r c := E0.fr f2 t2 hp1
    have K : ∀ x, sgV B n p1 = x → 0 ≤ x.toInt ∧ x.toInt ≤ 127 → mm_E (d + 8) YX11_compared 45 [some (.ref 165), some (.int (sgV B n p1)), none] [] g2 (fun v g => v = none ∧ mv_fr r h g ∧ MR0 B n g r (.error c)) := fun x hx hx2 => K45 g2 (sgV B n p1) none c p1 (fg.trans f2.mv) E2 t2 ((sgV_eq hby hx2).mp hx).1
    refine mm_Es (fun _ _ => mm_aload_n dX11_compared_4 rfl rfl) ?_
    refine mm_Es (fun _ _ => mm_cV (Y1 := YX11_sign) dX11_compared_5 lX11_214 vX11_sign (MG) sh_165 rfl rfl (by simp [Value.category])) ?_
    refine mm_Es (fun _ _ => mm_istore_n dX11_compared_8 rfl (by decide) rfl) ?_
    refine mm_Es (fun _ _ => mm_iload_n dX11_compared_9 rfl rfl) ?_
    refine mm_Es (fun _ _ => mm_bipush (x := 60) dX11_compared_10 (by decide)) ?_
    refine mm_Eb (fun _ _ => mm_icmp_eq 37 dX11_compared_12 (by decide)) (fun c_12 => ?_) (fun c_12 => ?_)
    · refine mm_Es (fun _ _ => mm_aload_n dX11_compared_37 rfl rfl) ?_
      refine mm_Es (fun _ _ => mm_aload_n dX11_compared_38 rfl rfl) ?_
      refine mm_Es (fun _ _ => mm_getI dX11_compared_39 fX11_211 sh_165 rfl) ?_
      refine mm_Es (fun _ _ => mm_cast (st' := [.int (nI p1), .ref 165]) rfl (by rw [ep] <;> rfl) rfl) ?_
      refine mm_Es (fun _ _ => mm_cV (Y1 := YX11_isCounted) dX11_compared_42 lX11_260 vX11_isCounted (M2) sh_165 rfl rfl (by simp [Value.category])) ?_
      first | exact K 62 c_24 (by decide) | exact K 61 c_18 (by decide) | exact K 60 c_12 (by decide)
    · refine mm_Es (fun _ _ => mm_iload_n dX11_compared_15 rfl rfl) ?_
      refine mm_Es (fun _ _ => mm_bipush (x := 61) dX11_compared_16 (by decide)) ?_
      refine mm_Eb (fun _ _ => mm_icmp_eq 37 dX11_compared_18 (by decide)) (fun c_18 => ?_) (fun c_18 => ?_)
      · refine mm_Es (fun _ _ => mm_aload_n dX11_compared_37 rfl rfl) ?_
        refine mm_Es (fun _ _ => mm_aload_n dX11_compared_38 rfl rfl) ?_
        refine mm_Es (fun _ _ => mm_getI dX11_compared_39 fX11_211 sh_165 rfl) ?_
        refine mm_Es (fun _ _ => mm_cast (st' := [.int (nI p1), .ref 165]) rfl (by rw [ep] <;> rfl) rfl) ?_
        refine mm_Es (fun _ _ => mm_cV (Y1 := YX11_isCounted) dX11_compared_42 lX11_260 vX11_isCounted (M2) sh_165 rfl rfl (by simp [Value.category])) ?_
        first | exact K 62 c_24 (by decide) | exact K 61 c_18 (by decide) | exact K 60 c_12 (by decide)
      · refine mm_Es (fun _ _ => mm_iload_n dX11_compared_21 rfl rfl) ?_
        refine mm_Es (fun _ _ => mm_bipush (x := 62) dX11_compared_22 (by decide)) ?_
        refine mm_Eb (fun _ _ => mm_icmp_eq 37 dX11_compared_24 (by decide)) (fun c_24 => ?_) (fun c_24 => ?_)
        · refine mm_Es (fun _ _ => mm_aload_n dX11_compared_37 rfl rfl) ?_
          refine mm_Es (fun _ _ => mm_aload_n dX11_compared_38 rfl rfl) ?_
          refine mm_Es (fun _ _ => mm_getI dX11_compared_39 fX11_211 sh_165 rfl) ?_
          refine mm_Es (fun _ _ => mm_cast (st' := [.int (nI p1), .ref 165]) rfl (by rw [ep] <;> rfl) rfl) ?_
          refine mm_Es (fun _ _ => mm_cV (Y1 := YX11_isCounted) dX11_compared_42 lX11_260 vX11_isCounted (M2) sh_165 rfl rfl (by simp [Value.category])) ?_
          first | exact K 62 c_24 (by decide) | exact K 61 c_18 (by decide) | exact K 60 c_12 (by decide)
        · refine mm_Es (fun _ _ => mm_aload_n dX11_compared_27 rfl rfl) ?_
          refine mm_Es (fun _ _ => mm_iconst (x := 0) dX11_compared_28 (by decide)) ?_
          refine mm_Es (fun _ _ => mm_aload_n dX11_compared_29 rfl rfl) ?_
          refine mm_Es (fun _ _ => mm_getI dX11_compared_30 fX11_211 sh_165 rfl) ?_
          refine mm_Es (fun _ _ => mm_cast (st' := [.int (nI p1), .int (nI 0), .ref 165]) rfl (by rw [ep] <;> rfl) rfl) ?_
          refine mm_Es (fun _ _ => mm_cV (Y1 := YX11_fails) dX11_compared_33 lX11_247 vX11_fails (MF) sh_165 rfl rfl (by simp [Value.category])) ?_
          refine mm_Er (mm_return dX11_compared_36 rfl) ?_
          exact ⟨rfl, fg, E0⟩
  obtain ⟨g1, M1, f1, R1⟩ := mX11_sum d h B n r p hr s S hJ fu (by omega)
  unfold zl_k
  cases e : zl_m B n fu s with
  | error c =>
    rw [e] at R1
    rw [zl_b_e]
    have K := K4 g1 c f1 R1
    refine mm_Es (fun _ _ => mm_aload_n dX11_compared_0 rfl rfl) ?_
    refine mm_Es (fun _ _ => mm_cV (Y1 := YX11_sum) dX11_compared_1 lX11_276 vX11_sum (M1) sh_165 rfl rfl (by simp [Value.category])) ?_
    exact K
  | ok s1 =>
    rw [e] at R1
    rw [zl_b_k]
    obtain ⟨w1, w2, w3, w4⟩ := zl_m_fwd hle e
    have J1 := w4 _ hJ
    have hl1 := zl_J_len hn4 w1 w3 J1
    have MG := mX11_sign (d + 7) g1 B n s1.1 0 R1.1 (by omega)
    have ep1 : g1.1 165 21 = nI s1.1 := R1.1.2.1
    by_cases hk : 11 ≤ kd B n s1.1 ∧ kd B n s1.1 ≤ 15
    · have hp1 : s1.1 < n := kd_pos (B := B) w1 (by omega)
      have hen := en_bd (B := B) hp1
      have een := en_s (B := B) (n := n) (p := s1.1) (by omega)
      have hnx : sk B n (en B n s1.1) = nx B n s1.1 := by unfold nx; rw [if_neg (by omega)]
      obtain ⟨g2, M2, t2, e2, f2⟩ := mX11_isCounted (d + 6) g1 B n s1.1 0 R1.1 (by omega) (by omega) s1.1 (by omega)
      have c60 : g1.1 165 27 = 60 ↔ 60 ≤ s1.2.1 := by rw [R1.2.2.2.1]; exact ⟨fun z => by have := (nI_eq (b := 60) (by omega) (by omega)).mp z; omega, fun z => by rw [show s1.2.1 = 60 by omega]; rfl⟩
      have T : ∀ P, mm_E (d + 8) YX11_compared 45 [some (.ref 165), some (.int (sgV B n s1.1)), none] [] g2 P → mm_E (d + 8) YX11_compared 0 [some (.ref 165), none, none] [] h P := by
        intro P K
        refine mm_Es (fun _ _ => mm_aload_n dX11_compared_0 rfl rfl) ?_
        refine mm_Es (fun _ _ => mm_cV (Y1 := YX11_sum) dX11_compared_1 lX11_276 vX11_sum (M1) sh_165 rfl rfl (by simp [Value.category])) ?_
        refine mm_Es (fun _ _ => mm_aload_n dX11_compared_4 rfl rfl) ?_
        refine mm_Es (fun _ _ => mm_cV (Y1 := YX11_sign) dX11_compared_5 lX11_214 vX11_sign (MG) sh_165 rfl rfl (by simp [Value.category])) ?_
        refine mm_Es (fun _ _ => mm_istore_n dX11_compared_8 rfl (by decide) rfl) ?_
        refine mm_Es (fun _ _ => mm_iload_n dX11_compared_9 rfl rfl) ?_
        refine mm_Es (fun _ _ => mm_bipush (x := 60) dX11_compared_10 (by decide)) ?_
        refine mm_Eb (fun _ _ => mm_icmp_eq 37 dX11_compared_12 (by decide)) (fun c_12 => ?_) (fun c_12 => ?_)
        · refine mm_Es (fun _ _ => mm_aload_n dX11_compared_37 rfl rfl) ?_
          refine mm_Es (fun _ _ => mm_aload_n dX11_compared_38 rfl rfl) ?_
          refine mm_Es (fun _ _ => mm_getI dX11_compared_39 fX11_211 sh_165 rfl) ?_
          refine mm_Es (fun _ _ => mm_cast (st' := [.int (nI s1.1), .ref 165]) rfl (by rw [ep1] <;> rfl) rfl) ?_
          refine mm_Es (fun _ _ => mm_cV (Y1 := YX11_isCounted) dX11_compared_42 lX11_260 vX11_isCounted (M2) sh_165 rfl rfl (by simp [Value.category])) ?_
          exact K
        · refine mm_Es (fun _ _ => mm_iload_n dX11_compared_15 rfl rfl) ?_
          refine mm_Es (fun _ _ => mm_bipush (x := 61) dX11_compared_16 (by decide)) ?_
          refine mm_Eb (fun _ _ => mm_icmp_eq 37 dX11_compared_18 (by decide)) (fun c_18 => ?_) (fun c_18 => ?_)
          · refine mm_Es (fun _ _ => mm_aload_n dX11_compared_37 rfl rfl) ?_
            refine mm_Es (fun _ _ => mm_aload_n dX11_compared_38 rfl rfl) ?_
            refine mm_Es (fun _ _ => mm_getI dX11_compared_39 fX11_211 sh_165 rfl) ?_
            refine mm_Es (fun _ _ => mm_cast (st' := [.int (nI s1.1), .ref 165]) rfl (by rw [ep1] <;> rfl) rfl) ?_
            refine mm_Es (fun _ _ => mm_cV (Y1 := YX11_isCounted) dX11_compared_42 lX11_260 vX11_isCounted (M2) sh_165 rfl rfl (by simp [Value.category])) ?_
            exact K
          · refine mm_Es (fun _ _ => mm_iload_n dX11_compared_21 rfl rfl) ?_
            refine mm_Es (fun _ _ => mm_bipush (x := 62) dX11_compared_22 (by decide)) ?_
            refine mm_Eb (fun _ _ => mm_icmp_eq 37 dX11_compared_24 (by decide)) (fun c_24 => ?_) (fun c_24 => ?_)
            · refine mm_Es (fun _ _ => mm_aload_n dX11_compared_37 rfl rfl) ?_
              refine mm_Es (fun _ _ => mm_aload_n dX11_compared_38 rfl rfl) ?_
              refine mm_Es (fun _ _ => mm_getI dX11_compared_39 fX11_211 sh_165 rfl) ?_
              refine mm_Es (fun _ _ => mm_cast (st' := [.int (nI s1.1), .ref 165]) rfl (by rw [ep1] <;> rfl) rfl) ?_
              refine mm_Es (fun _ _ => mm_cV (Y1 := YX11_isCounted) dX11_compared_42 lX11_260 vX11_isCounted (M2) sh_165 rfl rfl (by simp [Value.category])) ?_
              exact K
            · exfalso
              rcases (show (kd B n s1.1 = 11 ∨ kd B n s1.1 = 12) ∨ kd B n s1.1 = 13 ∨ (kd B n s1.1 = 15 ∨ kd B n s1.1 = 14) by omega) with z | z | z
              · exact c_12 ((sg_11 hby).mpr z)
              · exact c_18 ((sg_13 hby).mpr z)
              · exact c_24 ((sg_15 hby).mpr z)
      refine T _ ?_
      by_cases k6 : 60 ≤ s1.2.1
      · have eg : zl_g B n s1 = .error (1 + 8 * s1.1 + 3) := by unfold zl_g; rw [if_neg (fun z => z hk), if_pos k6]
        rw [eg, zl_b_e]
        rw [if_pos (c60.mpr k6), flt_0] at t2
        exact K45 g2 _ none _ s1.1 (f1.trans f2.mv) (R1.e f2 t2 (by omega) (by omega) (by omega)) t2 hp1
      · have eg : zl_g B n s1 = .ok (nx B n s1.1, s1.2.1 + 1, s1.2.2) := by unfold zl_g; rw [if_neg (fun z => z hk), if_neg k6]
        rw [eg, zl_b_k]
        rw [if_neg (fun z => k6 (c60.mp z))] at t2
        obtain ⟨g3, eg3⟩ : ∃ g : mm_H, g = (mm_up g2.1 165 21 (nI (s1.1 + 1)), g2.2.1, g2.2.2) := ⟨_, rfl⟩
        have f3 : mt_fr g2 g3 := by rw [eg3]; exact mt_p g2 _
        have t3 : MT B n g3 (s1.1 + 1) 0 := by rw [eg3]; exact t2.p _
        have ep2 : g2.1 165 21 = nI s1.1 := t2.2.1
        obtain ⟨g4, eg4⟩ : ∃ g : mm_H, g = (mm_up g3.1 165 21 (nI (en B n s1.1)), g3.2.1, g3.2.2) := ⟨_, rfl⟩
        have f4 : mt_fr g3 g4 := by rw [eg4]; exact mt_p g3 _
        have t4 : MT B n g4 (en B n s1.1) 0 := by rw [eg4]; exact t3.p _
        have fc := (f2.trans f3.mc).trans f4.mc
        have S4 : zm_S B n g4 r (nx B n s1.1, s1.2.1 + 1, s1.2.2) (en B n s1.1) := R1.to fc t4 hen.2 hnx (by rw [f4.2 27 (by decide) (by decide), f3.2 27 (by decide) (by decide), e2, R1.2.2.2.1, nI_succ]) (by omega)
        have g1f := zl_g_fwd w1 eg
        have J4 := g1f.2.2.2 _ J1
        obtain ⟨g5, M5, f5, R5⟩ := mX11_sum d g4 B n r (en B n s1.1) hr _ S4 (zl_J_le J4 (by omega)) fu (by omega)
        have fA := (f1.trans fc.mv).trans f5
        have MG3 := mX11_sign (d + 7) g3 B n (s1.1 + 1) 0 t3 (by omega)
        have hB : isBin (kd B n s1.1) := Or.inl (by omega)
        obtain ⟨kk, ekk⟩ : ∃ kk, kk = nI (rs (100000 + kd B n s1.1)) := ⟨_, rfl⟩
        have T2 : ∀ P g6, mm_M (d + 7) YX11_entry [.ref 165, .int kk, .int 0] g5 none g6 → P none g6 → mm_E (d + 8) YX11_compared 45 [some (.ref 165), some (.int (sgV B n s1.1)), none] [] g2 P := by
          intro P g6 M6 HP
          have tw : two B n s1.1 ↔ kd B n s1.1 = 12 ∨ kd B n s1.1 = 14 := by
            obtain ⟨-, b, -⟩ := kd_inv (B := B) (n := n) (p := s1.1) (by omega)
            refine ⟨fun z => ?_, fun z => ?_⟩
            · rcases z.1 with w | w
              · have b2 := (kd_c (n := n) ⟨hp1, w⟩ (by decide) (by decide)).trans sgn_v11
                rw [if_pos z] at b2; exact Or.inl b2
              · have b2 := (kd_c (n := n) ⟨hp1, w⟩ (by decide) (by decide)).trans sgn_v15
                rw [if_pos z] at b2; exact Or.inr b2
            · rcases z with z | z
              · have w := sgn_i11 (Or.inr (b.symm.trans z))
                have b2 := (kd_c (n := n) ⟨hp1, w⟩ (by decide) (by decide)).trans sgn_v11
                by_cases y : two B n s1.1
                · exact y
                · rw [if_neg y] at b2; omega
              · have w := sgn_i15 (Or.inr (b.symm.trans z))
                have b2 := (kd_c (n := n) ⟨hp1, w⟩ (by decide) (by decide)).trans sgn_v15
                by_cases y : two B n s1.1
                · exact y
                · rw [if_neg y] at b2; omega
          have tn : two B n s1.1 → sgV B n (s1.1 + 1) = 61 := fun z => (sgV_eq hby (by decide)).mpr z.2
          have tf : (sgV B n s1.1 = 60 ∨ sgV B n s1.1 = 62) → ¬ two B n s1.1 → ¬ sgV B n (s1.1 + 1) = 61 := fun z y w => y ⟨z.imp (fun q => ((sgV_eq hby (by decide)).mp q).2) (fun q => ((sgV_eq hby (by decide)).mp q).2), (sgV_eq hby (by decide)).mp w⟩
          rcases (show kd B n s1.1 = 11 ∨ kd B n s1.1 = 12 ∨ kd B n s1.1 = 13 ∨ kd B n s1.1 = 14 ∨ kd B n s1.1 = 15 by omega) with z | z | z | z | z
          · have ec : sgV B n s1.1 = 60 := (sg_11 hby).mpr (Or.inl z)
            rw [z] at ekk
            have ekk : kk = 4 := ekk
            have ht : ¬ two B n s1.1 := fun y => by have := tw.mp y; omega
            rw [if_neg ht] at een
            have h6 := tf (Or.inl ec) ht
            rw [ec]
            rw [ekk] at M6
            have K94 : mm_E (d + 8) YX11_compared 94 [some (.ref 165), some (.int 60), some (.int 0)] [] g4 P := by
              refine mm_Es (fun _ _ => mm_aload_n dX11_compared_94 rfl rfl) ?_
              refine mm_Es (fun _ _ => mm_cV (Y1 := YX11_sum) dX11_compared_95 lX11_276 vX11_sum (M5) sh_165 rfl rfl (by simp [Value.category])) ?_
              refine mm_Es (fun _ _ => mm_aload_n dX11_compared_98 rfl rfl) ?_
              refine mm_Es (fun _ _ => mm_iload_n dX11_compared_99 rfl rfl) ?_
              refine mm_Es (fun _ _ => mm_bipush (x := 61) dX11_compared_100 (by decide)) ?_
              refine mm_Ebn (fun _ _ => mm_icmp_ne 110 dX11_compared_102 (by decide)) (fun c_102 => ?_) (fun c_102 => ?_)
              · refine mm_Es (fun _ _ => mm_iload_n dX11_compared_110 rfl rfl) ?_
                refine mm_Es (fun _ _ => mm_bipush (x := 60) dX11_compared_111 (by decide)) ?_
                refine mm_Ebn (fun _ _ => mm_icmp_ne 128 dX11_compared_113 (by decide)) (fun c_113 => ?_) (fun c_113 => ?_)
                · exact absurd c_113 (by decide)
                · refine mm_Es (fun _ _ => mm_iload_n dX11_compared_116 rfl rfl) ?_
                  refine mm_Eb (fun _ _ => mm_if_eq 124 dX11_compared_117 (by decide)) (fun c_117 => ?_) (fun c_117 => ?_)
                  · refine mm_Es (fun _ _ => mm_iconst (x := 4) dX11_compared_124 (by decide)) ?_
                    refine mm_Es (fun _ _ => mm_goto 139 dX11_compared_125 (by decide)) ?_
                    refine mm_Es (fun _ _ => mm_iconst (x := 0) dX11_compared_139 (by decide)) ?_
                    refine mm_Es (fun _ _ => mm_cV (Y1 := YX11_entry) dX11_compared_140 lX11_263 vX11_entry (M6) sh_165 rfl rfl (by simp [Value.category])) ?_
                    refine mm_Er (mm_return dX11_compared_143 rfl) ?_
                    exact HP
                  · exact absurd c_117 (by decide)
              · exact absurd c_102 (by decide)
            refine mm_Es (fun _ _ => mm_aload_n dX11_compared_45 rfl rfl) ?_
            refine mm_Es (fun _ _ => mm_dup dX11_compared_46 rfl) ?_
            refine mm_Es (fun _ _ => mm_getI dX11_compared_47 fX11_211 sh_165 rfl) ?_
            refine mm_Es (fun _ _ => mm_iconst (x := 1) dX11_compared_50 (by decide)) ?_
            refine mm_Es (fun _ _ => mm_iadd dX11_compared_51) ?_
            refine mm_Es (fun _ _ => mm_putI dX11_compared_52 fX11_211 sh_165 rfl rfl rfl) ?_
            refine mm_Es (fun _ _ => mm_cast rfl rfl (g := g3) (by rw [eg3, ep2, nI_succ])) ?_
            refine mm_Es (fun _ _ => mm_iload_n dX11_compared_55 rfl rfl) ?_
            refine mm_Es (fun _ _ => mm_bipush (x := 61) dX11_compared_56 (by decide)) ?_
            refine mm_Eb (fun _ _ => mm_icmp_eq 74 dX11_compared_58 (by decide)) (fun c_58 => ?_) (fun c_58 => ?_)
            · exact absurd c_58 (by decide)
            · refine mm_Es (fun _ _ => mm_aload_n dX11_compared_61 rfl rfl) ?_
              refine mm_Es (fun _ _ => mm_cV (Y1 := YX11_sign) dX11_compared_62 lX11_214 vX11_sign (MG3) sh_165 rfl rfl (by simp [Value.category])) ?_
              refine mm_Es (fun _ _ => mm_bipush (x := 61) dX11_compared_65 (by decide)) ?_
              refine mm_Ebn (fun _ _ => mm_icmp_ne 74 dX11_compared_67 (by decide)) (fun c_67 => ?_) (fun c_67 => ?_)
              · refine mm_Es (fun _ _ => mm_iconst (x := 0) dX11_compared_74 (by decide)) ?_
                refine mm_Es (fun _ _ => mm_istore_n dX11_compared_75 rfl (by decide) rfl) ?_
                refine mm_Es (fun _ _ => mm_aload_n dX11_compared_76 rfl rfl) ?_
                refine mm_Es (fun _ _ => mm_dup dX11_compared_77 rfl) ?_
                refine mm_Es (fun _ _ => mm_getI dX11_compared_78 fX11_211 sh_165 rfl) ?_
                refine mm_Es (fun _ _ => mm_iload_n dX11_compared_81 rfl rfl) ?_
                refine mm_Eb (fun _ _ => mm_if_eq 89 dX11_compared_82 (by decide)) (fun c_82 => ?_) (fun c_82 => ?_)
                · refine mm_Es (fun _ _ => mm_iconst (x := 0) dX11_compared_89 (by decide)) ?_
                  refine mm_Es (fun _ _ => mm_iadd dX11_compared_90) ?_
                  refine mm_Es (fun _ _ => mm_putI dX11_compared_91 fX11_211 sh_165 rfl rfl rfl) ?_
                  refine mm_Es (fun _ _ => mm_cast rfl rfl (g := g4) (by rw [eg4, een, t3.2.1]; simp)) ?_
                  exact K94
                · exact absurd c_82 (by decide)
              · exact absurd c_67 h6
          · have ec : sgV B n s1.1 = 60 := (sg_11 hby).mpr (Or.inr z)
            rw [z] at ekk
            have ekk : kk = 5 := ekk
            have ht := tw.mpr (by omega)
            rw [tn ht] at MG3
            rw [if_pos ht] at een
            rw [ec]
            rw [ekk] at M6
            have K94 : mm_E (d + 8) YX11_compared 94 [some (.ref 165), some (.int 60), some (.int 1)] [] g4 P := by
              refine mm_Es (fun _ _ => mm_aload_n dX11_compared_94 rfl rfl) ?_
              refine mm_Es (fun _ _ => mm_cV (Y1 := YX11_sum) dX11_compared_95 lX11_276 vX11_sum (M5) sh_165 rfl rfl (by simp [Value.category])) ?_
              refine mm_Es (fun _ _ => mm_aload_n dX11_compared_98 rfl rfl) ?_
              refine mm_Es (fun _ _ => mm_iload_n dX11_compared_99 rfl rfl) ?_
              refine mm_Es (fun _ _ => mm_bipush (x := 61) dX11_compared_100 (by decide)) ?_
              refine mm_Ebn (fun _ _ => mm_icmp_ne 110 dX11_compared_102 (by decide)) (fun c_102 => ?_) (fun c_102 => ?_)
              · refine mm_Es (fun _ _ => mm_iload_n dX11_compared_110 rfl rfl) ?_
                refine mm_Es (fun _ _ => mm_bipush (x := 60) dX11_compared_111 (by decide)) ?_
                refine mm_Ebn (fun _ _ => mm_icmp_ne 128 dX11_compared_113 (by decide)) (fun c_113 => ?_) (fun c_113 => ?_)
                · exact absurd c_113 (by decide)
                · refine mm_Es (fun _ _ => mm_iload_n dX11_compared_116 rfl rfl) ?_
                  refine mm_Eb (fun _ _ => mm_if_eq 124 dX11_compared_117 (by decide)) (fun c_117 => ?_) (fun c_117 => ?_)
                  · exact absurd c_117 (by decide)
                  · refine mm_Es (fun _ _ => mm_iconst (x := 5) dX11_compared_120 (by decide)) ?_
                    refine mm_Es (fun _ _ => mm_goto 139 dX11_compared_121 (by decide)) ?_
                    refine mm_Es (fun _ _ => mm_iconst (x := 0) dX11_compared_139 (by decide)) ?_
                    refine mm_Es (fun _ _ => mm_cV (Y1 := YX11_entry) dX11_compared_140 lX11_263 vX11_entry (M6) sh_165 rfl rfl (by simp [Value.category])) ?_
                    refine mm_Er (mm_return dX11_compared_143 rfl) ?_
                    exact HP
              · exact absurd c_102 (by decide)
            refine mm_Es (fun _ _ => mm_aload_n dX11_compared_45 rfl rfl) ?_
            refine mm_Es (fun _ _ => mm_dup dX11_compared_46 rfl) ?_
            refine mm_Es (fun _ _ => mm_getI dX11_compared_47 fX11_211 sh_165 rfl) ?_
            refine mm_Es (fun _ _ => mm_iconst (x := 1) dX11_compared_50 (by decide)) ?_
            refine mm_Es (fun _ _ => mm_iadd dX11_compared_51) ?_
            refine mm_Es (fun _ _ => mm_putI dX11_compared_52 fX11_211 sh_165 rfl rfl rfl) ?_
            refine mm_Es (fun _ _ => mm_cast rfl rfl (g := g3) (by rw [eg3, ep2, nI_succ])) ?_
            refine mm_Es (fun _ _ => mm_iload_n dX11_compared_55 rfl rfl) ?_
            refine mm_Es (fun _ _ => mm_bipush (x := 61) dX11_compared_56 (by decide)) ?_
            refine mm_Eb (fun _ _ => mm_icmp_eq 74 dX11_compared_58 (by decide)) (fun c_58 => ?_) (fun c_58 => ?_)
            · exact absurd c_58 (by decide)
            · refine mm_Es (fun _ _ => mm_aload_n dX11_compared_61 rfl rfl) ?_
              refine mm_Es (fun _ _ => mm_cV (Y1 := YX11_sign) dX11_compared_62 lX11_214 vX11_sign (MG3) sh_165 rfl rfl (by simp [Value.category])) ?_
              refine mm_Es (fun _ _ => mm_bipush (x := 61) dX11_compared_65 (by decide)) ?_
              refine mm_Ebn (fun _ _ => mm_icmp_ne 74 dX11_compared_67 (by decide)) (fun c_67 => ?_) (fun c_67 => ?_)
              · exact absurd c_67 (by decide)
              · refine mm_Es (fun _ _ => mm_iconst (x := 1) dX11_compared_70 (by decide)) ?_
                refine mm_Es (fun _ _ => mm_goto 75 dX11_compared_71 (by decide)) ?_
                refine mm_Es (fun _ _ => mm_istore_n dX11_compared_75 rfl (by decide) rfl) ?_
                refine mm_Es (fun _ _ => mm_aload_n dX11_compared_76 rfl rfl) ?_
                refine mm_Es (fun _ _ => mm_dup dX11_compared_77 rfl) ?_
                refine mm_Es (fun _ _ => mm_getI dX11_compared_78 fX11_211 sh_165 rfl) ?_
                refine mm_Es (fun _ _ => mm_iload_n dX11_compared_81 rfl rfl) ?_
                refine mm_Eb (fun _ _ => mm_if_eq 89 dX11_compared_82 (by decide)) (fun c_82 => ?_) (fun c_82 => ?_)
                · exact absurd c_82 (by decide)
                · refine mm_Es (fun _ _ => mm_iconst (x := 1) dX11_compared_85 (by decide)) ?_
                  refine mm_Es (fun _ _ => mm_goto 90 dX11_compared_86 (by decide)) ?_
                  refine mm_Es (fun _ _ => mm_iadd dX11_compared_90) ?_
                  refine mm_Es (fun _ _ => mm_putI dX11_compared_91 fX11_211 sh_165 rfl rfl rfl) ?_
                  refine mm_Es (fun _ _ => mm_cast rfl rfl (g := g4) (by rw [eg4, een, t3.2.1]; rw [nI_succ (s1.1 + 1)])) ?_
                  exact K94
          · have ec : sgV B n s1.1 = 61 := (sg_13 hby).mpr z
            rw [z] at ekk
            have ekk : kk = 6 := ekk
            have ht : ¬ two B n s1.1 := fun y => by have := tw.mp y; omega
            rw [if_neg ht] at een
            rw [ec]
            rw [ekk] at M6
            have K94 : mm_E (d + 8) YX11_compared 94 [some (.ref 165), some (.int 61), some (.int 0)] [] g4 P := by
              refine mm_Es (fun _ _ => mm_aload_n dX11_compared_94 rfl rfl) ?_
              refine mm_Es (fun _ _ => mm_cV (Y1 := YX11_sum) dX11_compared_95 lX11_276 vX11_sum (M5) sh_165 rfl rfl (by simp [Value.category])) ?_
              refine mm_Es (fun _ _ => mm_aload_n dX11_compared_98 rfl rfl) ?_
              refine mm_Es (fun _ _ => mm_iload_n dX11_compared_99 rfl rfl) ?_
              refine mm_Es (fun _ _ => mm_bipush (x := 61) dX11_compared_100 (by decide)) ?_
              refine mm_Ebn (fun _ _ => mm_icmp_ne 110 dX11_compared_102 (by decide)) (fun c_102 => ?_) (fun c_102 => ?_)
              · exact absurd c_102 (by decide)
              · refine mm_Es (fun _ _ => mm_bipush (x := 6) dX11_compared_105 (by decide)) ?_
                refine mm_Es (fun _ _ => mm_goto 139 dX11_compared_107 (by decide)) ?_
                refine mm_Es (fun _ _ => mm_iconst (x := 0) dX11_compared_139 (by decide)) ?_
                refine mm_Es (fun _ _ => mm_cV (Y1 := YX11_entry) dX11_compared_140 lX11_263 vX11_entry (M6) sh_165 rfl rfl (by simp [Value.category])) ?_
                refine mm_Er (mm_return dX11_compared_143 rfl) ?_
                exact HP
            refine mm_Es (fun _ _ => mm_aload_n dX11_compared_45 rfl rfl) ?_
            refine mm_Es (fun _ _ => mm_dup dX11_compared_46 rfl) ?_
            refine mm_Es (fun _ _ => mm_getI dX11_compared_47 fX11_211 sh_165 rfl) ?_
            refine mm_Es (fun _ _ => mm_iconst (x := 1) dX11_compared_50 (by decide)) ?_
            refine mm_Es (fun _ _ => mm_iadd dX11_compared_51) ?_
            refine mm_Es (fun _ _ => mm_putI dX11_compared_52 fX11_211 sh_165 rfl rfl rfl) ?_
            refine mm_Es (fun _ _ => mm_cast rfl rfl (g := g3) (by rw [eg3, ep2, nI_succ])) ?_
            refine mm_Es (fun _ _ => mm_iload_n dX11_compared_55 rfl rfl) ?_
            refine mm_Es (fun _ _ => mm_bipush (x := 61) dX11_compared_56 (by decide)) ?_
            refine mm_Eb (fun _ _ => mm_icmp_eq 74 dX11_compared_58 (by decide)) (fun c_58 => ?_) (fun c_58 => ?_)
            · refine mm_Es (fun _ _ => mm_iconst (x := 0) dX11_compared_74 (by decide)) ?_
              refine mm_Es (fun _ _ => mm_istore_n dX11_compared_75 rfl (by decide) rfl) ?_
              refine mm_Es (fun _ _ => mm_aload_n dX11_compared_76 rfl rfl) ?_
              refine mm_Es (fun _ _ => mm_dup dX11_compared_77 rfl) ?_
              refine mm_Es (fun _ _ => mm_getI dX11_compared_78 fX11_211 sh_165 rfl) ?_
              refine mm_Es (fun _ _ => mm_iload_n dX11_compared_81 rfl rfl) ?_
              refine mm_Eb (fun _ _ => mm_if_eq 89 dX11_compared_82 (by decide)) (fun c_82 => ?_) (fun c_82 => ?_)
              · refine mm_Es (fun _ _ => mm_iconst (x := 0) dX11_compared_89 (by decide)) ?_
                refine mm_Es (fun _ _ => mm_iadd dX11_compared_90) ?_
                refine mm_Es (fun _ _ => mm_putI dX11_compared_91 fX11_211 sh_165 rfl rfl rfl) ?_
                refine mm_Es (fun _ _ => mm_cast rfl rfl (g := g4) (by rw [eg4, een, t3.2.1]; simp)) ?_
                exact K94
              · exact absurd c_82 (by decide)
            · exact absurd c_58 (by decide)
          · have ec : sgV B n s1.1 = 62 := (sg_15 hby).mpr (Or.inr z)
            rw [z] at ekk
            have ekk : kk = 7 := ekk
            have ht := tw.mpr (by omega)
            rw [tn ht] at MG3
            rw [if_pos ht] at een
            rw [ec]
            rw [ekk] at M6
            have K94 : mm_E (d + 8) YX11_compared 94 [some (.ref 165), some (.int 62), some (.int 1)] [] g4 P := by
              refine mm_Es (fun _ _ => mm_aload_n dX11_compared_94 rfl rfl) ?_
              refine mm_Es (fun _ _ => mm_cV (Y1 := YX11_sum) dX11_compared_95 lX11_276 vX11_sum (M5) sh_165 rfl rfl (by simp [Value.category])) ?_
              refine mm_Es (fun _ _ => mm_aload_n dX11_compared_98 rfl rfl) ?_
              refine mm_Es (fun _ _ => mm_iload_n dX11_compared_99 rfl rfl) ?_
              refine mm_Es (fun _ _ => mm_bipush (x := 61) dX11_compared_100 (by decide)) ?_
              refine mm_Ebn (fun _ _ => mm_icmp_ne 110 dX11_compared_102 (by decide)) (fun c_102 => ?_) (fun c_102 => ?_)
              · refine mm_Es (fun _ _ => mm_iload_n dX11_compared_110 rfl rfl) ?_
                refine mm_Es (fun _ _ => mm_bipush (x := 60) dX11_compared_111 (by decide)) ?_
                refine mm_Ebn (fun _ _ => mm_icmp_ne 128 dX11_compared_113 (by decide)) (fun c_113 => ?_) (fun c_113 => ?_)
                · refine mm_Es (fun _ _ => mm_iload_n dX11_compared_128 rfl rfl) ?_
                  refine mm_Eb (fun _ _ => mm_if_eq 137 dX11_compared_129 (by decide)) (fun c_129 => ?_) (fun c_129 => ?_)
                  · exact absurd c_129 (by decide)
                  · refine mm_Es (fun _ _ => mm_bipush (x := 7) dX11_compared_132 (by decide)) ?_
                    refine mm_Es (fun _ _ => mm_goto 139 dX11_compared_134 (by decide)) ?_
                    refine mm_Es (fun _ _ => mm_iconst (x := 0) dX11_compared_139 (by decide)) ?_
                    refine mm_Es (fun _ _ => mm_cV (Y1 := YX11_entry) dX11_compared_140 lX11_263 vX11_entry (M6) sh_165 rfl rfl (by simp [Value.category])) ?_
                    refine mm_Er (mm_return dX11_compared_143 rfl) ?_
                    exact HP
                · exact absurd c_113 (by decide)
              · exact absurd c_102 (by decide)
            refine mm_Es (fun _ _ => mm_aload_n dX11_compared_45 rfl rfl) ?_
            refine mm_Es (fun _ _ => mm_dup dX11_compared_46 rfl) ?_
            refine mm_Es (fun _ _ => mm_getI dX11_compared_47 fX11_211 sh_165 rfl) ?_
            refine mm_Es (fun _ _ => mm_iconst (x := 1) dX11_compared_50 (by decide)) ?_
            refine mm_Es (fun _ _ => mm_iadd dX11_compared_51) ?_
            refine mm_Es (fun _ _ => mm_putI dX11_compared_52 fX11_211 sh_165 rfl rfl rfl) ?_
            refine mm_Es (fun _ _ => mm_cast rfl rfl (g := g3) (by rw [eg3, ep2, nI_succ])) ?_
            refine mm_Es (fun _ _ => mm_iload_n dX11_compared_55 rfl rfl) ?_
            refine mm_Es (fun _ _ => mm_bipush (x := 61) dX11_compared_56 (by decide)) ?_
            refine mm_Eb (fun _ _ => mm_icmp_eq 74 dX11_compared_58 (by decide)) (fun c_58 => ?_) (fun c_58 => ?_)
            · exact absurd c_58 (by decide)
            · refine mm_Es (fun _ _ => mm_aload_n dX11_compared_61 rfl rfl) ?_
              refine mm_Es (fun _ _ => mm_cV (Y1 := YX11_sign) dX11_compared_62 lX11_214 vX11_sign (MG3) sh_165 rfl rfl (by simp [Value.category])) ?_
              refine mm_Es (fun _ _ => mm_bipush (x := 61) dX11_compared_65 (by decide)) ?_
              refine mm_Ebn (fun _ _ => mm_icmp_ne 74 dX11_compared_67 (by decide)) (fun c_67 => ?_) (fun c_67 => ?_)
              · exact absurd c_67 (by decide)
              · refine mm_Es (fun _ _ => mm_iconst (x := 1) dX11_compared_70 (by decide)) ?_
                refine mm_Es (fun _ _ => mm_goto 75 dX11_compared_71 (by decide)) ?_
                refine mm_Es (fun _ _ => mm_istore_n dX11_compared_75 rfl (by decide) rfl) ?_
                refine mm_Es (fun _ _ => mm_aload_n dX11_compared_76 rfl rfl) ?_
                refine mm_Es (fun _ _ => mm_dup dX11_compared_77 rfl) ?_
                refine mm_Es (fun _ _ => mm_getI dX11_compared_78 fX11_211 sh_165 rfl) ?_
                refine mm_Es (fun _ _ => mm_iload_n dX11_compared_81 rfl rfl) ?_
                refine mm_Eb (fun _ _ => mm_if_eq 89 dX11_compared_82 (by decide)) (fun c_82 => ?_) (fun c_82 => ?_)
                · exact absurd c_82 (by decide)
                · refine mm_Es (fun _ _ => mm_iconst (x := 1) dX11_compared_85 (by decide)) ?_
                  refine mm_Es (fun _ _ => mm_goto 90 dX11_compared_86 (by decide)) ?_
                  refine mm_Es (fun _ _ => mm_iadd dX11_compared_90) ?_
                  refine mm_Es (fun _ _ => mm_putI dX11_compared_91 fX11_211 sh_165 rfl rfl rfl) ?_
                  refine mm_Es (fun _ _ => mm_cast rfl rfl (g := g4) (by rw [eg4, een, t3.2.1]; rw [nI_succ (s1.1 + 1)])) ?_
                  exact K94
          · have ec : sgV B n s1.1 = 62 := (sg_15 hby).mpr (Or.inl z)
            rw [z] at ekk
            have ekk : kk = 8 := ekk
            have ht : ¬ two B n s1.1 := fun y => by have := tw.mp y; omega
            rw [if_neg ht] at een
            have h6 := tf (Or.inr ec) ht
            rw [ec]
            rw [ekk] at M6
            have K94 : mm_E (d + 8) YX11_compared 94 [some (.ref 165), some (.int 62), some (.int 0)] [] g4 P := by
              refine mm_Es (fun _ _ => mm_aload_n dX11_compared_94 rfl rfl) ?_
              refine mm_Es (fun _ _ => mm_cV (Y1 := YX11_sum) dX11_compared_95 lX11_276 vX11_sum (M5) sh_165 rfl rfl (by simp [Value.category])) ?_
              refine mm_Es (fun _ _ => mm_aload_n dX11_compared_98 rfl rfl) ?_
              refine mm_Es (fun _ _ => mm_iload_n dX11_compared_99 rfl rfl) ?_
              refine mm_Es (fun _ _ => mm_bipush (x := 61) dX11_compared_100 (by decide)) ?_
              refine mm_Ebn (fun _ _ => mm_icmp_ne 110 dX11_compared_102 (by decide)) (fun c_102 => ?_) (fun c_102 => ?_)
              · refine mm_Es (fun _ _ => mm_iload_n dX11_compared_110 rfl rfl) ?_
                refine mm_Es (fun _ _ => mm_bipush (x := 60) dX11_compared_111 (by decide)) ?_
                refine mm_Ebn (fun _ _ => mm_icmp_ne 128 dX11_compared_113 (by decide)) (fun c_113 => ?_) (fun c_113 => ?_)
                · refine mm_Es (fun _ _ => mm_iload_n dX11_compared_128 rfl rfl) ?_
                  refine mm_Eb (fun _ _ => mm_if_eq 137 dX11_compared_129 (by decide)) (fun c_129 => ?_) (fun c_129 => ?_)
                  · refine mm_Es (fun _ _ => mm_bipush (x := 8) dX11_compared_137 (by decide)) ?_
                    refine mm_Es (fun _ _ => mm_iconst (x := 0) dX11_compared_139 (by decide)) ?_
                    refine mm_Es (fun _ _ => mm_cV (Y1 := YX11_entry) dX11_compared_140 lX11_263 vX11_entry (M6) sh_165 rfl rfl (by simp [Value.category])) ?_
                    refine mm_Er (mm_return dX11_compared_143 rfl) ?_
                    exact HP
                  · exact absurd c_129 (by decide)
                · exact absurd c_113 (by decide)
              · exact absurd c_102 (by decide)
            refine mm_Es (fun _ _ => mm_aload_n dX11_compared_45 rfl rfl) ?_
            refine mm_Es (fun _ _ => mm_dup dX11_compared_46 rfl) ?_
            refine mm_Es (fun _ _ => mm_getI dX11_compared_47 fX11_211 sh_165 rfl) ?_
            refine mm_Es (fun _ _ => mm_iconst (x := 1) dX11_compared_50 (by decide)) ?_
            refine mm_Es (fun _ _ => mm_iadd dX11_compared_51) ?_
            refine mm_Es (fun _ _ => mm_putI dX11_compared_52 fX11_211 sh_165 rfl rfl rfl) ?_
            refine mm_Es (fun _ _ => mm_cast rfl rfl (g := g3) (by rw [eg3, ep2, nI_succ])) ?_
            refine mm_Es (fun _ _ => mm_iload_n dX11_compared_55 rfl rfl) ?_
            refine mm_Es (fun _ _ => mm_bipush (x := 61) dX11_compared_56 (by decide)) ?_
            refine mm_Eb (fun _ _ => mm_icmp_eq 74 dX11_compared_58 (by decide)) (fun c_58 => ?_) (fun c_58 => ?_)
            · exact absurd c_58 (by decide)
            · refine mm_Es (fun _ _ => mm_aload_n dX11_compared_61 rfl rfl) ?_
              refine mm_Es (fun _ _ => mm_cV (Y1 := YX11_sign) dX11_compared_62 lX11_214 vX11_sign (MG3) sh_165 rfl rfl (by simp [Value.category])) ?_
              refine mm_Es (fun _ _ => mm_bipush (x := 61) dX11_compared_65 (by decide)) ?_
              refine mm_Ebn (fun _ _ => mm_icmp_ne 74 dX11_compared_67 (by decide)) (fun c_67 => ?_) (fun c_67 => ?_)
              · refine mm_Es (fun _ _ => mm_iconst (x := 0) dX11_compared_74 (by decide)) ?_
                refine mm_Es (fun _ _ => mm_istore_n dX11_compared_75 rfl (by decide) rfl) ?_
                refine mm_Es (fun _ _ => mm_aload_n dX11_compared_76 rfl rfl) ?_
                refine mm_Es (fun _ _ => mm_dup dX11_compared_77 rfl) ?_
                refine mm_Es (fun _ _ => mm_getI dX11_compared_78 fX11_211 sh_165 rfl) ?_
                refine mm_Es (fun _ _ => mm_iload_n dX11_compared_81 rfl rfl) ?_
                refine mm_Eb (fun _ _ => mm_if_eq 89 dX11_compared_82 (by decide)) (fun c_82 => ?_) (fun c_82 => ?_)
                · refine mm_Es (fun _ _ => mm_iconst (x := 0) dX11_compared_89 (by decide)) ?_
                  refine mm_Es (fun _ _ => mm_iadd dX11_compared_90) ?_
                  refine mm_Es (fun _ _ => mm_putI dX11_compared_91 fX11_211 sh_165 rfl rfl rfl) ?_
                  refine mm_Es (fun _ _ => mm_cast rfl rfl (g := g4) (by rw [eg4, een, t3.2.1]; simp)) ?_
                  exact K94
                · exact absurd c_82 (by decide)
              · exact absurd c_67 h6
        cases e5 : zl_m B n fu (nx B n s1.1, s1.2.1 + 1, s1.2.2) with
        | error c =>
          rw [e5] at R5
          rw [zl_b_e]
          exact T2 _ g5 (mX11_entry_e (d + 7) g5 B n r c R5 kk 0) ⟨rfl, fA, R5⟩
        | ok s3 =>
          rw [e5] at R5
          rw [zl_b_k]
          obtain ⟨u1, u2, u3, u4⟩ := zl_m_fwd g1f.1 e5
          have hl5 := zl_J_len hn4 u1 u3 (u4 _ J4)
          obtain ⟨g6, M6, f6, S6⟩ := mX11_entry_t (d + 7) g5 B n r s3.1 hr s3 R5 (by omega) (100000 + kd B n s1.1) kk 0 ekk (by rw [rs_b (Or.inl hB)]; rfl)
          exact T2 _ g6 M6 ⟨rfl, fA.trans f6, S6⟩
    · have eg : zl_g B n s1 = .error (1 + 8 * s1.1) := by unfold zl_g; rw [if_pos hk]
      rw [eg, zl_b_e]
      have n1 : ¬ sgV B n s1.1 = 60 := fun z => hk (by have := (sg_11 hby).mp z; omega)
      have n2 : ¬ sgV B n s1.1 = 61 := fun z => hk (by have := (sg_13 hby).mp z; omega)
      have n3 : ¬ sgV B n s1.1 = 62 := fun z => hk (by have := (sg_15 hby).mp z; omega)
      have MF := mX11_fails (d + 7) g1 B n s1.1 0 R1.1 (by omega) (by omega) s1.1 0 (by omega) (by decide)
      rw [flt_0] at MF
      have E1 : ME B n (mm_up g1.1 165 22 (nI (1 + 8 * s1.1)), g1.2.1, g1.2.2) r (1 + 8 * s1.1) := R1.e (mt_q g1 _).mc (R1.1.f _) w1 (by omega) (by omega)
      refine mm_Es (fun _ _ => mm_aload_n dX11_compared_0 rfl rfl) ?_
      refine mm_Es (fun _ _ => mm_cV (Y1 := YX11_sum) dX11_compared_1 lX11_276 vX11_sum (M1) sh_165 rfl rfl (by simp [Value.category])) ?_
      refine mm_Es (fun _ _ => mm_aload_n dX11_compared_4 rfl rfl) ?_
      refine mm_Es (fun _ _ => mm_cV (Y1 := YX11_sign) dX11_compared_5 lX11_214 vX11_sign (MG) sh_165 rfl rfl (by simp [Value.category])) ?_
      refine mm_Es (fun _ _ => mm_istore_n dX11_compared_8 rfl (by decide) rfl) ?_
      refine mm_Es (fun _ _ => mm_iload_n dX11_compared_9 rfl rfl) ?_
      refine mm_Es (fun _ _ => mm_bipush (x := 60) dX11_compared_10 (by decide)) ?_
      refine mm_Eb (fun _ _ => mm_icmp_eq 37 dX11_compared_12 (by decide)) (fun c_12 => ?_) (fun c_12 => ?_)
      · exact absurd c_12 n1
      · refine mm_Es (fun _ _ => mm_iload_n dX11_compared_15 rfl rfl) ?_
        refine mm_Es (fun _ _ => mm_bipush (x := 61) dX11_compared_16 (by decide)) ?_
        refine mm_Eb (fun _ _ => mm_icmp_eq 37 dX11_compared_18 (by decide)) (fun c_18 => ?_) (fun c_18 => ?_)
        · exact absurd c_18 n2
        · refine mm_Es (fun _ _ => mm_iload_n dX11_compared_21 rfl rfl) ?_
          refine mm_Es (fun _ _ => mm_bipush (x := 62) dX11_compared_22 (by decide)) ?_
          refine mm_Eb (fun _ _ => mm_icmp_eq 37 dX11_compared_24 (by decide)) (fun c_24 => ?_) (fun c_24 => ?_)
          · exact absurd c_24 n3
          · refine mm_Es (fun _ _ => mm_aload_n dX11_compared_27 rfl rfl) ?_
            refine mm_Es (fun _ _ => mm_iconst (x := 0) dX11_compared_28 (by decide)) ?_
            refine mm_Es (fun _ _ => mm_aload_n dX11_compared_29 rfl rfl) ?_
            refine mm_Es (fun _ _ => mm_getI dX11_compared_30 fX11_211 sh_165 rfl) ?_
            refine mm_Es (fun _ _ => mm_cast (st' := [.int (nI s1.1), .int (nI 0), .ref 165]) rfl (by rw [ep1] <;> rfl) rfl) ?_
            refine mm_Es (fun _ _ => mm_cV (Y1 := YX11_fails) dX11_compared_33 lX11_247 vX11_fails (MF) sh_165 rfl rfl (by simp [Value.category])) ?_
            refine mm_Er (mm_return dX11_compared_36 rfl) ?_
            exact ⟨rfl, f1.trans (mt_q g1 _).mc.mv, E1⟩
